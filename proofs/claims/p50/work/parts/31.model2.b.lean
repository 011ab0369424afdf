def yX7_two : MethodName := ⟨RX7, "two", "(IIII)I"⟩
def yX7_changes : MethodName := ⟨RX7, "changes", "(IZ)I"⟩
abbrev cX7_two : ByteArray := prog_9_method_58_code
abbrev cX7_changes : ByteArray := prog_9_method_66_code
abbrev cX7_flip : ByteArray := prog_9_method_57_code
abbrev cX7_grow : ByteArray := prog_9_method_67_code
abbrev cX7_layers : ByteArray := prog_9_method_59_code
abbrev cX7_place : ByteArray := prog_9_method_56_code
abbrev cX7_speed : ByteArray := prog_9_method_60_code
abbrev cX7_turn : ByteArray := prog_9_method_61_code
def yX7_flip : MethodName := ⟨RX7, "flip", "(II)I"⟩
def yX7_grow : MethodName := ⟨RX7, "grow", "(I)I"⟩
def yX7_layers : MethodName := ⟨RX7, "layers", "(III)I"⟩
def yX7_place : MethodName := ⟨RX7, "place", "(III)I"⟩
def yX7_speed : MethodName := ⟨RX7, "speed", "(III)I"⟩
def yX7_turn : MethodName := ⟨RX7, "turn", "(III)I"⟩
theorem dX7_changes_0 : decode cX7_changes 0 = .ok (.aload_n 0, 1) := by decide +kernel
theorem dX7_changes_1 : decode cX7_changes 1 = .ok (.iload_n 1, 1) := by decide +kernel
theorem dX7_changes_2 : decode cX7_changes 2 = .ok (.invokevirtual 301, 3) := by decide +kernel
theorem dX7_changes_5 : decode cX7_changes 5 = .ok (.ifCond .ne 5, 3) := by decide +kernel
theorem dX7_changes_8 : decode cX7_changes 8 = .ok (.iconst (-1), 1) := by decide +kernel
theorem dX7_changes_9 : decode cX7_changes 9 = .ok (.ireturn, 1) := by decide +kernel
theorem dX7_changes_10 : decode cX7_changes 10 = .ok (.aload_n 0, 1) := by decide +kernel
theorem dX7_changes_11 : decode cX7_changes 11 = .ok (.invokevirtual 304, 3) := by decide +kernel
theorem dX7_changes_14 : decode cX7_changes 14 = .ok (.iconst 0, 1) := by decide +kernel
theorem dX7_changes_15 : decode cX7_changes 15 = .ok (.istore_n 3, 1) := by decide +kernel
theorem dX7_changes_16 : decode cX7_changes 16 = .ok (.iconst 0, 1) := by decide +kernel
theorem dX7_changes_17 : decode cX7_changes 17 = .ok (.istore 4, 2) := by decide +kernel
theorem dX7_changes_19 : decode cX7_changes 19 = .ok (.iload 4, 2) := by decide +kernel
theorem dX7_changes_21 : decode cX7_changes 21 = .ok (.aload_n 0, 1) := by decide +kernel
theorem dX7_changes_22 : decode cX7_changes 22 = .ok (.iload_n 1, 1) := by decide +kernel
theorem dX7_changes_23 : decode cX7_changes 23 = .ok (.invokevirtual 205, 3) := by decide +kernel
theorem dX7_changes_26 : decode cX7_changes 26 = .ok (.if_icmp .ge 128, 3) := by decide +kernel
theorem dX7_changes_29 : decode cX7_changes 29 = .ok (.iconst 0, 1) := by decide +kernel
theorem dX7_changes_30 : decode cX7_changes 30 = .ok (.istore 5, 2) := by decide +kernel
theorem dX7_changes_32 : decode cX7_changes 32 = .ok (.iload 5, 2) := by decide +kernel
theorem dX7_changes_34 : decode cX7_changes 34 = .ok (.aload_n 0, 1) := by decide +kernel
theorem dX7_changes_35 : decode cX7_changes 35 = .ok (.iload_n 1, 1) := by decide +kernel
theorem dX7_changes_36 : decode cX7_changes 36 = .ok (.invokevirtual 202, 3) := by decide +kernel
theorem dX7_changes_39 : decode cX7_changes 39 = .ok (.if_icmp .ge 109, 3) := by decide +kernel
theorem dX7_changes_42 : decode cX7_changes 42 = .ok (.aload_n 0, 1) := by decide +kernel
theorem dX7_changes_43 : decode cX7_changes 43 = .ok (.iload_n 1, 1) := by decide +kernel
theorem dX7_changes_44 : decode cX7_changes 44 = .ok (.iload 5, 2) := by decide +kernel
theorem dX7_changes_46 : decode cX7_changes 46 = .ok (.iload 4, 2) := by decide +kernel
theorem dX7_changes_48 : decode cX7_changes 48 = .ok (.invokevirtual 215, 3) := by decide +kernel
theorem dX7_changes_51 : decode cX7_changes 51 = .ok (.istore 6, 2) := by decide +kernel
theorem dX7_changes_53 : decode cX7_changes 53 = .ok (.iload_n 2, 1) := by decide +kernel
theorem dX7_changes_54 : decode cX7_changes 54 = .ok (.ifCond .eq 28, 3) := by decide +kernel
theorem dX7_changes_57 : decode cX7_changes 57 = .ok (.iload 6, 2) := by decide +kernel
theorem dX7_changes_59 : decode cX7_changes 59 = .ok (.ifCond .ne 15, 3) := by decide +kernel
theorem dX7_changes_62 : decode cX7_changes 62 = .ok (.aload_n 0, 1) := by decide +kernel
theorem dX7_changes_63 : decode cX7_changes 63 = .ok (.iload_n 1, 1) := by decide +kernel
theorem dX7_changes_64 : decode cX7_changes 64 = .ok (.iload 5, 2) := by decide +kernel
theorem dX7_changes_66 : decode cX7_changes 66 = .ok (.iload 4, 2) := by decide +kernel
theorem dX7_changes_68 : decode cX7_changes 68 = .ok (.invokevirtual 307, 3) := by decide +kernel
theorem dX7_changes_71 : decode cX7_changes 71 = .ok (.ifCond .le 7, 3) := by decide +kernel
theorem dX7_changes_74 : decode cX7_changes 74 = .ok (.iconst 1, 1) := by decide +kernel
theorem dX7_changes_75 : decode cX7_changes 75 = .ok (.goto 30, 3) := by decide +kernel
theorem dX7_changes_78 : decode cX7_changes 78 = .ok (.iconst 0, 1) := by decide +kernel
theorem dX7_changes_79 : decode cX7_changes 79 = .ok (.goto 26, 3) := by decide +kernel
theorem dX7_changes_82 : decode cX7_changes 82 = .ok (.iload 6, 2) := by decide +kernel
theorem dX7_changes_84 : decode cX7_changes 84 = .ok (.ifCond .eq 20, 3) := by decide +kernel
theorem dX7_changes_87 : decode cX7_changes 87 = .ok (.aload_n 0, 1) := by decide +kernel
theorem dX7_changes_88 : decode cX7_changes 88 = .ok (.iload_n 1, 1) := by decide +kernel
theorem dX7_changes_89 : decode cX7_changes 89 = .ok (.iload 5, 2) := by decide +kernel
theorem dX7_changes_91 : decode cX7_changes 91 = .ok (.iload 4, 2) := by decide +kernel
theorem dX7_changes_93 : decode cX7_changes 93 = .ok (.invokevirtual 307, 3) := by decide +kernel
theorem dX7_changes_96 : decode cX7_changes 96 = .ok (.iconst 4, 1) := by decide +kernel
theorem dX7_changes_97 : decode cX7_changes 97 = .ok (.if_icmp .ne 7, 3) := by decide +kernel
theorem dX7_changes_100 : decode cX7_changes 100 = .ok (.iconst 1, 1) := by decide +kernel
theorem dX7_changes_101 : decode cX7_changes 101 = .ok (.goto 4, 3) := by decide +kernel
theorem dX7_changes_104 : decode cX7_changes 104 = .ok (.iconst 0, 1) := by decide +kernel
theorem dX7_changes_105 : decode cX7_changes 105 = .ok (.istore 7, 2) := by decide +kernel
theorem dX7_changes_107 : decode cX7_changes 107 = .ok (.iload_n 3, 1) := by decide +kernel
theorem dX7_changes_108 : decode cX7_changes 108 = .ok (.iload 7, 2) := by decide +kernel
theorem dX7_changes_110 : decode cX7_changes 110 = .ok (.iload 6, 2) := by decide +kernel
theorem dX7_changes_112 : decode cX7_changes 112 = .ok (.if_icmp .eq 7, 3) := by decide +kernel
theorem dX7_changes_115 : decode cX7_changes 115 = .ok (.iconst 1, 1) := by decide +kernel
theorem dX7_changes_116 : decode cX7_changes 116 = .ok (.goto 4, 3) := by decide +kernel
theorem dX7_changes_119 : decode cX7_changes 119 = .ok (.iconst 0, 1) := by decide +kernel
theorem dX7_changes_120 : decode cX7_changes 120 = .ok (.invokestatic 127, 3) := by decide +kernel
theorem dX7_changes_123 : decode cX7_changes 123 = .ok (.iadd, 1) := by decide +kernel
theorem dX7_changes_124 : decode cX7_changes 124 = .ok (.istore_n 3, 1) := by decide +kernel
theorem dX7_changes_125 : decode cX7_changes 125 = .ok (.iload 7, 2) := by decide +kernel
theorem dX7_changes_127 : decode cX7_changes 127 = .ok (.ifCond .eq 15, 3) := by decide +kernel
theorem dX7_changes_130 : decode cX7_changes 130 = .ok (.aload_n 0, 1) := by decide +kernel
theorem dX7_changes_131 : decode cX7_changes 131 = .ok (.getfield 52, 3) := by decide +kernel
theorem dX7_changes_134 : decode cX7_changes 134 = .ok (.iconst 0, 1) := by decide +kernel
theorem dX7_changes_135 : decode cX7_changes 135 = .ok (.iload 5, 2) := by decide +kernel
theorem dX7_changes_137 : decode cX7_changes 137 = .ok (.iload 4, 2) := by decide +kernel
theorem dX7_changes_139 : decode cX7_changes 139 = .ok (.invokestatic 157, 3) := by decide +kernel
theorem dX7_changes_142 : decode cX7_changes 142 = .ok (.iinc 5 1, 3) := by decide +kernel
theorem dX7_changes_145 : decode cX7_changes 145 = .ok (.goto (-113), 3) := by decide +kernel
theorem dX7_changes_148 : decode cX7_changes 148 = .ok (.iinc 4 1, 3) := by decide +kernel
theorem dX7_changes_151 : decode cX7_changes 151 = .ok (.goto (-132), 3) := by decide +kernel
theorem dX7_changes_154 : decode cX7_changes 154 = .ok (.iload_n 3, 1) := by decide +kernel
theorem dX7_changes_155 : decode cX7_changes 155 = .ok (.ifCond .ne 6, 3) := by decide +kernel
theorem dX7_changes_158 : decode cX7_changes 158 = .ok (.bipush (-2), 2) := by decide +kernel
theorem dX7_changes_160 : decode cX7_changes 160 = .ok (.ireturn, 1) := by decide +kernel
theorem dX7_changes_161 : decode cX7_changes 161 = .ok (.aload_n 0, 1) := by decide +kernel
theorem dX7_changes_162 : decode cX7_changes 162 = .ok (.invokevirtual 286, 3) := by decide +kernel
theorem dX7_changes_165 : decode cX7_changes 165 = .ok (.aload_n 0, 1) := by decide +kernel
theorem dX7_changes_166 : decode cX7_changes 166 = .ok (.iload_n 1, 1) := by decide +kernel
theorem dX7_changes_167 : decode cX7_changes 167 = .ok (.invokevirtual 310, 3) := by decide +kernel
theorem dX7_changes_170 : decode cX7_changes 170 = .ok (.iload_n 3, 1) := by decide +kernel
theorem dX7_changes_171 : decode cX7_changes 171 = .ok (.ireturn, 1) := by decide +kernel
theorem dX7_flip_0 : decode cX7_flip 0 = .ok (.aload_n 0, 1) := by decide +kernel
theorem dX7_flip_1 : decode cX7_flip 1 = .ok (.iload_n 1, 1) := by decide +kernel
theorem dX7_flip_2 : decode cX7_flip 2 = .ok (.invokevirtual 196, 3) := by decide +kernel
theorem dX7_flip_5 : decode cX7_flip 5 = .ok (.ifCond .eq 15, 3) := by decide +kernel
theorem dX7_flip_8 : decode cX7_flip 8 = .ok (.iload_n 2, 1) := by decide +kernel
theorem dX7_flip_9 : decode cX7_flip 9 = .ok (.i2l, 1) := by decide +kernel
theorem dX7_flip_10 : decode cX7_flip 10 = .ok (.lconst 0, 1) := by decide +kernel
theorem dX7_flip_11 : decode cX7_flip 11 = .ok (.ldc2_w 289, 3) := by decide +kernel
theorem dX7_flip_14 : decode cX7_flip 14 = .ok (.invokestatic 96, 3) := by decide +kernel
theorem dX7_flip_17 : decode cX7_flip 17 = .ok (.ifCond .ne 5, 3) := by decide +kernel
theorem dX7_flip_20 : decode cX7_flip 20 = .ok (.iconst (-1), 1) := by decide +kernel
theorem dX7_flip_21 : decode cX7_flip 21 = .ok (.ireturn, 1) := by decide +kernel
theorem dX7_flip_22 : decode cX7_flip 22 = .ok (.aload_n 0, 1) := by decide +kernel
theorem dX7_flip_23 : decode cX7_flip 23 = .ok (.iload_n 1, 1) := by decide +kernel
theorem dX7_flip_24 : decode cX7_flip 24 = .ok (.iconst 3, 1) := by decide +kernel
theorem dX7_flip_25 : decode cX7_flip 25 = .ok (.invokevirtual 199, 3) := by decide +kernel
theorem dX7_flip_28 : decode cX7_flip 28 = .ok (.istore_n 3, 1) := by decide +kernel
theorem dX7_flip_29 : decode cX7_flip 29 = .ok (.iload_n 3, 1) := by decide +kernel
theorem dX7_flip_30 : decode cX7_flip 30 = .ok (.iload_n 2, 1) := by decide +kernel
theorem dX7_flip_31 : decode cX7_flip 31 = .ok (.if_icmp .ne 6, 3) := by decide +kernel
theorem dX7_flip_34 : decode cX7_flip 34 = .ok (.bipush (-2), 2) := by decide +kernel
theorem dX7_flip_36 : decode cX7_flip 36 = .ok (.ireturn, 1) := by decide +kernel
theorem dX7_flip_37 : decode cX7_flip 37 = .ok (.aload_n 0, 1) := by decide +kernel
theorem dX7_flip_38 : decode cX7_flip 38 = .ok (.invokevirtual 286, 3) := by decide +kernel
theorem dX7_flip_41 : decode cX7_flip 41 = .ok (.aload_n 0, 1) := by decide +kernel
theorem dX7_flip_42 : decode cX7_flip 42 = .ok (.iload_n 1, 1) := by decide +kernel
theorem dX7_flip_43 : decode cX7_flip 43 = .ok (.iconst 3, 1) := by decide +kernel
theorem dX7_flip_44 : decode cX7_flip 44 = .ok (.iload_n 2, 1) := by decide +kernel
theorem dX7_flip_45 : decode cX7_flip 45 = .ok (.invokevirtual 276, 3) := by decide +kernel
theorem dX7_flip_48 : decode cX7_flip 48 = .ok (.iload_n 3, 1) := by decide +kernel
theorem dX7_flip_49 : decode cX7_flip 49 = .ok (.ireturn, 1) := by decide +kernel
theorem dX7_grow_0 : decode cX7_grow 0 = .ok (.aload_n 0, 1) := by decide +kernel
theorem dX7_grow_1 : decode cX7_grow 1 = .ok (.iload_n 1, 1) := by decide +kernel
theorem dX7_grow_2 : decode cX7_grow 2 = .ok (.iconst 1, 1) := by decide +kernel
theorem dX7_grow_3 : decode cX7_grow 3 = .ok (.invokevirtual 313, 3) := by decide +kernel
theorem dX7_grow_6 : decode cX7_grow 6 = .ok (.ireturn, 1) := by decide +kernel
theorem dX7_layers_0 : decode cX7_layers 0 = .ok (.aload_n 0, 1) := by decide +kernel
theorem dX7_layers_1 : decode cX7_layers 1 = .ok (.iload_n 1, 1) := by decide +kernel
theorem dX7_layers_2 : decode cX7_layers 2 = .ok (.invokevirtual 196, 3) := by decide +kernel
theorem dX7_layers_5 : decode cX7_layers 5 = .ok (.ifCond .eq 38, 3) := by decide +kernel
theorem dX7_layers_8 : decode cX7_layers 8 = .ok (.iload_n 2, 1) := by decide +kernel
theorem dX7_layers_9 : decode cX7_layers 9 = .ok (.i2l, 1) := by decide +kernel
theorem dX7_layers_10 : decode cX7_layers 10 = .ok (.lconst 0, 1) := by decide +kernel
theorem dX7_layers_11 : decode cX7_layers 11 = .ok (.ldc2_w 291, 3) := by decide +kernel
theorem dX7_layers_14 : decode cX7_layers 14 = .ok (.invokestatic 96, 3) := by decide +kernel
theorem dX7_layers_17 : decode cX7_layers 17 = .ok (.ifCond .eq 26, 3) := by decide +kernel
theorem dX7_layers_20 : decode cX7_layers 20 = .ok (.iload_n 3, 1) := by decide +kernel
theorem dX7_layers_21 : decode cX7_layers 21 = .ok (.i2l, 1) := by decide +kernel
theorem dX7_layers_22 : decode cX7_layers 22 = .ok (.lconst 0, 1) := by decide +kernel
theorem dX7_layers_23 : decode cX7_layers 23 = .ok (.ldc2_w 291, 3) := by decide +kernel
theorem dX7_layers_26 : decode cX7_layers 26 = .ok (.invokestatic 96, 3) := by decide +kernel
theorem dX7_layers_29 : decode cX7_layers 29 = .ok (.ifCond .eq 14, 3) := by decide +kernel
theorem dX7_layers_32 : decode cX7_layers 32 = .ok (.aload_n 0, 1) := by decide +kernel
theorem dX7_layers_33 : decode cX7_layers 33 = .ok (.iload_n 1, 1) := by decide +kernel
theorem dX7_layers_34 : decode cX7_layers 34 = .ok (.iconst 4, 1) := by decide +kernel
theorem dX7_layers_35 : decode cX7_layers 35 = .ok (.iload_n 2, 1) := by decide +kernel
theorem dX7_layers_36 : decode cX7_layers 36 = .ok (.iload_n 3, 1) := by decide +kernel
theorem dX7_layers_37 : decode cX7_layers 37 = .ok (.invokevirtual 293, 3) := by decide +kernel
theorem dX7_layers_40 : decode cX7_layers 40 = .ok (.goto 4, 3) := by decide +kernel
theorem dX7_layers_43 : decode cX7_layers 43 = .ok (.iconst (-1), 1) := by decide +kernel
theorem dX7_layers_44 : decode cX7_layers 44 = .ok (.ireturn, 1) := by decide +kernel
theorem dX7_place_0 : decode cX7_place 0 = .ok (.aload_n 0, 1) := by decide +kernel
theorem dX7_place_1 : decode cX7_place 1 = .ok (.iload_n 1, 1) := by decide +kernel
theorem dX7_place_2 : decode cX7_place 2 = .ok (.invokevirtual 196, 3) := by decide +kernel
theorem dX7_place_5 : decode cX7_place 5 = .ok (.ifCond .eq 12, 3) := by decide +kernel
theorem dX7_place_8 : decode cX7_place 8 = .ok (.aload_n 0, 1) := by decide +kernel
theorem dX7_place_9 : decode cX7_place 9 = .ok (.iload_n 2, 1) := by decide +kernel
theorem dX7_place_10 : decode cX7_place 10 = .ok (.iload_n 3, 1) := by decide +kernel
theorem dX7_place_11 : decode cX7_place 11 = .ok (.invokevirtual 273, 3) := by decide +kernel
theorem dX7_place_14 : decode cX7_place 14 = .ok (.ifCond .ne 5, 3) := by decide +kernel
theorem dX7_place_17 : decode cX7_place 17 = .ok (.iconst (-1), 1) := by decide +kernel
theorem dX7_place_18 : decode cX7_place 18 = .ok (.ireturn, 1) := by decide +kernel
theorem dX7_place_19 : decode cX7_place 19 = .ok (.aload_n 0, 1) := by decide +kernel
theorem dX7_place_20 : decode cX7_place 20 = .ok (.iload_n 1, 1) := by decide +kernel
theorem dX7_place_21 : decode cX7_place 21 = .ok (.iconst 1, 1) := by decide +kernel
theorem dX7_place_22 : decode cX7_place 22 = .ok (.invokevirtual 199, 3) := by decide +kernel
theorem dX7_place_25 : decode cX7_place 25 = .ok (.iload_n 2, 1) := by decide +kernel
theorem dX7_place_26 : decode cX7_place 26 = .ok (.if_icmp .ne 16, 3) := by decide +kernel
theorem dX7_place_29 : decode cX7_place 29 = .ok (.aload_n 0, 1) := by decide +kernel
theorem dX7_place_30 : decode cX7_place 30 = .ok (.iload_n 1, 1) := by decide +kernel
theorem dX7_place_31 : decode cX7_place 31 = .ok (.iconst 2, 1) := by decide +kernel
theorem dX7_place_32 : decode cX7_place 32 = .ok (.invokevirtual 199, 3) := by decide +kernel
theorem dX7_place_35 : decode cX7_place 35 = .ok (.iload_n 3, 1) := by decide +kernel
theorem dX7_place_36 : decode cX7_place 36 = .ok (.if_icmp .ne 6, 3) := by decide +kernel
theorem dX7_place_39 : decode cX7_place 39 = .ok (.bipush (-2), 2) := by decide +kernel
theorem dX7_place_41 : decode cX7_place 41 = .ok (.ireturn, 1) := by decide +kernel
theorem dX7_place_42 : decode cX7_place 42 = .ok (.aload_n 0, 1) := by decide +kernel
theorem dX7_place_43 : decode cX7_place 43 = .ok (.invokevirtual 286, 3) := by decide +kernel
theorem dX7_place_46 : decode cX7_place 46 = .ok (.aload_n 0, 1) := by decide +kernel
theorem dX7_place_47 : decode cX7_place 47 = .ok (.iload_n 1, 1) := by decide +kernel
theorem dX7_place_48 : decode cX7_place 48 = .ok (.iconst 1, 1) := by decide +kernel
theorem dX7_place_49 : decode cX7_place 49 = .ok (.iload_n 2, 1) := by decide +kernel
theorem dX7_place_50 : decode cX7_place 50 = .ok (.invokevirtual 276, 3) := by decide +kernel
theorem dX7_place_53 : decode cX7_place 53 = .ok (.aload_n 0, 1) := by decide +kernel
theorem dX7_place_54 : decode cX7_place 54 = .ok (.iload_n 1, 1) := by decide +kernel
theorem dX7_place_55 : decode cX7_place 55 = .ok (.iconst 2, 1) := by decide +kernel
theorem dX7_place_56 : decode cX7_place 56 = .ok (.iload_n 3, 1) := by decide +kernel
theorem dX7_place_57 : decode cX7_place 57 = .ok (.invokevirtual 276, 3) := by decide +kernel
theorem dX7_place_60 : decode cX7_place 60 = .ok (.iconst 1, 1) := by decide +kernel
theorem dX7_place_61 : decode cX7_place 61 = .ok (.ireturn, 1) := by decide +kernel
theorem dX7_speed_0 : decode cX7_speed 0 = .ok (.aload_n 0, 1) := by decide +kernel
theorem dX7_speed_1 : decode cX7_speed 1 = .ok (.iload_n 1, 1) := by decide +kernel
theorem dX7_speed_2 : decode cX7_speed 2 = .ok (.invokevirtual 196, 3) := by decide +kernel
theorem dX7_speed_5 : decode cX7_speed 5 = .ok (.ifCond .eq 43, 3) := by decide +kernel
theorem dX7_speed_8 : decode cX7_speed 8 = .ok (.iload_n 2, 1) := by decide +kernel
theorem dX7_speed_9 : decode cX7_speed 9 = .ok (.i2l, 1) := by decide +kernel
theorem dX7_speed_10 : decode cX7_speed 10 = .ok (.ldc2_w 297, 3) := by decide +kernel
theorem dX7_speed_13 : decode cX7_speed 13 = .ok (.ldc2_w 299, 3) := by decide +kernel
theorem dX7_speed_16 : decode cX7_speed 16 = .ok (.invokestatic 96, 3) := by decide +kernel
theorem dX7_speed_19 : decode cX7_speed 19 = .ok (.ifCond .eq 29, 3) := by decide +kernel
theorem dX7_speed_22 : decode cX7_speed 22 = .ok (.iload_n 3, 1) := by decide +kernel
theorem dX7_speed_23 : decode cX7_speed 23 = .ok (.i2l, 1) := by decide +kernel
theorem dX7_speed_24 : decode cX7_speed 24 = .ok (.ldc2_w 297, 3) := by decide +kernel
theorem dX7_speed_27 : decode cX7_speed 27 = .ok (.ldc2_w 299, 3) := by decide +kernel
theorem dX7_speed_30 : decode cX7_speed 30 = .ok (.invokestatic 96, 3) := by decide +kernel
theorem dX7_speed_33 : decode cX7_speed 33 = .ok (.ifCond .eq 15, 3) := by decide +kernel
theorem dX7_speed_36 : decode cX7_speed 36 = .ok (.aload_n 0, 1) := by decide +kernel
theorem dX7_speed_37 : decode cX7_speed 37 = .ok (.iload_n 1, 1) := by decide +kernel
theorem dX7_speed_38 : decode cX7_speed 38 = .ok (.bipush 6, 2) := by decide +kernel
theorem dX7_speed_40 : decode cX7_speed 40 = .ok (.iload_n 2, 1) := by decide +kernel
theorem dX7_speed_41 : decode cX7_speed 41 = .ok (.iload_n 3, 1) := by decide +kernel
theorem dX7_speed_42 : decode cX7_speed 42 = .ok (.invokevirtual 293, 3) := by decide +kernel
theorem dX7_speed_45 : decode cX7_speed 45 = .ok (.goto 4, 3) := by decide +kernel
theorem dX7_speed_48 : decode cX7_speed 48 = .ok (.iconst (-1), 1) := by decide +kernel
theorem dX7_speed_49 : decode cX7_speed 49 = .ok (.ireturn, 1) := by decide +kernel
theorem dX7_turn_0 : decode cX7_turn 0 = .ok (.aload_n 0, 1) := by decide +kernel
theorem dX7_turn_1 : decode cX7_turn 1 = .ok (.iload_n 1, 1) := by decide +kernel
theorem dX7_turn_2 : decode cX7_turn 2 = .ok (.invokevirtual 301, 3) := by decide +kernel
theorem dX7_turn_5 : decode cX7_turn 5 = .ok (.ifCond .eq 37, 3) := by decide +kernel
theorem dX7_turn_8 : decode cX7_turn 8 = .ok (.iload_n 2, 1) := by decide +kernel
theorem dX7_turn_9 : decode cX7_turn 9 = .ok (.i2l, 1) := by decide +kernel
theorem dX7_turn_10 : decode cX7_turn 10 = .ok (.lconst 0, 1) := by decide +kernel
theorem dX7_turn_11 : decode cX7_turn 11 = .ok (.aload_n 0, 1) := by decide +kernel
theorem dX7_turn_12 : decode cX7_turn 12 = .ok (.iload_n 1, 1) := by decide +kernel
theorem dX7_turn_13 : decode cX7_turn 13 = .ok (.invokevirtual 202, 3) := by decide +kernel
theorem dX7_turn_16 : decode cX7_turn 16 = .ok (.iconst 1, 1) := by decide +kernel
theorem dX7_turn_17 : decode cX7_turn 17 = .ok (.isub, 1) := by decide +kernel
theorem dX7_turn_18 : decode cX7_turn 18 = .ok (.i2l, 1) := by decide +kernel
theorem dX7_turn_19 : decode cX7_turn 19 = .ok (.invokestatic 96, 3) := by decide +kernel
theorem dX7_turn_22 : decode cX7_turn 22 = .ok (.ifCond .eq 20, 3) := by decide +kernel
theorem dX7_turn_25 : decode cX7_turn 25 = .ok (.iload_n 3, 1) := by decide +kernel
theorem dX7_turn_26 : decode cX7_turn 26 = .ok (.i2l, 1) := by decide +kernel
theorem dX7_turn_27 : decode cX7_turn 27 = .ok (.lconst 0, 1) := by decide +kernel
theorem dX7_turn_28 : decode cX7_turn 28 = .ok (.aload_n 0, 1) := by decide +kernel
theorem dX7_turn_29 : decode cX7_turn 29 = .ok (.iload_n 1, 1) := by decide +kernel
theorem dX7_turn_30 : decode cX7_turn 30 = .ok (.invokevirtual 205, 3) := by decide +kernel
theorem dX7_turn_33 : decode cX7_turn 33 = .ok (.iconst 1, 1) := by decide +kernel
theorem dX7_turn_34 : decode cX7_turn 34 = .ok (.isub, 1) := by decide +kernel
theorem dX7_turn_35 : decode cX7_turn 35 = .ok (.i2l, 1) := by decide +kernel
theorem dX7_turn_36 : decode cX7_turn 36 = .ok (.invokestatic 96, 3) := by decide +kernel
theorem dX7_turn_39 : decode cX7_turn 39 = .ok (.ifCond .ne 5, 3) := by decide +kernel
theorem dX7_turn_42 : decode cX7_turn 42 = .ok (.iconst (-1), 1) := by decide +kernel
theorem dX7_turn_43 : decode cX7_turn 43 = .ok (.ireturn, 1) := by decide +kernel
theorem dX7_turn_44 : decode cX7_turn 44 = .ok (.aload_n 0, 1) := by decide +kernel
theorem dX7_turn_45 : decode cX7_turn 45 = .ok (.invokevirtual 286, 3) := by decide +kernel
theorem dX7_turn_48 : decode cX7_turn 48 = .ok (.aload_n 0, 1) := by decide +kernel
theorem dX7_turn_49 : decode cX7_turn 49 = .ok (.getfield 25, 3) := by decide +kernel
theorem dX7_turn_52 : decode cX7_turn 52 = .ok (.bipush 80, 2) := by decide +kernel
theorem dX7_turn_54 : decode cX7_turn 54 = .ok (.iload_n 1, 1) := by decide +kernel
theorem dX7_turn_55 : decode cX7_turn 55 = .ok (.imul, 1) := by decide +kernel
theorem dX7_turn_56 : decode cX7_turn 56 = .ok (.iconst 2, 1) := by decide +kernel
theorem dX7_turn_57 : decode cX7_turn 57 = .ok (.iload_n 3, 1) := by decide +kernel
theorem dX7_turn_58 : decode cX7_turn 58 = .ok (.imul, 1) := by decide +kernel
theorem dX7_turn_59 : decode cX7_turn 59 = .ok (.iadd, 1) := by decide +kernel
theorem dX7_turn_60 : decode cX7_turn 60 = .ok (.iload_n 2, 1) := by decide +kernel
theorem dX7_turn_61 : decode cX7_turn 61 = .ok (.bipush 64, 2) := by decide +kernel
theorem dX7_turn_63 : decode cX7_turn 63 = .ok (.idiv, 1) := by decide +kernel
theorem dX7_turn_64 : decode cX7_turn 64 = .ok (.iadd, 1) := by decide +kernel
theorem dX7_turn_65 : decode cX7_turn 65 = .ok (.dup2, 1) := by decide +kernel
theorem dX7_turn_66 : decode cX7_turn 66 = .ok (.laload, 1) := by decide +kernel
theorem dX7_turn_67 : decode cX7_turn 67 = .ok (.lconst 1, 1) := by decide +kernel
theorem dX7_turn_68 : decode cX7_turn 68 = .ok (.iload_n 2, 1) := by decide +kernel
theorem dX7_turn_69 : decode cX7_turn 69 = .ok (.bipush 64, 2) := by decide +kernel
theorem dX7_turn_71 : decode cX7_turn 71 = .ok (.irem, 1) := by decide +kernel
theorem dX7_turn_72 : decode cX7_turn 72 = .ok (.lshl, 1) := by decide +kernel
theorem dX7_turn_73 : decode cX7_turn 73 = .ok (.lxor, 1) := by decide +kernel
theorem dX7_turn_74 : decode cX7_turn 74 = .ok (.lastore, 1) := by decide +kernel
theorem dX7_turn_75 : decode cX7_turn 75 = .ok (.aload_n 0, 1) := by decide +kernel
theorem dX7_turn_76 : decode cX7_turn 76 = .ok (.iload_n 1, 1) := by decide +kernel
theorem dX7_turn_77 : decode cX7_turn 77 = .ok (.iload_n 2, 1) := by decide +kernel
theorem dX7_turn_78 : decode cX7_turn 78 = .ok (.iload_n 3, 1) := by decide +kernel
theorem dX7_turn_79 : decode cX7_turn 79 = .ok (.invokevirtual 215, 3) := by decide +kernel
theorem dX7_turn_82 : decode cX7_turn 82 = .ok (.invokestatic 127, 3) := by decide +kernel
theorem dX7_turn_85 : decode cX7_turn 85 = .ok (.ireturn, 1) := by decide +kernel
theorem dX7_two_0 : decode cX7_two 0 = .ok (.aload_n 0, 1) := by decide +kernel
theorem dX7_two_1 : decode cX7_two 1 = .ok (.iload_n 1, 1) := by decide +kernel
theorem dX7_two_2 : decode cX7_two 2 = .ok (.iload_n 2, 1) := by decide +kernel
theorem dX7_two_3 : decode cX7_two 3 = .ok (.invokevirtual 199, 3) := by decide +kernel
theorem dX7_two_6 : decode cX7_two 6 = .ok (.iload_n 3, 1) := by decide +kernel
theorem dX7_two_7 : decode cX7_two 7 = .ok (.if_icmp .ne 19, 3) := by decide +kernel
theorem dX7_two_10 : decode cX7_two 10 = .ok (.aload_n 0, 1) := by decide +kernel
theorem dX7_two_11 : decode cX7_two 11 = .ok (.iload_n 1, 1) := by decide +kernel
theorem dX7_two_12 : decode cX7_two 12 = .ok (.iload_n 2, 1) := by decide +kernel
theorem dX7_two_13 : decode cX7_two 13 = .ok (.iconst 1, 1) := by decide +kernel
theorem dX7_two_14 : decode cX7_two 14 = .ok (.iadd, 1) := by decide +kernel
theorem dX7_two_15 : decode cX7_two 15 = .ok (.invokevirtual 199, 3) := by decide +kernel
theorem dX7_two_18 : decode cX7_two 18 = .ok (.iload 4, 2) := by decide +kernel
theorem dX7_two_20 : decode cX7_two 20 = .ok (.if_icmp .ne 6, 3) := by decide +kernel
theorem dX7_two_23 : decode cX7_two 23 = .ok (.bipush (-2), 2) := by decide +kernel
theorem dX7_two_25 : decode cX7_two 25 = .ok (.ireturn, 1) := by decide +kernel
theorem dX7_two_26 : decode cX7_two 26 = .ok (.aload_n 0, 1) := by decide +kernel
theorem dX7_two_27 : decode cX7_two 27 = .ok (.invokevirtual 286, 3) := by decide +kernel
theorem dX7_two_30 : decode cX7_two 30 = .ok (.aload_n 0, 1) := by decide +kernel
theorem dX7_two_31 : decode cX7_two 31 = .ok (.iload_n 1, 1) := by decide +kernel
theorem dX7_two_32 : decode cX7_two 32 = .ok (.iload_n 2, 1) := by decide +kernel
theorem dX7_two_33 : decode cX7_two 33 = .ok (.iload_n 3, 1) := by decide +kernel
theorem dX7_two_34 : decode cX7_two 34 = .ok (.invokevirtual 276, 3) := by decide +kernel
theorem dX7_two_37 : decode cX7_two 37 = .ok (.aload_n 0, 1) := by decide +kernel
theorem dX7_two_38 : decode cX7_two 38 = .ok (.iload_n 1, 1) := by decide +kernel
theorem dX7_two_39 : decode cX7_two 39 = .ok (.iload_n 2, 1) := by decide +kernel
theorem dX7_two_40 : decode cX7_two 40 = .ok (.iconst 1, 1) := by decide +kernel
theorem dX7_two_41 : decode cX7_two 41 = .ok (.iadd, 1) := by decide +kernel
theorem dX7_two_42 : decode cX7_two 42 = .ok (.iload 4, 2) := by decide +kernel
theorem dX7_two_44 : decode cX7_two 44 = .ok (.invokevirtual 276, 3) := by decide +kernel
theorem dX7_two_47 : decode cX7_two 47 = .ok (.iconst 1, 1) := by decide +kernel
theorem dX7_two_48 : decode cX7_two 48 = .ok (.ireturn, 1) := by decide +kernel
set_option maxRecDepth 100000 in
theorem pq24 : Cond.selects RX7 yX7_isPlace yX7_isPlace ∈ pw := pw_mem (i := 24) (by decide +kernel) rfl
set_option maxRecDepth 100000 in
theorem pq26 : Cond.selects RX7 yX7_keepsPast yX7_keepsPast ∈ pw := pw_mem (i := 26) (by decide +kernel) rfl
set_option maxRecDepth 100000 in
theorem pq29 : Cond.selects RX7 yX7_sets yX7_sets ∈ pw := pw_mem (i := 29) (by decide +kernel) rfl
set_option maxRecDepth 100000 in
theorem pq30 : Cond.selects RX7 yX7_two yX7_two ∈ pw := pw_mem (i := 30) (by decide +kernel) rfl
set_option maxRecDepth 100000 in
theorem pq31 : Cond.selects RX7 yX7_isMask yX7_isMask ∈ pw := pw_mem (i := 31) (by decide +kernel) rfl
set_option maxRecDepth 100000 in
theorem pq35 : Cond.selects RX7 yX7_changes yX7_changes ∈ pw := pw_mem (i := 35) (by decide +kernel) rfl
set_option maxRecDepth 100000 in
theorem pq36 : Cond.selects RX7 yX7_clearsMade yX7_clearsMade ∈ pw := pw_mem (i := 36) (by decide +kernel) rfl
set_option maxRecDepth 100000 in
theorem pq37 : Cond.selects RX7 yX7_around yX7_around ∈ pw := pw_mem (i := 37) (by decide +kernel) rfl
set_option maxRecDepth 100000 in
theorem pq38 : Cond.selects RX7 yX7_takesMade yX7_takesMade ∈ pw := pw_mem (i := 38) (by decide +kernel) rfl
set_option maxRecDepth 100000 in
theorem pq1254 : Cond.methodLink RX7 157 yX7_setsDot ∈ pw := pw_mem (i := 1254) (by decide +kernel) rfl
set_option maxRecDepth 100000 in
theorem pq1255 : Cond.static yX7_setsDot ∈ pw := pw_mem (i := 1255) (by decide +kernel) rfl
set_option maxRecDepth 100000 in
theorem pq1256 : Cond.code yX7_setsDot cX7_setsDot 4 none ∈ pw := pw_mem (i := 1256) (by rfl) rfl
set_option maxRecDepth 100000 in
theorem pq1314 : Cond.methodLink RX7 273 yX7_isPlace ∈ pw := pw_mem (i := 1314) (by decide +kernel) rfl
set_option maxRecDepth 100000 in
theorem pq1316 : Cond.instanceMethod yX7_isPlace ∈ pw := pw_mem (i := 1316) (by decide +kernel) rfl
set_option maxRecDepth 100000 in
theorem pq1317 : Cond.code yX7_isPlace cX7_isPlace 3 (some .boolean) ∈ pw := pw_mem (i := 1317) (by rfl) rfl
set_option maxRecDepth 100000 in
theorem pq1324 : Cond.methodLink RX7 286 yX7_keepsPast ∈ pw := pw_mem (i := 1324) (by decide +kernel) rfl
set_option maxRecDepth 100000 in
theorem pq1326 : Cond.instanceMethod yX7_keepsPast ∈ pw := pw_mem (i := 1326) (by decide +kernel) rfl
set_option maxRecDepth 100000 in
theorem pq1327 : Cond.code yX7_keepsPast cX7_keepsPast 1 none ∈ pw := pw_mem (i := 1327) (by rfl) rfl
set_option maxRecDepth 100000 in
theorem pq1336 : Cond.methodLink RX7 276 yX7_sets ∈ pw := pw_mem (i := 1336) (by decide +kernel) rfl
set_option maxRecDepth 100000 in
theorem pq1338 : Cond.instanceMethod yX7_sets ∈ pw := pw_mem (i := 1338) (by decide +kernel) rfl
set_option maxRecDepth 100000 in
theorem pq1339 : Cond.code yX7_sets cX7_sets 4 none ∈ pw := pw_mem (i := 1339) (by rfl) rfl
set_option maxRecDepth 100000 in
theorem pq1344 : Cond.constantLong RX7 289 (3) ∈ pw := pw_mem (i := 1344) (by decide +kernel) rfl
set_option maxRecDepth 100000 in
theorem pq1349 : Cond.constantLong RX7 291 (15) ∈ pw := pw_mem (i := 1349) (by decide +kernel) rfl
set_option maxRecDepth 100000 in
theorem pq1350 : Cond.methodLink RX7 293 yX7_two ∈ pw := pw_mem (i := 1350) (by decide +kernel) rfl
set_option maxRecDepth 100000 in
theorem pq1352 : Cond.instanceMethod yX7_two ∈ pw := pw_mem (i := 1352) (by decide +kernel) rfl
set_option maxRecDepth 100000 in
theorem pq1353 : Cond.code yX7_two cX7_two 5 (some .int) ∈ pw := pw_mem (i := 1353) (by rfl) rfl
set_option maxRecDepth 100000 in
theorem pq1358 : Cond.constantLong RX7 297 (-20) ∈ pw := pw_mem (i := 1358) (by decide +kernel) rfl
set_option maxRecDepth 100000 in
theorem pq1359 : Cond.constantLong RX7 299 (20) ∈ pw := pw_mem (i := 1359) (by decide +kernel) rfl
set_option maxRecDepth 100000 in
theorem pq1364 : Cond.methodLink RX7 301 yX7_isMask ∈ pw := pw_mem (i := 1364) (by decide +kernel) rfl
set_option maxRecDepth 100000 in
theorem pq1366 : Cond.instanceMethod yX7_isMask ∈ pw := pw_mem (i := 1366) (by decide +kernel) rfl
set_option maxRecDepth 100000 in
theorem pq1367 : Cond.code yX7_isMask cX7_isMask 2 (some .boolean) ∈ pw := pw_mem (i := 1367) (by rfl) rfl
set_option maxRecDepth 100000 in
theorem pq1387 : Cond.methodLink RX7 313 yX7_changes ∈ pw := pw_mem (i := 1387) (by decide +kernel) rfl
set_option maxRecDepth 100000 in
theorem pq1389 : Cond.instanceMethod yX7_changes ∈ pw := pw_mem (i := 1389) (by decide +kernel) rfl
set_option maxRecDepth 100000 in
theorem pq1390 : Cond.code yX7_changes cX7_changes 8 (some .int) ∈ pw := pw_mem (i := 1390) (by rfl) rfl
set_option maxRecDepth 100000 in
theorem pq1391 : Cond.methodLink RX7 304 yX7_clearsMade ∈ pw := pw_mem (i := 1391) (by decide +kernel) rfl
set_option maxRecDepth 100000 in
theorem pq1393 : Cond.instanceMethod yX7_clearsMade ∈ pw := pw_mem (i := 1393) (by decide +kernel) rfl
set_option maxRecDepth 100000 in
theorem pq1394 : Cond.code yX7_clearsMade cX7_clearsMade 2 none ∈ pw := pw_mem (i := 1394) (by rfl) rfl
set_option maxRecDepth 100000 in
theorem pq1395 : Cond.methodLink RX7 307 yX7_around ∈ pw := pw_mem (i := 1395) (by decide +kernel) rfl
set_option maxRecDepth 100000 in
theorem pq1397 : Cond.instanceMethod yX7_around ∈ pw := pw_mem (i := 1397) (by decide +kernel) rfl
set_option maxRecDepth 100000 in
theorem pq1398 : Cond.code yX7_around cX7_around 4 (some .int) ∈ pw := pw_mem (i := 1398) (by rfl) rfl
set_option maxRecDepth 100000 in
theorem pq1399 : Cond.methodLink RX7 310 yX7_takesMade ∈ pw := pw_mem (i := 1399) (by decide +kernel) rfl
set_option maxRecDepth 100000 in
theorem pq1401 : Cond.instanceMethod yX7_takesMade ∈ pw := pw_mem (i := 1401) (by decide +kernel) rfl
set_option maxRecDepth 100000 in
theorem pq1402 : Cond.code yX7_takesMade cX7_takesMade 3 none ∈ pw := pw_mem (i := 1402) (by rfl) rfl
set_option maxHeartbeats 4000000 in
set_option maxRecDepth 100000 in
theorem s_X7_place (l : Launch) (dC : Nat → ClassId) (dI : Nat → Nat → Nat) (cs : Nat → ClassId) (L : List Nat) (K G : Nat → Nat) (Q : Nat → Nat → Option Nat) (hQ : Sv L K G Q) (x0 m0 : Nat) (tx : GT) (tm : GT × Int) (sz : Nat) (I : Nat → Nat → Int32) (J : Nat → Nat → Int64) (hI : Iv L K x0 m0 tx tm I) (p0 : Nat) (hLp0 : p0 ∈ L) (hKp0 : K p0 = 7) (p1 : Int32) (p2 : Int32) (p3 : Int32) : Met l yX7_place (.code yX7_place cX7_place 4 (some .int) :: pw) ({ frames := 3, cells := 0, slots := 0, locals := 67 }) (sP (dC, dI) cs [.ref p0, .int p1, .int p2, .int p3] sz L K I J Q) (va_Qi (fun (r : Int32) (_ : Unit) => (∀ σ : Sx, cmA Q I J p0 σ → r.toInt = (twA σ p1 1 p2 p3 (-999) 999).1)) (fun _ t => sB (dC, dI) cs L K Q (fun I1 J1 => Iv L K x0 m0 tx tm I1 ∧ (∀ b, K b = 0 ∨ K b = 1 ∨ K b = 3 ∨ K b = 6 → I1 b = I b) ∧ (∀ σ : Sx, cmA Q I J p0 σ → cmA Q I1 J1 p0 (twA σ p1 1 p2 p3 (-999) 999).2) ∧ (∀ b, ¬ (K b = 22 ∨ K b = 33) → J1 b = J b)) t) (fun q => q ∈ L ∨ sz ≤ q)) 0 0 (fun q => q ∈ L ∨ sz ≤ q) := by
  refine Met.ofW (cc := cX7_place) (maxL := 4) (ret := (some .int)) (by decide +kernel) rfl ?_
  intro p e s m args below meth c s₁ B hml hv
  obtain ⟨rfl, hsz, hP, hK, hD0, hN⟩ := hv
  have hx := B.exec
  have hb := B.bytes
  have hr := B.returns
  have hts := fun w (h : w ∈ pw) => atoms_spec (ws := Cond.code yX7_place cX7_place 4 (some .int) :: pw) B.pre w (List.mem_cons_of_mem _ h)
  have hown : s.vm.findClass RX7 = some m.cls := findClass_of_methodNamed B.named
  have hlocks := B.notSynchronized
  subst hsz
  have hBB : 999 ≤ tm.2 ∧ tm.2 ≤ 6000000 := hI.2.2.2.2.1
  have dn_I : (∀ b, K b = 0 ∨ K b = 1 ∨ K b = 3 ∨ K b = 6 → I b = I b) := fun _ _ => rfl
  have dj_J : (∀ b, ¬ (K b = 22 ∨ K b = 33) → J b = J b) := fun _ _ => rfl
  obtain ⟨A, hAe⟩ : ∃ A : Nat → Prop, A = (fun q => q ∈ L ∨ s.heap.size ≤ q) := ⟨_, rfl⟩
  rw [← hAe]
  have hAL : ∀ q, q ∈ L → A q := fun q h => by rw [hAe]; exact Or.inl h
  have hA : ∀ q, s.heap.size ≤ q → A q := fun q h => by rw [hAe]; exact Or.inr h
  have hD : ∀ F, va_D A (va_pl L F) := fun F => (hD0 F).weaken (fun k q hk _ => hAL _ (pl_mem hk))
  obtain ⟨H, hHe⟩ : ∃ H : Heap, H = s.heap := ⟨_, rfl⟩
  have hS : va_S A s.heap H [] := by rw [hHe]; exact va_S.rf
  rw [← hHe] at hP
  have hl := lv_entry ([.ref p0, .int p1, .int p2, .int p3]) (n := 4) (Nat.le_of_ble_eq_true rfl)
  rw [lg_entry_eq]
  generalize (lg_sl ([.ref p0, .int p1, .int p2, .int p3]) ++ List.replicate (4 - (lg_sl ([.ref p0, .int p1, .int p2, .int p3])).length) Slot.unset).toArray = ls at hl ⊢
  have hl : lv_has ls 4 [(0, .ref p0), (1, .int p1), (2, .int p2), (3, .int p3)] := hl
  rw [← hHe]
  refine namedW (fun R Qz hR hQz => ?_)
  refine lv_aload_n hx hb dX7_place_0 rfl (lv_at hl 0 rfl) ?_
  refine lv_iload_n hx hb dX7_place_1 rfl (lv_at hl 1 rfl) ?_
  refine ro_i (va_runV (As := [.int p1]) (rest := []) ⟨hx, hb, hml, hown, hts⟩ (s_X7_isBody l dC dI cs L K G Q hQ x0 m0 tx tm H.size I J hI p0 hLp0 hKp0 p1) (cwV 1 hts (gV pq1310 pq1312 pq23 pq81 pq1313) rfl rfl rfl (by decide +kernel) ⟨(by rw [hR]; exact (Nat.le_of_ble_eq_true rfl)), (by rw [hR]; exact (Nat.le_of_ble_eq_true rfl))⟩) (sP_V hP hD hK hN hLp0 hKp0 rfl rfl) rfl rfl hl.1 rfl (lv_room (Nat.le_of_ble_eq_true rfl)) dX7_place_2 ⟨(by rw [hR]; exact (Nat.le_of_ble_eq_true rfl)), (by rw [hR]; exact (Nat.le_of_ble_eq_true rfl))⟩) hS hP (fun z2 H locs hz2 hP hS => ?_)
  obtain ⟨bz2, imz2, xpz2⟩ := hz2
  refine lv_if_eq (tgt := 17) hx hb dX7_place_5 (by decide) (fun c5 => ?_) (fun c5 => ?_)
  · have t5 := tq_eq (k := z2.toInt) (q := (0)) c5 rfl (by decide +kernel)
    refine lv_iconst (v := (-1)) hx hb dX7_place_17 (by decide +kernel) ?_
    subst hR; subst hQz
    exact W.iret (v := (-1)) hx hb hr (fun t ht hW => ⟨⟨(-1), (), rfl, (fun σ A => by have ec : I (a0 Q p0 0) 1 = σ.1.1 1 := cmA_n A (by decide); rw [tw_n (fun q => by unfold twC at q; rw [← ec] at q; first | exact xpz2.2 t5 q.1 | exact xpz11.2 t14 q.2)]; show (-1 : Int32).toInt = -1; decide +kernel), ⟨I, J, ⟨hI, dn_I, (fun σ A => by have ec : I (a0 Q p0 0) 1 = σ.1.1 1 := cmA_n A (by decide); rw [tw_n (fun q => by unfold twC at q; rw [← ec] at q; first | exact xpz2.2 t5 q.1 | exact xpz11.2 t14 q.2)]; exact A), dj_J⟩, by rw [ht]; exact hP⟩⟩, hS.F ht⟩) hS.2.2 dX7_place_18
  · have t5 := tq_ne (k := z2.toInt) (q := (0)) c5 rfl (by decide +kernel)
    have i5 := imz2 t5
    refine lv_aload_n hx hb dX7_place_8 rfl (lv_at hl 0 rfl) ?_
    refine lv_iload_n hx hb dX7_place_9 rfl (lv_at hl 2 rfl) ?_
    refine lv_iload_n hx hb dX7_place_10 rfl (lv_at hl 3 rfl) ?_
    refine ro_i (va_runV (As := [.int p2, .int p3]) (rest := []) ⟨hx, hb, hml, hown, hts⟩ (s_X7_isPlace l dC dI cs L K G Q hQ x0 m0 tx tm H.size I J hI p0 hLp0 hKp0 p2 p3) (cwV 2 hts (gV pq1314 pq1316 pq24 pq81 pq1317) rfl rfl rfl (by decide +kernel) ⟨(by rw [hR]; exact (Nat.le_of_ble_eq_true rfl)), (by rw [hR]; exact (Nat.le_of_ble_eq_true rfl))⟩) (sP_V hP hD hK hN hLp0 hKp0 rfl rfl) rfl rfl hl.1 rfl (lv_room (Nat.le_of_ble_eq_true rfl)) dX7_place_11 ⟨(by rw [hR]; exact (Nat.le_of_ble_eq_true rfl)), (by rw [hR]; exact (Nat.le_of_ble_eq_true rfl))⟩) hS hP (fun z11 H locs hz11 hP hS => ?_)
    obtain ⟨bz11, imz11, xpz11⟩ := hz11
    refine lv_if_ne (tgt := 19) hx hb dX7_place_14 (by decide) (fun c14 => ?_) (fun c14 => ?_)
    · have t14 := tq_ne (k := z11.toInt) (q := (0)) c14 rfl (by decide +kernel)
      have i14 := imz11 t14
      refine lv_aload_n hx hb dX7_place_19 rfl (lv_at hl 0 rfl) ?_
      refine lv_iload_n hx hb dX7_place_20 rfl (lv_at hl 1 rfl) ?_
      refine lv_iconst (v := 1) hx hb dX7_place_21 (by decide +kernel) ?_
      refine ro_i (va_runV (As := [.int p1, .int 1]) (rest := []) ⟨hx, hb, hml, hown, hts⟩ (s_X7_of l dC dI cs L K G Q hQ x0 m0 tx tm H.size I J hI p0 hLp0 hKp0 p1 ⟨by omega, by omega⟩ 1 ⟨by decide +kernel, by decide +kernel⟩) (cwV 2 hts (gV pq1320 pq1322 pq25 pq81 pq1323) rfl rfl rfl (by decide +kernel) ⟨(by rw [hR]; exact (Nat.le_of_ble_eq_true rfl)), (by rw [hR]; exact (Nat.le_of_ble_eq_true rfl))⟩) (sP_V hP hD hK hN hLp0 hKp0 rfl rfl) rfl rfl hl.1 rfl (lv_room (Nat.le_of_ble_eq_true rfl)) dX7_place_22 ⟨(by rw [hR]; exact (Nat.le_of_ble_eq_true rfl)), (by rw [hR]; exact (Nat.le_of_ble_eq_true rfl))⟩) hS hP (fun z22 H locs hz22 hP hS => ?_)
      have cst22_1 : (1 : Int32).toInt = 1 := by decide +kernel
      obtain ⟨fez22, xpz22⟩ := hz22
      have bz22 := xpz22.2.1 rfl
      have f22 : z22 = I (a0 Q p0 0) (19 + 8 * p1.toInt.toNat + 1) := by have q := fez22; rw [show (1 : Int32).toInt.toNat = 1 from by decide +kernel] at q; exact q
      refine lv_iload_n hx hb dX7_place_25 rfl (lv_at hl 2 rfl) ?_
      have j42 : ∀ (H : Heap) (lo : List Loc) (ls : Array Slot), (¬ (I (a0 Q p0 0) (19 + 8 * p1.toInt.toNat + 1) = p2 ∧ I (a0 Q p0 0) (19 + 8 * p1.toInt.toNat + 2) = p3)) → va_P (dC, dI) vwCl (Wd cs L K I J Q) H → va_S A s.heap H lo → lv_has ls 4 [(0, .ref p0), (1, .int p1), (2, .int p2), (3, .int p3)] → W p l e R s m (([.ref p0, .int p1, .int p2, .int p3] : List Value).toArray) below meth c H lo 0 0 Qz (F0 m 42 ls []) := by
        intro H lo ls h42 hP hS hl
        refine lv_aload_n hx hb dX7_place_42 rfl (lv_at hl 0 rfl) ?_
        refine sw_v (Z := (fun I1 J1 => Iv L K x0 m0 tx tm I1 ∧ (∀ b, ¬ (K b = 7 ∨ K b = 19 ∨ K b = 30) → I1 b = I b) ∧ (∀ b, K b = 0 ∨ K b = 1 ∨ K b = 3 ∨ K b = 6 → I1 b = I b) ∧ (∀ σ : Sx, cmA Q I J p0 σ → cmA Q I1 J1 p0 (rem σ)) ∧ (∀ b, ¬ (K b = 22 ∨ K b = 33) → J1 b = J b))) (va_runV (As := []) (rest := []) ⟨hx, hb, hml, hown, hts⟩ (s_X7_keepsPast l dC dI cs L K G Q hQ x0 m0 tx tm H.size I J hI p0 hLp0 hKp0) (cwV 0 hts (gV pq1324 pq1326 pq26 pq81 pq1327) rfl rfl rfl (by decide +kernel) ⟨(by rw [hR]; exact (Nat.le_of_ble_eq_true rfl)), (by rw [hR]; exact (Nat.le_of_ble_eq_true rfl))⟩) (sP_V hP hD hK hN hLp0 hKp0 rfl rfl) rfl rfl hl.1 rfl (lv_room (Nat.le_of_ble_eq_true rfl)) dX7_place_43 ⟨(by rw [hR]; exact (Nat.le_of_ble_eq_true rfl)), (by rw [hR]; exact (Nat.le_of_ble_eq_true rfl))⟩) hS hAL hA (fun Iz43 Jz43 H locs hz43 hIz43 hP hS => ?_)
        obtain ⟨hIz43, frc43, dnc43, jz43, djc43⟩ := hIz43
        have dj_Jz43 : (∀ b, ¬ (K b = 22 ∨ K b = 33) → Jz43 b = J b) := fun b hc => (djc43 b (fun z => hc (by omega))).trans (dj_J b hc)
        have dn_Iz43 : (∀ b, K b = 0 ∨ K b = 1 ∨ K b = 3 ∨ K b = 6 → Iz43 b = I b) := fun b hc => (dnc43 b (by omega)).trans (dn_I b hc)
        refine lv_aload_n hx hb dX7_place_46 rfl (lv_at hl 0 rfl) ?_
        refine lv_iload_n hx hb dX7_place_47 rfl (lv_at hl 1 rfl) ?_
        refine lv_iconst (v := 1) hx hb dX7_place_48 (by decide +kernel) ?_
        refine lv_iload_n hx hb dX7_place_49 rfl (lv_at hl 2 rfl) ?_
        refine sw_v (Z := (fun I1 J1 => Iv L K x0 m0 tx tm I1 ∧ (∀ b, ¬ (K b = 18) → I1 b = Iz43 b) ∧ (I1 ((Q p0 0).getD 0) = upd (Iz43 ((Q p0 0).getD 0)) (19 + 8 * p1.toInt.toNat + (1 : Int32).toInt.toNat) p2) ∧ (∀ b, K b = 0 ∨ K b = 1 ∨ K b = 3 ∨ K b = 6 → I1 b = Iz43 b) ∧ J1 = Jz43)) (va_runV (As := [.int p1, .int 1, .int p2]) (rest := []) ⟨hx, hb, hml, hown, hts⟩ (s_X7_sets l dC dI cs L K G Q hQ x0 m0 tx tm H.size Iz43 Jz43 hIz43 p0 hLp0 hKp0 p1 ⟨by omega, by omega⟩ 1 ⟨by decide +kernel, by decide +kernel⟩ p2 (rng_1 ⟨by decide +kernel, by decide +kernel⟩ (by omega) ⟨by omega, by omega⟩)) (cwV 3 hts (gV pq1336 pq1338 pq29 pq81 pq1339) rfl rfl rfl (by decide +kernel) ⟨(by rw [hR]; exact (Nat.le_of_ble_eq_true rfl)), (by rw [hR]; exact (Nat.le_of_ble_eq_true rfl))⟩) (sP_V hP hD hK hN hLp0 hKp0 rfl rfl) rfl rfl hl.1 rfl (lv_room (Nat.le_of_ble_eq_true rfl)) dX7_place_50 ⟨(by rw [hR]; exact (Nat.le_of_ble_eq_true rfl)), (by rw [hR]; exact (Nat.le_of_ble_eq_true rfl))⟩) hS hAL hA (fun Iz50 Jz50 H locs hz50 hIz50 hP hS => ?_)
        obtain ⟨hIz50, frc50, zp50, dnc50, djc50⟩ := hIz50
        obtain rfl : Jz43 = Jz50 := djc50.symm
        have dn_Iz50 : (∀ b, K b = 0 ∨ K b = 1 ∨ K b = 3 ∨ K b = 6 → Iz50 b = I b) := fun b hc => (dnc50 b (by omega)).trans (dn_Iz43 b hc)
        rw [show (1 : Int32).toInt.toNat = 1 from by decide +kernel] at zp50
        refine lv_aload_n hx hb dX7_place_53 rfl (lv_at hl 0 rfl) ?_
        refine lv_iload_n hx hb dX7_place_54 rfl (lv_at hl 1 rfl) ?_
        refine lv_iconst (v := 2) hx hb dX7_place_55 (by decide +kernel) ?_
        refine lv_iload_n hx hb dX7_place_56 rfl (lv_at hl 3 rfl) ?_
        refine sw_v (Z := (fun I1 J1 => Iv L K x0 m0 tx tm I1 ∧ (∀ b, ¬ (K b = 18) → I1 b = Iz50 b) ∧ (I1 ((Q p0 0).getD 0) = upd (Iz50 ((Q p0 0).getD 0)) (19 + 8 * p1.toInt.toNat + (2 : Int32).toInt.toNat) p3) ∧ (∀ b, K b = 0 ∨ K b = 1 ∨ K b = 3 ∨ K b = 6 → I1 b = Iz50 b) ∧ J1 = Jz43)) (va_runV (As := [.int p1, .int 2, .int p3]) (rest := []) ⟨hx, hb, hml, hown, hts⟩ (s_X7_sets l dC dI cs L K G Q hQ x0 m0 tx tm H.size Iz50 Jz43 hIz50 p0 hLp0 hKp0 p1 ⟨by omega, by omega⟩ 2 ⟨by decide +kernel, by decide +kernel⟩ p3 (rng_1 ⟨by decide +kernel, by decide +kernel⟩ (by omega) ⟨by omega, by omega⟩)) (cwV 3 hts (gV pq1336 pq1338 pq29 pq81 pq1339) rfl rfl rfl (by decide +kernel) ⟨(by rw [hR]; exact (Nat.le_of_ble_eq_true rfl)), (by rw [hR]; exact (Nat.le_of_ble_eq_true rfl))⟩) (sP_V hP hD hK hN hLp0 hKp0 rfl rfl) rfl rfl hl.1 rfl (lv_room (Nat.le_of_ble_eq_true rfl)) dX7_place_57 ⟨(by rw [hR]; exact (Nat.le_of_ble_eq_true rfl)), (by rw [hR]; exact (Nat.le_of_ble_eq_true rfl))⟩) hS hAL hA (fun Iz57 Jz57 H locs hz57 hIz57 hP hS => ?_)
        obtain ⟨hIz57, frc57, zp57, dnc57, djc57⟩ := hIz57
        obtain rfl : Jz43 = Jz57 := djc57.symm
        have dn_Iz57 : (∀ b, K b = 0 ∨ K b = 1 ∨ K b = 3 ∨ K b = 6 → Iz57 b = I b) := fun b hc => (dnc57 b (by omega)).trans (dn_Iz50 b hc)
        rw [show (2 : Int32).toInt.toNat = 2 from by decide +kernel] at zp57
        refine lv_iconst (v := 1) hx hb dX7_place_60 (by decide +kernel) ?_
        subst hR; subst hQz
        exact W.iret (v := 1) hx hb hr (fun t ht hW => ⟨⟨1, (), rfl, (fun σ A => by have ec : I (a0 Q p0 0) 1 = σ.1.1 1 := cmA_n A (by decide); rw [tw_y ⟨by rw [← ec]; exact xpz2.1 t5, ⟨by omega, by omega⟩, ⟨by omega, by omega⟩⟩ (fun q => h42 ⟨(cmA_n A (by omega)).trans q.1, (cmA_n A (by omega)).trans q.2⟩)]; show (1 : Int32).toInt = 1; decide +kernel), ⟨Iz57, Jz43, ⟨hIz57, dn_Iz57, (fun σ A => by have ec : I (a0 Q p0 0) 1 = σ.1.1 1 := cmA_n A (by decide); rw [tw_y ⟨by rw [← ec]; exact xpz2.1 t5, ⟨by omega, by omega⟩, ⟨by omega, by omega⟩⟩ (fun q => h42 ⟨(cmA_n A (by omega)).trans q.1, (cmA_n A (by omega)).trans q.2⟩)]; have B := cmA_setB (b := p1.toInt.toNat) (k := 1) (v := p2) hQ hLp0 hKp0 (by omega) zp50 frc50 (jz43 σ A); rw [rem_1] at B; exact cmA_setB (b := p1.toInt.toNat) (k := 2) (v := p3) hQ hLp0 hKp0 (by omega) zp57 frc57 B), dj_Jz43⟩, by rw [ht]; exact hP⟩⟩, hS.F ht⟩) hS.2.2 dX7_place_61
      refine lv_icmp_ne (tgt := 42) hx hb dX7_place_26 (by decide) (fun c26 => ?_) (fun c26 => ?_)
      · have t26 := tq_ne (k := z22.toInt) (q := p2.toInt) c26 rfl rfl
        exact j42  _ _ _ (fun q => by first | exact t26 (by rw [f22, q.1]) | exact t36 (by rw [f32, q.2])) hP hS (lv_sub hl [0, 1, 2, 3] rfl)
      · have t26 := tq_eq (k := z22.toInt) (q := p2.toInt) c26 rfl rfl
        refine lv_aload_n hx hb dX7_place_29 rfl (lv_at hl 0 rfl) ?_
        refine lv_iload_n hx hb dX7_place_30 rfl (lv_at hl 1 rfl) ?_
        refine lv_iconst (v := 2) hx hb dX7_place_31 (by decide +kernel) ?_
        refine ro_i (va_runV (As := [.int p1, .int 2]) (rest := []) ⟨hx, hb, hml, hown, hts⟩ (s_X7_of l dC dI cs L K G Q hQ x0 m0 tx tm H.size I J hI p0 hLp0 hKp0 p1 ⟨by omega, by omega⟩ 2 ⟨by decide +kernel, by decide +kernel⟩) (cwV 2 hts (gV pq1320 pq1322 pq25 pq81 pq1323) rfl rfl rfl (by decide +kernel) ⟨(by rw [hR]; exact (Nat.le_of_ble_eq_true rfl)), (by rw [hR]; exact (Nat.le_of_ble_eq_true rfl))⟩) (sP_V hP hD hK hN hLp0 hKp0 rfl rfl) rfl rfl hl.1 rfl (lv_room (Nat.le_of_ble_eq_true rfl)) dX7_place_32 ⟨(by rw [hR]; exact (Nat.le_of_ble_eq_true rfl)), (by rw [hR]; exact (Nat.le_of_ble_eq_true rfl))⟩) hS hP (fun z32 H locs hz32 hP hS => ?_)
        have cst32_2 : (2 : Int32).toInt = 2 := by decide +kernel
        obtain ⟨fez32, xpz32⟩ := hz32
        have bz32 := xpz32.2.2.1 rfl
        have f32 : z32 = I (a0 Q p0 0) (19 + 8 * p1.toInt.toNat + 2) := by have q := fez32; rw [show (2 : Int32).toInt.toNat = 2 from by decide +kernel] at q; exact q
        refine lv_iload_n hx hb dX7_place_35 rfl (lv_at hl 3 rfl) ?_
        refine lv_icmp_ne (tgt := 42) hx hb dX7_place_36 (by decide) (fun c36 => ?_) (fun c36 => ?_)
        · have t36 := tq_ne (k := z32.toInt) (q := p3.toInt) c36 rfl rfl
          exact j42  _ _ _ (fun q => by first | exact t26 (by rw [f22, q.1]) | exact t36 (by rw [f32, q.2])) hP hS (lv_sub hl [0, 1, 2, 3] rfl)
        · have t36 := tq_eq (k := z32.toInt) (q := p3.toInt) c36 rfl rfl
          refine lv_bipush (v := (-2)) hx hb dX7_place_39 (by decide +kernel) ?_
          subst hR; subst hQz
          exact W.iret (v := (-2)) hx hb hr (fun t ht hW => ⟨⟨(-2), (), rfl, (fun σ A => by have ec : I (a0 Q p0 0) 1 = σ.1.1 1 := cmA_n A (by decide); rw [tw_e ⟨by rw [← ec]; exact xpz2.1 t5, ⟨by omega, by omega⟩, ⟨by omega, by omega⟩⟩ ⟨(cmA_n A (by omega)).symm.trans (f22.symm.trans (Int32.toInt_inj.mp t26)), (cmA_n A (by omega)).symm.trans (f32.symm.trans (Int32.toInt_inj.mp t36))⟩]; show (-2 : Int32).toInt = -2; decide +kernel), ⟨I, J, ⟨hI, dn_I, (fun σ A => by have ec : I (a0 Q p0 0) 1 = σ.1.1 1 := cmA_n A (by decide); rw [tw_e ⟨by rw [← ec]; exact xpz2.1 t5, ⟨by omega, by omega⟩, ⟨by omega, by omega⟩⟩ ⟨(cmA_n A (by omega)).symm.trans (f22.symm.trans (Int32.toInt_inj.mp t26)), (cmA_n A (by omega)).symm.trans (f32.symm.trans (Int32.toInt_inj.mp t36))⟩]; exact A), dj_J⟩, by rw [ht]; exact hP⟩⟩, hS.F ht⟩) hS.2.2 dX7_place_41
    · have t14 := tq_eq (k := z11.toInt) (q := (0)) c14 rfl (by decide +kernel)
      refine lv_iconst (v := (-1)) hx hb dX7_place_17 (by decide +kernel) ?_
      subst hR; subst hQz
      exact W.iret (v := (-1)) hx hb hr (fun t ht hW => ⟨⟨(-1), (), rfl, (fun σ A => by have ec : I (a0 Q p0 0) 1 = σ.1.1 1 := cmA_n A (by decide); rw [tw_n (fun q => by unfold twC at q; rw [← ec] at q; first | exact xpz2.2 t5 q.1 | exact xpz11.2 t14 q.2)]; show (-1 : Int32).toInt = -1; decide +kernel), ⟨I, J, ⟨hI, dn_I, (fun σ A => by have ec : I (a0 Q p0 0) 1 = σ.1.1 1 := cmA_n A (by decide); rw [tw_n (fun q => by unfold twC at q; rw [← ec] at q; first | exact xpz2.2 t5 q.1 | exact xpz11.2 t14 q.2)]; exact A), dj_J⟩, by rw [ht]; exact hP⟩⟩, hS.F ht⟩) hS.2.2 dX7_place_18

set_option maxHeartbeats 4000000 in
set_option maxRecDepth 100000 in
theorem s_X7_flip (l : Launch) (dC : Nat → ClassId) (dI : Nat → Nat → Nat) (cs : Nat → ClassId) (L : List Nat) (K G : Nat → Nat) (Q : Nat → Nat → Option Nat) (hQ : Sv L K G Q) (x0 m0 : Nat) (tx : GT) (tm : GT × Int) (sz : Nat) (I : Nat → Nat → Int32) (J : Nat → Nat → Int64) (hI : Iv L K x0 m0 tx tm I) (p0 : Nat) (hLp0 : p0 ∈ L) (hKp0 : K p0 = 7) (p1 : Int32) (p2 : Int32) : Met l yX7_flip (.code yX7_flip cX7_flip 4 (some .int) :: pw) ({ frames := 3, cells := 0, slots := 0, locals := 67 }) (sP (dC, dI) cs [.ref p0, .int p1, .int p2] sz L K I J Q) (va_Qi (fun (r : Int32) (_ : Unit) => (∀ σ : Sx, cmA Q I J p0 σ → r.toInt = (flA σ p1 p2).1)) (fun _ t => sB (dC, dI) cs L K Q (fun I1 J1 => Iv L K x0 m0 tx tm I1 ∧ (∀ b, K b = 0 ∨ K b = 1 ∨ K b = 3 ∨ K b = 6 → I1 b = I b) ∧ (∀ σ : Sx, cmA Q I J p0 σ → cmA Q I1 J1 p0 (flA σ p1 p2).2) ∧ (∀ b, ¬ (K b = 22 ∨ K b = 33) → J1 b = J b)) t) (fun q => q ∈ L ∨ sz ≤ q)) 0 0 (fun q => q ∈ L ∨ sz ≤ q) := by
  refine Met.ofW (cc := cX7_flip) (maxL := 4) (ret := (some .int)) (by decide +kernel) rfl ?_
  intro p e s m args below meth c s₁ B hml hv
  obtain ⟨rfl, hsz, hP, hK, hD0, hN⟩ := hv
  have hx := B.exec
  have hb := B.bytes
  have hr := B.returns
  have hts := fun w (h : w ∈ pw) => atoms_spec (ws := Cond.code yX7_flip cX7_flip 4 (some .int) :: pw) B.pre w (List.mem_cons_of_mem _ h)
  have hown : s.vm.findClass RX7 = some m.cls := findClass_of_methodNamed B.named
  have hlocks := B.notSynchronized
  subst hsz
  have hBB : 999 ≤ tm.2 ∧ tm.2 ≤ 6000000 := hI.2.2.2.2.1
  have dn_I : (∀ b, K b = 0 ∨ K b = 1 ∨ K b = 3 ∨ K b = 6 → I b = I b) := fun _ _ => rfl
  have dj_J : (∀ b, ¬ (K b = 22 ∨ K b = 33) → J b = J b) := fun _ _ => rfl
  obtain ⟨A, hAe⟩ : ∃ A : Nat → Prop, A = (fun q => q ∈ L ∨ s.heap.size ≤ q) := ⟨_, rfl⟩
  rw [← hAe]
  have hAL : ∀ q, q ∈ L → A q := fun q h => by rw [hAe]; exact Or.inl h
  have hA : ∀ q, s.heap.size ≤ q → A q := fun q h => by rw [hAe]; exact Or.inr h
  have hD : ∀ F, va_D A (va_pl L F) := fun F => (hD0 F).weaken (fun k q hk _ => hAL _ (pl_mem hk))
  obtain ⟨H, hHe⟩ : ∃ H : Heap, H = s.heap := ⟨_, rfl⟩
  have hS : va_S A s.heap H [] := by rw [hHe]; exact va_S.rf
  rw [← hHe] at hP
  have hl := lv_entry ([.ref p0, .int p1, .int p2]) (n := 4) (Nat.le_of_ble_eq_true rfl)
  rw [lg_entry_eq]
  generalize (lg_sl ([.ref p0, .int p1, .int p2]) ++ List.replicate (4 - (lg_sl ([.ref p0, .int p1, .int p2])).length) Slot.unset).toArray = ls at hl ⊢
  have hl : lv_has ls 4 [(0, .ref p0), (1, .int p1), (2, .int p2)] := hl
  rw [← hHe]
  refine namedW (fun R Qz hR hQz => ?_)
  refine lv_aload_n hx hb dX7_flip_0 rfl (lv_at hl 0 rfl) ?_
  refine lv_iload_n hx hb dX7_flip_1 rfl (lv_at hl 1 rfl) ?_
  refine ro_i (va_runV (As := [.int p1]) (rest := []) ⟨hx, hb, hml, hown, hts⟩ (s_X7_isBody l dC dI cs L K G Q hQ x0 m0 tx tm H.size I J hI p0 hLp0 hKp0 p1) (cwV 1 hts (gV pq1310 pq1312 pq23 pq81 pq1313) rfl rfl rfl (by decide +kernel) ⟨(by rw [hR]; exact (Nat.le_of_ble_eq_true rfl)), (by rw [hR]; exact (Nat.le_of_ble_eq_true rfl))⟩) (sP_V hP hD hK hN hLp0 hKp0 rfl rfl) rfl rfl hl.1 rfl (lv_room (Nat.le_of_ble_eq_true rfl)) dX7_flip_2 ⟨(by rw [hR]; exact (Nat.le_of_ble_eq_true rfl)), (by rw [hR]; exact (Nat.le_of_ble_eq_true rfl))⟩) hS hP (fun z2 H locs hz2 hP hS => ?_)
  obtain ⟨bz2, imz2, xpz2⟩ := hz2
  refine lv_if_eq (tgt := 20) hx hb dX7_flip_5 (by decide) (fun c5 => ?_) (fun c5 => ?_)
  · have t5 := tq_eq (k := z2.toInt) (q := (0)) c5 rfl (by decide +kernel)
    refine lv_iconst (v := (-1)) hx hb dX7_flip_20 (by decide +kernel) ?_
    subst hR; subst hQz
    exact W.iret (v := (-1)) hx hb hr (fun t ht hW => ⟨⟨(-1), (), rfl, (fun σ A => by have ec : I (a0 Q p0 0) 1 = σ.1.1 1 := cmA_n A (by decide); rw [fl_n (fun q => by rw [← ec] at q; first | exact xpz2.2 t5 q.1 | exact xpz14 t17 (by omega))]; show (-1 : Int32).toInt = -1; decide +kernel), ⟨I, J, ⟨hI, dn_I, (fun σ A => by have ec : I (a0 Q p0 0) 1 = σ.1.1 1 := cmA_n A (by decide); rw [fl_n (fun q => by rw [← ec] at q; first | exact xpz2.2 t5 q.1 | exact xpz14 t17 (by omega))]; exact A), dj_J⟩, by rw [ht]; exact hP⟩⟩, hS.F ht⟩) hS.2.2 dX7_flip_21
  · have t5 := tq_ne (k := z2.toInt) (q := (0)) c5 rfl (by decide +kernel)
    have i5 := imz2 t5
    refine lv_iload_n hx hb dX7_flip_8 rfl (lv_at hl 2 rfl) ?_
    refine lv_i2l hx hb dX7_flip_9 rfl ?_
    refine lv_topl (fun z9 ez9 => ?_)
    have bz9 := tq_i2l (k := p2.toInt) ez9 rfl
    refine lv_lconst (v := 0) hx hb dX7_flip_10 (by decide +kernel) ?_
    refine lv_ldc2 hx hb hown (hts _ pq1344) dX7_flip_11 ?_
    refine ro_i (va_runS (As := [.long z9, .long 0, .long 3]) (rest := []) ⟨hx, hb, hml, hown, hts⟩ (s_X7_in l dC dI cs L K Q H.size I J z9 0 3) (va_cwS 3 hts (gS pq1234 pq1235 pq81 pq1236) rfl rfl rfl (by decide +kernel) ⟨(by rw [hR]; exact (Nat.le_of_ble_eq_true rfl)), (by rw [hR]; exact (Nat.le_of_ble_eq_true rfl))⟩) (sP_S hP hD hK hN) rfl rfl hl.1 rfl (lv_room (Nat.le_of_ble_eq_true rfl)) dX7_flip_14 ⟨(by rw [hR]; exact (Nat.le_of_ble_eq_true rfl)), (by rw [hR]; exact (Nat.le_of_ble_eq_true rfl))⟩) hS hP (fun z14 H locs hz14 hP hS => ?_)
    have csl14_0 : (0 : Int64).toInt = 0 := by decide +kernel
    have csl14_3 : (3 : Int64).toInt = 3 := by decide +kernel
    obtain ⟨bz14, imz14, xpz14⟩ := hz14
    refine lv_if_ne (tgt := 22) hx hb dX7_flip_17 (by decide) (fun c17 => ?_) (fun c17 => ?_)
    · have t17 := tq_ne (k := z14.toInt) (q := (0)) c17 rfl (by decide +kernel)
      have i17 := imz14 t17
      refine lv_aload_n hx hb dX7_flip_22 rfl (lv_at hl 0 rfl) ?_
      refine lv_iload_n hx hb dX7_flip_23 rfl (lv_at hl 1 rfl) ?_
      refine lv_iconst (v := 3) hx hb dX7_flip_24 (by decide +kernel) ?_
      refine ro_i (va_runV (As := [.int p1, .int 3]) (rest := []) ⟨hx, hb, hml, hown, hts⟩ (s_X7_of l dC dI cs L K G Q hQ x0 m0 tx tm H.size I J hI p0 hLp0 hKp0 p1 ⟨by omega, by omega⟩ 3 ⟨by decide +kernel, by decide +kernel⟩) (cwV 2 hts (gV pq1320 pq1322 pq25 pq81 pq1323) rfl rfl rfl (by decide +kernel) ⟨(by rw [hR]; exact (Nat.le_of_ble_eq_true rfl)), (by rw [hR]; exact (Nat.le_of_ble_eq_true rfl))⟩) (sP_V hP hD hK hN hLp0 hKp0 rfl rfl) rfl rfl hl.1 rfl (lv_room (Nat.le_of_ble_eq_true rfl)) dX7_flip_25 ⟨(by rw [hR]; exact (Nat.le_of_ble_eq_true rfl)), (by rw [hR]; exact (Nat.le_of_ble_eq_true rfl))⟩) hS hP (fun z25 H locs hz25 hP hS => ?_)
      have cst25_3 : (3 : Int32).toInt = 3 := by decide +kernel
      obtain ⟨fez25, xpz25⟩ := hz25
      have f25 : z25 = I (a0 Q p0 0) (19 + 8 * p1.toInt.toNat + 3) := by have q := fez25; rw [show (3 : Int32).toInt.toNat = 3 from by decide +kernel] at q; exact q
      refine lv_istore_n (lv' := [(3, .int z25), (0, .ref p0), (1, .int p1), (2, .int p2)]) hx hb dX7_flip_28 rfl hl (by decide) rfl (fun ls hl => ?_)
      refine lv_iload_n hx hb dX7_flip_29 rfl (lv_at hl 0 rfl) ?_
      refine lv_iload_n hx hb dX7_flip_30 rfl (lv_at hl 3 rfl) ?_
      refine lv_icmp_ne (tgt := 37) hx hb dX7_flip_31 (by decide) (fun c31 => ?_) (fun c31 => ?_)
      · have t31 := tq_ne (k := z25.toInt) (q := p2.toInt) c31 rfl rfl
        refine lv_aload_n hx hb dX7_flip_37 rfl (lv_at hl 1 rfl) ?_
        refine sw_v (Z := (fun I1 J1 => Iv L K x0 m0 tx tm I1 ∧ (∀ b, ¬ (K b = 7 ∨ K b = 19 ∨ K b = 30) → I1 b = I b) ∧ (∀ b, K b = 0 ∨ K b = 1 ∨ K b = 3 ∨ K b = 6 → I1 b = I b) ∧ (∀ σ : Sx, cmA Q I J p0 σ → cmA Q I1 J1 p0 (rem σ)) ∧ (∀ b, ¬ (K b = 22 ∨ K b = 33) → J1 b = J b))) (va_runV (As := []) (rest := []) ⟨hx, hb, hml, hown, hts⟩ (s_X7_keepsPast l dC dI cs L K G Q hQ x0 m0 tx tm H.size I J hI p0 hLp0 hKp0) (cwV 0 hts (gV pq1324 pq1326 pq26 pq81 pq1327) rfl rfl rfl (by decide +kernel) ⟨(by rw [hR]; exact (Nat.le_of_ble_eq_true rfl)), (by rw [hR]; exact (Nat.le_of_ble_eq_true rfl))⟩) (sP_V hP hD hK hN hLp0 hKp0 rfl rfl) rfl rfl hl.1 rfl (lv_room (Nat.le_of_ble_eq_true rfl)) dX7_flip_38 ⟨(by rw [hR]; exact (Nat.le_of_ble_eq_true rfl)), (by rw [hR]; exact (Nat.le_of_ble_eq_true rfl))⟩) hS hAL hA (fun Iz38 Jz38 H locs hz38 hIz38 hP hS => ?_)
        obtain ⟨hIz38, frc38, dnc38, jz38, djc38⟩ := hIz38
        have dj_Jz38 : (∀ b, ¬ (K b = 22 ∨ K b = 33) → Jz38 b = J b) := fun b hc => (djc38 b (fun z => hc (by omega))).trans (dj_J b hc)
        have dn_Iz38 : (∀ b, K b = 0 ∨ K b = 1 ∨ K b = 3 ∨ K b = 6 → Iz38 b = I b) := fun b hc => (dnc38 b (by omega)).trans (dn_I b hc)
        refine lv_aload_n hx hb dX7_flip_41 rfl (lv_at hl 1 rfl) ?_
        refine lv_iload_n hx hb dX7_flip_42 rfl (lv_at hl 2 rfl) ?_
        refine lv_iconst (v := 3) hx hb dX7_flip_43 (by decide +kernel) ?_
        refine lv_iload_n hx hb dX7_flip_44 rfl (lv_at hl 3 rfl) ?_
        refine sw_v (Z := (fun I1 J1 => Iv L K x0 m0 tx tm I1 ∧ (∀ b, ¬ (K b = 18) → I1 b = Iz38 b) ∧ (I1 ((Q p0 0).getD 0) = upd (Iz38 ((Q p0 0).getD 0)) (19 + 8 * p1.toInt.toNat + (3 : Int32).toInt.toNat) p2) ∧ (∀ b, K b = 0 ∨ K b = 1 ∨ K b = 3 ∨ K b = 6 → I1 b = Iz38 b) ∧ J1 = Jz38)) (va_runV (As := [.int p1, .int 3, .int p2]) (rest := []) ⟨hx, hb, hml, hown, hts⟩ (s_X7_sets l dC dI cs L K G Q hQ x0 m0 tx tm H.size Iz38 Jz38 hIz38 p0 hLp0 hKp0 p1 ⟨by omega, by omega⟩ 3 ⟨by decide +kernel, by decide +kernel⟩ p2 (rng_3 ⟨by decide +kernel, by decide +kernel⟩ (by omega))) (cwV 3 hts (gV pq1336 pq1338 pq29 pq81 pq1339) rfl rfl rfl (by decide +kernel) ⟨(by rw [hR]; exact (Nat.le_of_ble_eq_true rfl)), (by rw [hR]; exact (Nat.le_of_ble_eq_true rfl))⟩) (sP_V hP hD hK hN hLp0 hKp0 rfl rfl) rfl rfl hl.1 rfl (lv_room (Nat.le_of_ble_eq_true rfl)) dX7_flip_45 ⟨(by rw [hR]; exact (Nat.le_of_ble_eq_true rfl)), (by rw [hR]; exact (Nat.le_of_ble_eq_true rfl))⟩) hS hAL hA (fun Iz45 Jz45 H locs hz45 hIz45 hP hS => ?_)
        obtain ⟨hIz45, frc45, zp45, dnc45, djc45⟩ := hIz45
        obtain rfl : Jz38 = Jz45 := djc45.symm
        have dn_Iz45 : (∀ b, K b = 0 ∨ K b = 1 ∨ K b = 3 ∨ K b = 6 → Iz45 b = I b) := fun b hc => (dnc45 b (by omega)).trans (dn_Iz38 b hc)
        rw [show (3 : Int32).toInt.toNat = 3 from by decide +kernel] at zp45
        refine lv_iload_n hx hb dX7_flip_48 rfl (lv_at hl 0 rfl) ?_
        subst hR; subst hQz
        exact W.iret (v := z25) hx hb hr (fun t ht hW => ⟨⟨z25, (), rfl, (fun σ A => by have ec : I (a0 Q p0 0) 1 = σ.1.1 1 := cmA_n A (by decide); rw [fl_y ⟨by rw [← ec]; exact xpz2.1 t5, ⟨by omega, by omega⟩⟩ (fun q => t31 (by rw [f25, (cmA_n A (by omega)).trans q]))]; show z25.toInt = (σ.1.1 (19 + 8 * p1.toInt.toNat + 3)).toInt; rw [f25, cmA_n A (by omega)]), ⟨Iz45, Jz38, ⟨hIz45, dn_Iz45, (fun σ A => by have ec : I (a0 Q p0 0) 1 = σ.1.1 1 := cmA_n A (by decide); rw [fl_y ⟨by rw [← ec]; exact xpz2.1 t5, ⟨by omega, by omega⟩⟩ (fun q => t31 (by rw [f25, (cmA_n A (by omega)).trans q]))]; have B := cmA_setB (b := p1.toInt.toNat) (k := 3) (v := p2) hQ hLp0 hKp0 (by omega) zp45 frc45 (jz38 σ A); rw [rem_1] at B; exact B), dj_Jz38⟩, by rw [ht]; exact hP⟩⟩, hS.F ht⟩) hS.2.2 dX7_flip_49
      · have t31 := tq_eq (k := z25.toInt) (q := p2.toInt) c31 rfl rfl
        refine lv_bipush (v := (-2)) hx hb dX7_flip_34 (by decide +kernel) ?_
        subst hR; subst hQz
        exact W.iret (v := (-2)) hx hb hr (fun t ht hW => ⟨⟨(-2), (), rfl, (fun σ A => by have ec : I (a0 Q p0 0) 1 = σ.1.1 1 := cmA_n A (by decide); rw [fl_e ⟨by rw [← ec]; exact xpz2.1 t5, ⟨by omega, by omega⟩⟩ ((cmA_n A (by omega)).symm.trans (f25.symm.trans (Int32.toInt_inj.mp t31)))]; show (-2 : Int32).toInt = -2; decide +kernel), ⟨I, J, ⟨hI, dn_I, (fun σ A => by have ec : I (a0 Q p0 0) 1 = σ.1.1 1 := cmA_n A (by decide); rw [fl_e ⟨by rw [← ec]; exact xpz2.1 t5, ⟨by omega, by omega⟩⟩ ((cmA_n A (by omega)).symm.trans (f25.symm.trans (Int32.toInt_inj.mp t31)))]; exact A), dj_J⟩, by rw [ht]; exact hP⟩⟩, hS.F ht⟩) hS.2.2 dX7_flip_36
    · have t17 := tq_eq (k := z14.toInt) (q := (0)) c17 rfl (by decide +kernel)
      refine lv_iconst (v := (-1)) hx hb dX7_flip_20 (by decide +kernel) ?_
      subst hR; subst hQz
      exact W.iret (v := (-1)) hx hb hr (fun t ht hW => ⟨⟨(-1), (), rfl, (fun σ A => by have ec : I (a0 Q p0 0) 1 = σ.1.1 1 := cmA_n A (by decide); rw [fl_n (fun q => by rw [← ec] at q; first | exact xpz2.2 t5 q.1 | exact xpz14 t17 (by omega))]; show (-1 : Int32).toInt = -1; decide +kernel), ⟨I, J, ⟨hI, dn_I, (fun σ A => by have ec : I (a0 Q p0 0) 1 = σ.1.1 1 := cmA_n A (by decide); rw [fl_n (fun q => by rw [← ec] at q; first | exact xpz2.2 t5 q.1 | exact xpz14 t17 (by omega))]; exact A), dj_J⟩, by rw [ht]; exact hP⟩⟩, hS.F ht⟩) hS.2.2 dX7_flip_21

set_option maxHeartbeats 4000000 in
set_option maxRecDepth 100000 in
theorem s_X7_twoL (l : Launch) (dC : Nat → ClassId) (dI : Nat → Nat → Nat) (cs : Nat → ClassId) (L : List Nat) (K G : Nat → Nat) (Q : Nat → Nat → Option Nat) (hQ : Sv L K G Q) (x0 m0 : Nat) (tx : GT) (tm : GT × Int) (sz : Nat) (I : Nat → Nat → Int32) (J : Nat → Nat → Int64) (hI : Iv L K x0 m0 tx tm I) (p0 : Nat) (hLp0 : p0 ∈ L) (hKp0 : K p0 = 7) (p1 : Int32) (bp1 : (0) ≤ p1.toInt ∧ p1.toInt ≤ 9) (p2 : Int32) (bp2 : (4) ≤ p2.toInt ∧ p2.toInt ≤ 4) (p3 : Int32) (p4 : Int32) : Met l yX7_two (.code yX7_two cX7_two 5 (some .int) :: pw) ({ frames := 3, cells := 0, slots := 0, locals := 67 }) (sP (dC, dI) cs [.ref p0, .int p1, .int p2, .int p3, .int p4] sz L K I J Q) (va_Qi (fun (r : Int32) (_ : Unit) => (∀ σ : Sx, cmA Q I J p0 σ → twC σ p1 p3 p4 (0) 15 → r.toInt = (twA σ p1 4 p3 p4 (0) 15).1)) (fun _ t => sB (dC, dI) cs L K Q (fun I1 J1 => Iv L K x0 m0 tx tm I1 ∧ (∀ b, K b = 0 ∨ K b = 1 ∨ K b = 3 ∨ K b = 6 → I1 b = I b) ∧ (∀ σ : Sx, cmA Q I J p0 σ → twC σ p1 p3 p4 (0) 15 → cmA Q I1 J1 p0 (twA σ p1 4 p3 p4 (0) 15).2) ∧ (∀ b, ¬ (K b = 22 ∨ K b = 33) → J1 b = J b)) t) (fun q => q ∈ L ∨ sz ≤ q)) 0 0 (fun q => q ∈ L ∨ sz ≤ q) := by
  refine Met.ofW (cc := cX7_two) (maxL := 5) (ret := (some .int)) (by decide +kernel) rfl ?_
  intro p e s m args below meth c s₁ B hml hv
  obtain ⟨rfl, hsz, hP, hK, hD0, hN⟩ := hv
  have hx := B.exec
  have hb := B.bytes
  have hr := B.returns
  have hts := fun w (h : w ∈ pw) => atoms_spec (ws := Cond.code yX7_two cX7_two 5 (some .int) :: pw) B.pre w (List.mem_cons_of_mem _ h)
  have hown : s.vm.findClass RX7 = some m.cls := findClass_of_methodNamed B.named
  have hlocks := B.notSynchronized
  subst hsz
  have hBB : 999 ≤ tm.2 ∧ tm.2 ≤ 6000000 := hI.2.2.2.2.1
  have dn_I : (∀ b, K b = 0 ∨ K b = 1 ∨ K b = 3 ∨ K b = 6 → I b = I b) := fun _ _ => rfl
  have dj_J : (∀ b, ¬ (K b = 22 ∨ K b = 33) → J b = J b) := fun _ _ => rfl
  obtain ⟨A, hAe⟩ : ∃ A : Nat → Prop, A = (fun q => q ∈ L ∨ s.heap.size ≤ q) := ⟨_, rfl⟩
  rw [← hAe]
  have hAL : ∀ q, q ∈ L → A q := fun q h => by rw [hAe]; exact Or.inl h
  have hA : ∀ q, s.heap.size ≤ q → A q := fun q h => by rw [hAe]; exact Or.inr h
  have hD : ∀ F, va_D A (va_pl L F) := fun F => (hD0 F).weaken (fun k q hk _ => hAL _ (pl_mem hk))
  obtain ⟨H, hHe⟩ : ∃ H : Heap, H = s.heap := ⟨_, rfl⟩
  have hS : va_S A s.heap H [] := by rw [hHe]; exact va_S.rf
  rw [← hHe] at hP
  have hl := lv_entry ([.ref p0, .int p1, .int p2, .int p3, .int p4]) (n := 5) (Nat.le_of_ble_eq_true rfl)
  rw [lg_entry_eq]
  generalize (lg_sl ([.ref p0, .int p1, .int p2, .int p3, .int p4]) ++ List.replicate (5 - (lg_sl ([.ref p0, .int p1, .int p2, .int p3, .int p4])).length) Slot.unset).toArray = ls at hl ⊢
  have hl : lv_has ls 5 [(0, .ref p0), (1, .int p1), (2, .int p2), (3, .int p3), (4, .int p4)] := hl
  rw [← hHe]
  refine namedW (fun R Qz hR hQz => ?_)
  refine lv_aload_n hx hb dX7_two_0 rfl (lv_at hl 0 rfl) ?_
  refine lv_iload_n hx hb dX7_two_1 rfl (lv_at hl 1 rfl) ?_
  refine lv_iload_n hx hb dX7_two_2 rfl (lv_at hl 2 rfl) ?_
  refine ro_i (va_runV (As := [.int p1, .int p2]) (rest := []) ⟨hx, hb, hml, hown, hts⟩ (s_X7_of l dC dI cs L K G Q hQ x0 m0 tx tm H.size I J hI p0 hLp0 hKp0 p1 ⟨by omega, by omega⟩ p2 ⟨by omega, by omega⟩) (cwV 2 hts (gV pq1320 pq1322 pq25 pq81 pq1323) rfl rfl rfl (by decide +kernel) ⟨(by rw [hR]; exact (Nat.le_of_ble_eq_true rfl)), (by rw [hR]; exact (Nat.le_of_ble_eq_true rfl))⟩) (sP_V hP hD hK hN hLp0 hKp0 rfl rfl) rfl rfl hl.1 rfl (lv_room (Nat.le_of_ble_eq_true rfl)) dX7_two_3 ⟨(by rw [hR]; exact (Nat.le_of_ble_eq_true rfl)), (by rw [hR]; exact (Nat.le_of_ble_eq_true rfl))⟩) hS hP (fun z3 H locs hz3 hP hS => ?_)
  obtain ⟨fez3, xpz3⟩ := hz3
  have e4 : p2.toInt.toNat = 4 := by omega
  have f3 : z3 = I (a0 Q p0 0) (19 + 8 * p1.toInt.toNat + 4) := by have q := fez3; rw [e4] at q; exact q
  refine lv_iload_n hx hb dX7_two_6 rfl (lv_at hl 3 rfl) ?_
  have j26 : ∀ (H : Heap) (lo : List Loc) (ls : Array Slot), (¬ (I (a0 Q p0 0) (19 + 8 * p1.toInt.toNat + 4) = p3 ∧ I (a0 Q p0 0) (19 + 8 * p1.toInt.toNat + 5) = p4)) → va_P (dC, dI) vwCl (Wd cs L K I J Q) H → va_S A s.heap H lo → lv_has ls 5 [(0, .ref p0), (1, .int p1), (2, .int p2), (3, .int p3), (4, .int p4)] → W p l e R s m (([.ref p0, .int p1, .int p2, .int p3, .int p4] : List Value).toArray) below meth c H lo 0 0 Qz (F0 m 26 ls []) := by
    intro H lo ls h26 hP hS hl
    refine lv_aload_n hx hb dX7_two_26 rfl (lv_at hl 0 rfl) ?_
    refine sw_v (Z := (fun I1 J1 => Iv L K x0 m0 tx tm I1 ∧ (∀ b, ¬ (K b = 7 ∨ K b = 19 ∨ K b = 30) → I1 b = I b) ∧ (∀ b, K b = 0 ∨ K b = 1 ∨ K b = 3 ∨ K b = 6 → I1 b = I b) ∧ (∀ σ : Sx, cmA Q I J p0 σ → cmA Q I1 J1 p0 (rem σ)) ∧ (∀ b, ¬ (K b = 22 ∨ K b = 33) → J1 b = J b))) (va_runV (As := []) (rest := []) ⟨hx, hb, hml, hown, hts⟩ (s_X7_keepsPast l dC dI cs L K G Q hQ x0 m0 tx tm H.size I J hI p0 hLp0 hKp0) (cwV 0 hts (gV pq1324 pq1326 pq26 pq81 pq1327) rfl rfl rfl (by decide +kernel) ⟨(by rw [hR]; exact (Nat.le_of_ble_eq_true rfl)), (by rw [hR]; exact (Nat.le_of_ble_eq_true rfl))⟩) (sP_V hP hD hK hN hLp0 hKp0 rfl rfl) rfl rfl hl.1 rfl (lv_room (Nat.le_of_ble_eq_true rfl)) dX7_two_27 ⟨(by rw [hR]; exact (Nat.le_of_ble_eq_true rfl)), (by rw [hR]; exact (Nat.le_of_ble_eq_true rfl))⟩) hS hAL hA (fun Iz27 Jz27 H locs hz27 hIz27 hP hS => ?_)
    obtain ⟨hIz27, frc27, dnc27, jz27, djc27⟩ := hIz27
    have dj_Jz27 : (∀ b, ¬ (K b = 22 ∨ K b = 33) → Jz27 b = J b) := fun b hc => (djc27 b (fun z => hc (by omega))).trans (dj_J b hc)
    have dn_Iz27 : (∀ b, K b = 0 ∨ K b = 1 ∨ K b = 3 ∨ K b = 6 → Iz27 b = I b) := fun b hc => (dnc27 b (by omega)).trans (dn_I b hc)
    refine lv_aload_n hx hb dX7_two_30 rfl (lv_at hl 0 rfl) ?_
    refine lv_iload_n hx hb dX7_two_31 rfl (lv_at hl 1 rfl) ?_
    refine lv_iload_n hx hb dX7_two_32 rfl (lv_at hl 2 rfl) ?_
    refine lv_iload_n hx hb dX7_two_33 rfl (lv_at hl 3 rfl) ?_
    refine sw_v (Z := (fun I1 J1 => Iv L K x0 m0 tx tm I1 ∧ (∀ b, ¬ (K b = 18) → I1 b = Iz27 b) ∧ (I1 ((Q p0 0).getD 0) = upd (Iz27 ((Q p0 0).getD 0)) (19 + 8 * p1.toInt.toNat + p2.toInt.toNat) p3) ∧ (∀ b, K b = 0 ∨ K b = 1 ∨ K b = 3 ∨ K b = 6 → I1 b = Iz27 b) ∧ J1 = Jz27)) (va_runV (As := [.int p1, .int p2, .int p3]) (rest := []) ⟨hx, hb, hml, hown, hts⟩ (s_X7_sets l dC dI cs L K G Q hQ x0 m0 tx tm H.size Iz27 Jz27 hIz27 p0 hLp0 hKp0 p1 ⟨by omega, by omega⟩ p2 ⟨by omega, by omega⟩ p3 (rng_3 ⟨by omega, by omega⟩ (by omega))) (cwV 3 hts (gV pq1336 pq1338 pq29 pq81 pq1339) rfl rfl rfl (by decide +kernel) ⟨(by rw [hR]; exact (Nat.le_of_ble_eq_true rfl)), (by rw [hR]; exact (Nat.le_of_ble_eq_true rfl))⟩) (sP_V hP hD hK hN hLp0 hKp0 rfl rfl) rfl rfl hl.1 rfl (lv_room (Nat.le_of_ble_eq_true rfl)) dX7_two_34 ⟨(by rw [hR]; exact (Nat.le_of_ble_eq_true rfl)), (by rw [hR]; exact (Nat.le_of_ble_eq_true rfl))⟩) hS hAL hA (fun Iz34 Jz34 H locs hz34 hIz34 hP hS => ?_)
    obtain ⟨hIz34, frc34, zp34, dnc34, djc34⟩ := hIz34
    obtain rfl : Jz27 = Jz34 := djc34.symm
    have dn_Iz34 : (∀ b, K b = 0 ∨ K b = 1 ∨ K b = 3 ∨ K b = 6 → Iz34 b = I b) := fun b hc => (dnc34 b (by omega)).trans (dn_Iz27 b hc)
    rw [show p2.toInt.toNat = 4 from (by omega)] at zp34
    refine lv_aload_n hx hb dX7_two_37 rfl (lv_at hl 0 rfl) ?_
    refine lv_iload_n hx hb dX7_two_38 rfl (lv_at hl 1 rfl) ?_
    refine lv_iload_n hx hb dX7_two_39 rfl (lv_at hl 2 rfl) ?_
    refine lv_iconst (v := 1) hx hb dX7_two_40 (by decide +kernel) ?_
    refine lv_iadd hx hb dX7_two_41 ?_
    refine lv_topi (fun z41 ez41 => ?_)
    have bz41 := tq_add (k := p2.toInt) (q := (1)) ez41 rfl (by decide +kernel) (by omega) (by omega)
    refine lv_iload hx hb dX7_two_42 (lv_at hl 4 rfl) ?_
    refine sw_v (Z := (fun I1 J1 => Iv L K x0 m0 tx tm I1 ∧ (∀ b, ¬ (K b = 18) → I1 b = Iz34 b) ∧ (I1 ((Q p0 0).getD 0) = upd (Iz34 ((Q p0 0).getD 0)) (19 + 8 * p1.toInt.toNat + z41.toInt.toNat) p4) ∧ (∀ b, K b = 0 ∨ K b = 1 ∨ K b = 3 ∨ K b = 6 → I1 b = Iz34 b) ∧ J1 = Jz27)) (va_runV (As := [.int p1, .int z41, .int p4]) (rest := []) ⟨hx, hb, hml, hown, hts⟩ (s_X7_sets l dC dI cs L K G Q hQ x0 m0 tx tm H.size Iz34 Jz27 hIz34 p0 hLp0 hKp0 p1 ⟨by omega, by omega⟩ z41 ⟨by omega, by omega⟩ p4 (rng_3 ⟨by omega, by omega⟩ (by omega))) (cwV 3 hts (gV pq1336 pq1338 pq29 pq81 pq1339) rfl rfl rfl (by decide +kernel) ⟨(by rw [hR]; exact (Nat.le_of_ble_eq_true rfl)), (by rw [hR]; exact (Nat.le_of_ble_eq_true rfl))⟩) (sP_V hP hD hK hN hLp0 hKp0 rfl rfl) rfl rfl hl.1 rfl (lv_room (Nat.le_of_ble_eq_true rfl)) dX7_two_44 ⟨(by rw [hR]; exact (Nat.le_of_ble_eq_true rfl)), (by rw [hR]; exact (Nat.le_of_ble_eq_true rfl))⟩) hS hAL hA (fun Iz44 Jz44 H locs hz44 hIz44 hP hS => ?_)
    obtain ⟨hIz44, frc44, zp44, dnc44, djc44⟩ := hIz44
    obtain rfl : Jz27 = Jz44 := djc44.symm
    have dn_Iz44 : (∀ b, K b = 0 ∨ K b = 1 ∨ K b = 3 ∨ K b = 6 → Iz44 b = I b) := fun b hc => (dnc44 b (by omega)).trans (dn_Iz34 b hc)
    rw [show z41.toInt.toNat = 5 from (by omega)] at zp44
    refine lv_iconst (v := 1) hx hb dX7_two_47 (by decide +kernel) ?_
    subst hR; subst hQz
    exact W.iret (v := 1) hx hb hr (fun t ht hW => ⟨⟨1, (), rfl, (fun σ A tc => by rw [tw_y tc (fun q => h26 ⟨(cmA_n A (by omega)).trans q.1, (cmA_n A (by omega)).trans q.2⟩)]; show (1 : Int32).toInt = 1; decide +kernel), ⟨Iz44, Jz27, ⟨hIz44, dn_Iz44, (fun σ A tc => by rw [tw_y tc (fun q => h26 ⟨(cmA_n A (by omega)).trans q.1, (cmA_n A (by omega)).trans q.2⟩)]; have B := cmA_setB (b := p1.toInt.toNat) (k := 4) (v := p3) hQ hLp0 hKp0 (by omega) zp34 frc34 (jz27 σ A); rw [rem_1] at B; exact cmA_setB (b := p1.toInt.toNat) (k := 5) (v := p4) hQ hLp0 hKp0 (by omega) zp44 frc44 B), dj_Jz27⟩, by rw [ht]; exact hP⟩⟩, hS.F ht⟩) hS.2.2 dX7_two_48
  refine lv_icmp_ne (tgt := 26) hx hb dX7_two_7 (by decide) (fun c7 => ?_) (fun c7 => ?_)
  · have t7 := tq_ne (k := z3.toInt) (q := p3.toInt) c7 rfl rfl
    exact j26  _ _ _ (fun q => by first | exact t7 (by rw [f3, q.1]) | exact t20 (by rw [f15, q.2])) hP hS (lv_sub hl [0, 1, 2, 3, 4] rfl)
  · have t7 := tq_eq (k := z3.toInt) (q := p3.toInt) c7 rfl rfl
    refine lv_aload_n hx hb dX7_two_10 rfl (lv_at hl 0 rfl) ?_
    refine lv_iload_n hx hb dX7_two_11 rfl (lv_at hl 1 rfl) ?_
    refine lv_iload_n hx hb dX7_two_12 rfl (lv_at hl 2 rfl) ?_
    refine lv_iconst (v := 1) hx hb dX7_two_13 (by decide +kernel) ?_
    refine lv_iadd hx hb dX7_two_14 ?_
    refine lv_topi (fun z14 ez14 => ?_)
    have bz14 := tq_add (k := p2.toInt) (q := (1)) ez14 rfl (by decide +kernel) (by omega) (by omega)
    refine ro_i (va_runV (As := [.int p1, .int z14]) (rest := []) ⟨hx, hb, hml, hown, hts⟩ (s_X7_of l dC dI cs L K G Q hQ x0 m0 tx tm H.size I J hI p0 hLp0 hKp0 p1 ⟨by omega, by omega⟩ z14 ⟨by omega, by omega⟩) (cwV 2 hts (gV pq1320 pq1322 pq25 pq81 pq1323) rfl rfl rfl (by decide +kernel) ⟨(by rw [hR]; exact (Nat.le_of_ble_eq_true rfl)), (by rw [hR]; exact (Nat.le_of_ble_eq_true rfl))⟩) (sP_V hP hD hK hN hLp0 hKp0 rfl rfl) rfl rfl hl.1 rfl (lv_room (Nat.le_of_ble_eq_true rfl)) dX7_two_15 ⟨(by rw [hR]; exact (Nat.le_of_ble_eq_true rfl)), (by rw [hR]; exact (Nat.le_of_ble_eq_true rfl))⟩) hS hP (fun z15 H locs hz15 hP hS => ?_)
    obtain ⟨fez15, xpz15⟩ := hz15
    have f15 : z15 = I (a0 Q p0 0) (19 + 8 * p1.toInt.toNat + 5) := by have q := fez15; rw [show z14.toInt.toNat = 5 from (by omega)] at q; exact q
    refine lv_iload hx hb dX7_two_18 (lv_at hl 4 rfl) ?_
    refine lv_icmp_ne (tgt := 26) hx hb dX7_two_20 (by decide) (fun c20 => ?_) (fun c20 => ?_)
    · have t20 := tq_ne (k := z15.toInt) (q := p4.toInt) c20 rfl rfl
      exact j26  _ _ _ (fun q => by first | exact t7 (by rw [f3, q.1]) | exact t20 (by rw [f15, q.2])) hP hS (lv_sub hl [0, 1, 2, 3, 4] rfl)
    · have t20 := tq_eq (k := z15.toInt) (q := p4.toInt) c20 rfl rfl
      refine lv_bipush (v := (-2)) hx hb dX7_two_23 (by decide +kernel) ?_
      subst hR; subst hQz
      exact W.iret (v := (-2)) hx hb hr (fun t ht hW => ⟨⟨(-2), (), rfl, (fun σ A tc => by rw [tw_e tc ⟨(cmA_n A (by omega)).symm.trans (f3.symm.trans (Int32.toInt_inj.mp t7)), (cmA_n A (by omega)).symm.trans (f15.symm.trans (Int32.toInt_inj.mp t20))⟩]; show (-2 : Int32).toInt = -2; decide +kernel), ⟨I, J, ⟨hI, dn_I, (fun σ A tc => by rw [tw_e tc ⟨(cmA_n A (by omega)).symm.trans (f3.symm.trans (Int32.toInt_inj.mp t7)), (cmA_n A (by omega)).symm.trans (f15.symm.trans (Int32.toInt_inj.mp t20))⟩]; exact A), dj_J⟩, by rw [ht]; exact hP⟩⟩, hS.F ht⟩) hS.2.2 dX7_two_25

set_option maxHeartbeats 4000000 in
set_option maxRecDepth 100000 in
theorem s_X7_twoS (l : Launch) (dC : Nat → ClassId) (dI : Nat → Nat → Nat) (cs : Nat → ClassId) (L : List Nat) (K G : Nat → Nat) (Q : Nat → Nat → Option Nat) (hQ : Sv L K G Q) (x0 m0 : Nat) (tx : GT) (tm : GT × Int) (sz : Nat) (I : Nat → Nat → Int32) (J : Nat → Nat → Int64) (hI : Iv L K x0 m0 tx tm I) (p0 : Nat) (hLp0 : p0 ∈ L) (hKp0 : K p0 = 7) (p1 : Int32) (bp1 : (0) ≤ p1.toInt ∧ p1.toInt ≤ 9) (p2 : Int32) (bp2 : (6) ≤ p2.toInt ∧ p2.toInt ≤ 6) (p3 : Int32) (bp3 : (-20) ≤ p3.toInt ∧ p3.toInt ≤ 20) (p4 : Int32) (bp4 : (-20) ≤ p4.toInt ∧ p4.toInt ≤ 20) : Met l yX7_two (.code yX7_two cX7_two 5 (some .int) :: pw) ({ frames := 3, cells := 0, slots := 0, locals := 67 }) (sP (dC, dI) cs [.ref p0, .int p1, .int p2, .int p3, .int p4] sz L K I J Q) (va_Qi (fun (r : Int32) (_ : Unit) => (∀ σ : Sx, cmA Q I J p0 σ → twC σ p1 p3 p4 (-20) 20 → r.toInt = (twA σ p1 6 p3 p4 (-20) 20).1)) (fun _ t => sB (dC, dI) cs L K Q (fun I1 J1 => Iv L K x0 m0 tx tm I1 ∧ (∀ b, K b = 0 ∨ K b = 1 ∨ K b = 3 ∨ K b = 6 → I1 b = I b) ∧ (∀ σ : Sx, cmA Q I J p0 σ → twC σ p1 p3 p4 (-20) 20 → cmA Q I1 J1 p0 (twA σ p1 6 p3 p4 (-20) 20).2) ∧ (∀ b, ¬ (K b = 22 ∨ K b = 33) → J1 b = J b)) t) (fun q => q ∈ L ∨ sz ≤ q)) 0 0 (fun q => q ∈ L ∨ sz ≤ q) := by
  refine Met.ofW (cc := cX7_two) (maxL := 5) (ret := (some .int)) (by decide +kernel) rfl ?_
  intro p e s m args below meth c s₁ B hml hv
  obtain ⟨rfl, hsz, hP, hK, hD0, hN⟩ := hv
  have hx := B.exec
  have hb := B.bytes
  have hr := B.returns
  have hts := fun w (h : w ∈ pw) => atoms_spec (ws := Cond.code yX7_two cX7_two 5 (some .int) :: pw) B.pre w (List.mem_cons_of_mem _ h)
  have hown : s.vm.findClass RX7 = some m.cls := findClass_of_methodNamed B.named
  have hlocks := B.notSynchronized
  subst hsz
  have hBB : 999 ≤ tm.2 ∧ tm.2 ≤ 6000000 := hI.2.2.2.2.1
  have dn_I : (∀ b, K b = 0 ∨ K b = 1 ∨ K b = 3 ∨ K b = 6 → I b = I b) := fun _ _ => rfl
  have dj_J : (∀ b, ¬ (K b = 22 ∨ K b = 33) → J b = J b) := fun _ _ => rfl
  obtain ⟨A, hAe⟩ : ∃ A : Nat → Prop, A = (fun q => q ∈ L ∨ s.heap.size ≤ q) := ⟨_, rfl⟩
  rw [← hAe]
  have hAL : ∀ q, q ∈ L → A q := fun q h => by rw [hAe]; exact Or.inl h
  have hA : ∀ q, s.heap.size ≤ q → A q := fun q h => by rw [hAe]; exact Or.inr h
  have hD : ∀ F, va_D A (va_pl L F) := fun F => (hD0 F).weaken (fun k q hk _ => hAL _ (pl_mem hk))
  obtain ⟨H, hHe⟩ : ∃ H : Heap, H = s.heap := ⟨_, rfl⟩
  have hS : va_S A s.heap H [] := by rw [hHe]; exact va_S.rf
  rw [← hHe] at hP
  have hl := lv_entry ([.ref p0, .int p1, .int p2, .int p3, .int p4]) (n := 5) (Nat.le_of_ble_eq_true rfl)
  rw [lg_entry_eq]
  generalize (lg_sl ([.ref p0, .int p1, .int p2, .int p3, .int p4]) ++ List.replicate (5 - (lg_sl ([.ref p0, .int p1, .int p2, .int p3, .int p4])).length) Slot.unset).toArray = ls at hl ⊢
  have hl : lv_has ls 5 [(0, .ref p0), (1, .int p1), (2, .int p2), (3, .int p3), (4, .int p4)] := hl
  rw [← hHe]
  refine namedW (fun R Qz hR hQz => ?_)
  refine lv_aload_n hx hb dX7_two_0 rfl (lv_at hl 0 rfl) ?_
  refine lv_iload_n hx hb dX7_two_1 rfl (lv_at hl 1 rfl) ?_
  refine lv_iload_n hx hb dX7_two_2 rfl (lv_at hl 2 rfl) ?_
  refine ro_i (va_runV (As := [.int p1, .int p2]) (rest := []) ⟨hx, hb, hml, hown, hts⟩ (s_X7_of l dC dI cs L K G Q hQ x0 m0 tx tm H.size I J hI p0 hLp0 hKp0 p1 ⟨by omega, by omega⟩ p2 ⟨by omega, by omega⟩) (cwV 2 hts (gV pq1320 pq1322 pq25 pq81 pq1323) rfl rfl rfl (by decide +kernel) ⟨(by rw [hR]; exact (Nat.le_of_ble_eq_true rfl)), (by rw [hR]; exact (Nat.le_of_ble_eq_true rfl))⟩) (sP_V hP hD hK hN hLp0 hKp0 rfl rfl) rfl rfl hl.1 rfl (lv_room (Nat.le_of_ble_eq_true rfl)) dX7_two_3 ⟨(by rw [hR]; exact (Nat.le_of_ble_eq_true rfl)), (by rw [hR]; exact (Nat.le_of_ble_eq_true rfl))⟩) hS hP (fun z3 H locs hz3 hP hS => ?_)
  obtain ⟨fez3, xpz3⟩ := hz3
  have e4 : p2.toInt.toNat = 6 := by omega
  have f3 : z3 = I (a0 Q p0 0) (19 + 8 * p1.toInt.toNat + 6) := by have q := fez3; rw [e4] at q; exact q
  refine lv_iload_n hx hb dX7_two_6 rfl (lv_at hl 3 rfl) ?_
  have j26 : ∀ (H : Heap) (lo : List Loc) (ls : Array Slot), (¬ (I (a0 Q p0 0) (19 + 8 * p1.toInt.toNat + 6) = p3 ∧ I (a0 Q p0 0) (19 + 8 * p1.toInt.toNat + 7) = p4)) → va_P (dC, dI) vwCl (Wd cs L K I J Q) H → va_S A s.heap H lo → lv_has ls 5 [(0, .ref p0), (1, .int p1), (2, .int p2), (3, .int p3), (4, .int p4)] → W p l e R s m (([.ref p0, .int p1, .int p2, .int p3, .int p4] : List Value).toArray) below meth c H lo 0 0 Qz (F0 m 26 ls []) := by
    intro H lo ls h26 hP hS hl
    refine lv_aload_n hx hb dX7_two_26 rfl (lv_at hl 0 rfl) ?_
    refine sw_v (Z := (fun I1 J1 => Iv L K x0 m0 tx tm I1 ∧ (∀ b, ¬ (K b = 7 ∨ K b = 19 ∨ K b = 30) → I1 b = I b) ∧ (∀ b, K b = 0 ∨ K b = 1 ∨ K b = 3 ∨ K b = 6 → I1 b = I b) ∧ (∀ σ : Sx, cmA Q I J p0 σ → cmA Q I1 J1 p0 (rem σ)) ∧ (∀ b, ¬ (K b = 22 ∨ K b = 33) → J1 b = J b))) (va_runV (As := []) (rest := []) ⟨hx, hb, hml, hown, hts⟩ (s_X7_keepsPast l dC dI cs L K G Q hQ x0 m0 tx tm H.size I J hI p0 hLp0 hKp0) (cwV 0 hts (gV pq1324 pq1326 pq26 pq81 pq1327) rfl rfl rfl (by decide +kernel) ⟨(by rw [hR]; exact (Nat.le_of_ble_eq_true rfl)), (by rw [hR]; exact (Nat.le_of_ble_eq_true rfl))⟩) (sP_V hP hD hK hN hLp0 hKp0 rfl rfl) rfl rfl hl.1 rfl (lv_room (Nat.le_of_ble_eq_true rfl)) dX7_two_27 ⟨(by rw [hR]; exact (Nat.le_of_ble_eq_true rfl)), (by rw [hR]; exact (Nat.le_of_ble_eq_true rfl))⟩) hS hAL hA (fun Iz27 Jz27 H locs hz27 hIz27 hP hS => ?_)
    obtain ⟨hIz27, frc27, dnc27, jz27, djc27⟩ := hIz27
    have dj_Jz27 : (∀ b, ¬ (K b = 22 ∨ K b = 33) → Jz27 b = J b) := fun b hc => (djc27 b (fun z => hc (by omega))).trans (dj_J b hc)
    have dn_Iz27 : (∀ b, K b = 0 ∨ K b = 1 ∨ K b = 3 ∨ K b = 6 → Iz27 b = I b) := fun b hc => (dnc27 b (by omega)).trans (dn_I b hc)
    refine lv_aload_n hx hb dX7_two_30 rfl (lv_at hl 0 rfl) ?_
    refine lv_iload_n hx hb dX7_two_31 rfl (lv_at hl 1 rfl) ?_
    refine lv_iload_n hx hb dX7_two_32 rfl (lv_at hl 2 rfl) ?_
    refine lv_iload_n hx hb dX7_two_33 rfl (lv_at hl 3 rfl) ?_
    refine sw_v (Z := (fun I1 J1 => Iv L K x0 m0 tx tm I1 ∧ (∀ b, ¬ (K b = 18) → I1 b = Iz27 b) ∧ (I1 ((Q p0 0).getD 0) = upd (Iz27 ((Q p0 0).getD 0)) (19 + 8 * p1.toInt.toNat + p2.toInt.toNat) p3) ∧ (∀ b, K b = 0 ∨ K b = 1 ∨ K b = 3 ∨ K b = 6 → I1 b = Iz27 b) ∧ J1 = Jz27)) (va_runV (As := [.int p1, .int p2, .int p3]) (rest := []) ⟨hx, hb, hml, hown, hts⟩ (s_X7_sets l dC dI cs L K G Q hQ x0 m0 tx tm H.size Iz27 Jz27 hIz27 p0 hLp0 hKp0 p1 ⟨by omega, by omega⟩ p2 ⟨by omega, by omega⟩ p3 (rng_6 ⟨by omega, by omega⟩ (by omega) ⟨by omega, by omega⟩)) (cwV 3 hts (gV pq1336 pq1338 pq29 pq81 pq1339) rfl rfl rfl (by decide +kernel) ⟨(by rw [hR]; exact (Nat.le_of_ble_eq_true rfl)), (by rw [hR]; exact (Nat.le_of_ble_eq_true rfl))⟩) (sP_V hP hD hK hN hLp0 hKp0 rfl rfl) rfl rfl hl.1 rfl (lv_room (Nat.le_of_ble_eq_true rfl)) dX7_two_34 ⟨(by rw [hR]; exact (Nat.le_of_ble_eq_true rfl)), (by rw [hR]; exact (Nat.le_of_ble_eq_true rfl))⟩) hS hAL hA (fun Iz34 Jz34 H locs hz34 hIz34 hP hS => ?_)
    obtain ⟨hIz34, frc34, zp34, dnc34, djc34⟩ := hIz34
    obtain rfl : Jz27 = Jz34 := djc34.symm
    have dn_Iz34 : (∀ b, K b = 0 ∨ K b = 1 ∨ K b = 3 ∨ K b = 6 → Iz34 b = I b) := fun b hc => (dnc34 b (by omega)).trans (dn_Iz27 b hc)
    rw [show p2.toInt.toNat = 6 from (by omega)] at zp34
    refine lv_aload_n hx hb dX7_two_37 rfl (lv_at hl 0 rfl) ?_
    refine lv_iload_n hx hb dX7_two_38 rfl (lv_at hl 1 rfl) ?_
    refine lv_iload_n hx hb dX7_two_39 rfl (lv_at hl 2 rfl) ?_
    refine lv_iconst (v := 1) hx hb dX7_two_40 (by decide +kernel) ?_
    refine lv_iadd hx hb dX7_two_41 ?_
    refine lv_topi (fun z41 ez41 => ?_)
    have bz41 := tq_add (k := p2.toInt) (q := (1)) ez41 rfl (by decide +kernel) (by omega) (by omega)
    refine lv_iload hx hb dX7_two_42 (lv_at hl 4 rfl) ?_
    refine sw_v (Z := (fun I1 J1 => Iv L K x0 m0 tx tm I1 ∧ (∀ b, ¬ (K b = 18) → I1 b = Iz34 b) ∧ (I1 ((Q p0 0).getD 0) = upd (Iz34 ((Q p0 0).getD 0)) (19 + 8 * p1.toInt.toNat + z41.toInt.toNat) p4) ∧ (∀ b, K b = 0 ∨ K b = 1 ∨ K b = 3 ∨ K b = 6 → I1 b = Iz34 b) ∧ J1 = Jz27)) (va_runV (As := [.int p1, .int z41, .int p4]) (rest := []) ⟨hx, hb, hml, hown, hts⟩ (s_X7_sets l dC dI cs L K G Q hQ x0 m0 tx tm H.size Iz34 Jz27 hIz34 p0 hLp0 hKp0 p1 ⟨by omega, by omega⟩ z41 ⟨by omega, by omega⟩ p4 (rng_6 ⟨by omega, by omega⟩ (by omega) ⟨by omega, by omega⟩)) (cwV 3 hts (gV pq1336 pq1338 pq29 pq81 pq1339) rfl rfl rfl (by decide +kernel) ⟨(by rw [hR]; exact (Nat.le_of_ble_eq_true rfl)), (by rw [hR]; exact (Nat.le_of_ble_eq_true rfl))⟩) (sP_V hP hD hK hN hLp0 hKp0 rfl rfl) rfl rfl hl.1 rfl (lv_room (Nat.le_of_ble_eq_true rfl)) dX7_two_44 ⟨(by rw [hR]; exact (Nat.le_of_ble_eq_true rfl)), (by rw [hR]; exact (Nat.le_of_ble_eq_true rfl))⟩) hS hAL hA (fun Iz44 Jz44 H locs hz44 hIz44 hP hS => ?_)
    obtain ⟨hIz44, frc44, zp44, dnc44, djc44⟩ := hIz44
    obtain rfl : Jz27 = Jz44 := djc44.symm
    have dn_Iz44 : (∀ b, K b = 0 ∨ K b = 1 ∨ K b = 3 ∨ K b = 6 → Iz44 b = I b) := fun b hc => (dnc44 b (by omega)).trans (dn_Iz34 b hc)
    rw [show z41.toInt.toNat = 7 from (by omega)] at zp44
    refine lv_iconst (v := 1) hx hb dX7_two_47 (by decide +kernel) ?_
    subst hR; subst hQz
    exact W.iret (v := 1) hx hb hr (fun t ht hW => ⟨⟨1, (), rfl, (fun σ A tc => by rw [tw_y tc (fun q => h26 ⟨(cmA_n A (by omega)).trans q.1, (cmA_n A (by omega)).trans q.2⟩)]; show (1 : Int32).toInt = 1; decide +kernel), ⟨Iz44, Jz27, ⟨hIz44, dn_Iz44, (fun σ A tc => by rw [tw_y tc (fun q => h26 ⟨(cmA_n A (by omega)).trans q.1, (cmA_n A (by omega)).trans q.2⟩)]; have B := cmA_setB (b := p1.toInt.toNat) (k := 6) (v := p3) hQ hLp0 hKp0 (by omega) zp34 frc34 (jz27 σ A); rw [rem_1] at B; exact cmA_setB (b := p1.toInt.toNat) (k := 7) (v := p4) hQ hLp0 hKp0 (by omega) zp44 frc44 B), dj_Jz27⟩, by rw [ht]; exact hP⟩⟩, hS.F ht⟩) hS.2.2 dX7_two_48
  refine lv_icmp_ne (tgt := 26) hx hb dX7_two_7 (by decide) (fun c7 => ?_) (fun c7 => ?_)
  · have t7 := tq_ne (k := z3.toInt) (q := p3.toInt) c7 rfl rfl
    exact j26  _ _ _ (fun q => by first | exact t7 (by rw [f3, q.1]) | exact t20 (by rw [f15, q.2])) hP hS (lv_sub hl [0, 1, 2, 3, 4] rfl)
  · have t7 := tq_eq (k := z3.toInt) (q := p3.toInt) c7 rfl rfl
    refine lv_aload_n hx hb dX7_two_10 rfl (lv_at hl 0 rfl) ?_
    refine lv_iload_n hx hb dX7_two_11 rfl (lv_at hl 1 rfl) ?_
    refine lv_iload_n hx hb dX7_two_12 rfl (lv_at hl 2 rfl) ?_
    refine lv_iconst (v := 1) hx hb dX7_two_13 (by decide +kernel) ?_
    refine lv_iadd hx hb dX7_two_14 ?_
    refine lv_topi (fun z14 ez14 => ?_)
    have bz14 := tq_add (k := p2.toInt) (q := (1)) ez14 rfl (by decide +kernel) (by omega) (by omega)
    refine ro_i (va_runV (As := [.int p1, .int z14]) (rest := []) ⟨hx, hb, hml, hown, hts⟩ (s_X7_of l dC dI cs L K G Q hQ x0 m0 tx tm H.size I J hI p0 hLp0 hKp0 p1 ⟨by omega, by omega⟩ z14 ⟨by omega, by omega⟩) (cwV 2 hts (gV pq1320 pq1322 pq25 pq81 pq1323) rfl rfl rfl (by decide +kernel) ⟨(by rw [hR]; exact (Nat.le_of_ble_eq_true rfl)), (by rw [hR]; exact (Nat.le_of_ble_eq_true rfl))⟩) (sP_V hP hD hK hN hLp0 hKp0 rfl rfl) rfl rfl hl.1 rfl (lv_room (Nat.le_of_ble_eq_true rfl)) dX7_two_15 ⟨(by rw [hR]; exact (Nat.le_of_ble_eq_true rfl)), (by rw [hR]; exact (Nat.le_of_ble_eq_true rfl))⟩) hS hP (fun z15 H locs hz15 hP hS => ?_)
    obtain ⟨fez15, xpz15⟩ := hz15
    have f15 : z15 = I (a0 Q p0 0) (19 + 8 * p1.toInt.toNat + 7) := by have q := fez15; rw [show z14.toInt.toNat = 7 from (by omega)] at q; exact q
    refine lv_iload hx hb dX7_two_18 (lv_at hl 4 rfl) ?_
    refine lv_icmp_ne (tgt := 26) hx hb dX7_two_20 (by decide) (fun c20 => ?_) (fun c20 => ?_)
    · have t20 := tq_ne (k := z15.toInt) (q := p4.toInt) c20 rfl rfl
      exact j26  _ _ _ (fun q => by first | exact t7 (by rw [f3, q.1]) | exact t20 (by rw [f15, q.2])) hP hS (lv_sub hl [0, 1, 2, 3, 4] rfl)
    · have t20 := tq_eq (k := z15.toInt) (q := p4.toInt) c20 rfl rfl
      refine lv_bipush (v := (-2)) hx hb dX7_two_23 (by decide +kernel) ?_
      subst hR; subst hQz
      exact W.iret (v := (-2)) hx hb hr (fun t ht hW => ⟨⟨(-2), (), rfl, (fun σ A tc => by rw [tw_e tc ⟨(cmA_n A (by omega)).symm.trans (f3.symm.trans (Int32.toInt_inj.mp t7)), (cmA_n A (by omega)).symm.trans (f15.symm.trans (Int32.toInt_inj.mp t20))⟩]; show (-2 : Int32).toInt = -2; decide +kernel), ⟨I, J, ⟨hI, dn_I, (fun σ A tc => by rw [tw_e tc ⟨(cmA_n A (by omega)).symm.trans (f3.symm.trans (Int32.toInt_inj.mp t7)), (cmA_n A (by omega)).symm.trans (f15.symm.trans (Int32.toInt_inj.mp t20))⟩]; exact A), dj_J⟩, by rw [ht]; exact hP⟩⟩, hS.F ht⟩) hS.2.2 dX7_two_25

set_option maxHeartbeats 4000000 in
set_option maxRecDepth 100000 in
theorem s_X7_layers (l : Launch) (dC : Nat → ClassId) (dI : Nat → Nat → Nat) (cs : Nat → ClassId) (L : List Nat) (K G : Nat → Nat) (Q : Nat → Nat → Option Nat) (hQ : Sv L K G Q) (x0 m0 : Nat) (tx : GT) (tm : GT × Int) (sz : Nat) (I : Nat → Nat → Int32) (J : Nat → Nat → Int64) (hI : Iv L K x0 m0 tx tm I) (p0 : Nat) (hLp0 : p0 ∈ L) (hKp0 : K p0 = 7) (p1 : Int32) (p2 : Int32) (p3 : Int32) : Met l yX7_layers (.code yX7_layers cX7_layers 4 (some .int) :: pw) ({ frames := 4, cells := 0, slots := 0, locals := 91 }) (sP (dC, dI) cs [.ref p0, .int p1, .int p2, .int p3] sz L K I J Q) (va_Qi (fun (r : Int32) (_ : Unit) => (∀ σ : Sx, cmA Q I J p0 σ → r.toInt = (twA σ p1 4 p2 p3 (0) 15).1)) (fun _ t => sB (dC, dI) cs L K Q (fun I1 J1 => Iv L K x0 m0 tx tm I1 ∧ (∀ b, K b = 0 ∨ K b = 1 ∨ K b = 3 ∨ K b = 6 → I1 b = I b) ∧ (∀ σ : Sx, cmA Q I J p0 σ → cmA Q I1 J1 p0 (twA σ p1 4 p2 p3 (0) 15).2) ∧ (∀ b, ¬ (K b = 22 ∨ K b = 33) → J1 b = J b)) t) (fun q => q ∈ L ∨ sz ≤ q)) 0 0 (fun q => q ∈ L ∨ sz ≤ q) := by
  refine Met.ofW (cc := cX7_layers) (maxL := 4) (ret := (some .int)) (by decide +kernel) rfl ?_
  intro p e s m args below meth c s₁ B hml hv
  obtain ⟨rfl, hsz, hP, hK, hD0, hN⟩ := hv
  have hx := B.exec
  have hb := B.bytes
  have hr := B.returns
  have hts := fun w (h : w ∈ pw) => atoms_spec (ws := Cond.code yX7_layers cX7_layers 4 (some .int) :: pw) B.pre w (List.mem_cons_of_mem _ h)
  have hown : s.vm.findClass RX7 = some m.cls := findClass_of_methodNamed B.named
  have hlocks := B.notSynchronized
  subst hsz
  have hBB : 999 ≤ tm.2 ∧ tm.2 ≤ 6000000 := hI.2.2.2.2.1
  have dn_I : (∀ b, K b = 0 ∨ K b = 1 ∨ K b = 3 ∨ K b = 6 → I b = I b) := fun _ _ => rfl
  have dj_J : (∀ b, ¬ (K b = 22 ∨ K b = 33) → J b = J b) := fun _ _ => rfl
  obtain ⟨A, hAe⟩ : ∃ A : Nat → Prop, A = (fun q => q ∈ L ∨ s.heap.size ≤ q) := ⟨_, rfl⟩
  rw [← hAe]
  have hAL : ∀ q, q ∈ L → A q := fun q h => by rw [hAe]; exact Or.inl h
  have hA : ∀ q, s.heap.size ≤ q → A q := fun q h => by rw [hAe]; exact Or.inr h
  have hD : ∀ F, va_D A (va_pl L F) := fun F => (hD0 F).weaken (fun k q hk _ => hAL _ (pl_mem hk))
  obtain ⟨H, hHe⟩ : ∃ H : Heap, H = s.heap := ⟨_, rfl⟩
  have hS : va_S A s.heap H [] := by rw [hHe]; exact va_S.rf
  rw [← hHe] at hP
  have hl := lv_entry ([.ref p0, .int p1, .int p2, .int p3]) (n := 4) (Nat.le_of_ble_eq_true rfl)
  rw [lg_entry_eq]
  generalize (lg_sl ([.ref p0, .int p1, .int p2, .int p3]) ++ List.replicate (4 - (lg_sl ([.ref p0, .int p1, .int p2, .int p3])).length) Slot.unset).toArray = ls at hl ⊢
  have hl : lv_has ls 4 [(0, .ref p0), (1, .int p1), (2, .int p2), (3, .int p3)] := hl
  rw [← hHe]
  refine namedW (fun R Qz hR hQz => ?_)
  refine lv_aload_n hx hb dX7_layers_0 rfl (lv_at hl 0 rfl) ?_
  refine lv_iload_n hx hb dX7_layers_1 rfl (lv_at hl 1 rfl) ?_
  refine ro_i (va_runV (As := [.int p1]) (rest := []) ⟨hx, hb, hml, hown, hts⟩ (s_X7_isBody l dC dI cs L K G Q hQ x0 m0 tx tm H.size I J hI p0 hLp0 hKp0 p1) (cwV 1 hts (gV pq1310 pq1312 pq23 pq81 pq1313) rfl rfl rfl (by decide +kernel) ⟨(by rw [hR]; exact (Nat.le_of_ble_eq_true rfl)), (by rw [hR]; exact (Nat.le_of_ble_eq_true rfl))⟩) (sP_V hP hD hK hN hLp0 hKp0 rfl rfl) rfl rfl hl.1 rfl (lv_room (Nat.le_of_ble_eq_true rfl)) dX7_layers_2 ⟨(by rw [hR]; exact (Nat.le_of_ble_eq_true rfl)), (by rw [hR]; exact (Nat.le_of_ble_eq_true rfl))⟩) hS hP (fun z2 H locs hz2 hP hS => ?_)
  obtain ⟨bz2, imz2, xpz2⟩ := hz2
  refine lv_if_eq (tgt := 43) hx hb dX7_layers_5 (by decide) (fun c5 => ?_) (fun c5 => ?_)
  · have t5 := tq_eq (k := z2.toInt) (q := (0)) c5 rfl (by decide +kernel)
    refine lv_iconst (v := (-1)) hx hb dX7_layers_43 (by decide +kernel) ?_
    subst hR; subst hQz
    exact W.iret (v := (-1)) hx hb hr (fun t ht hW => ⟨⟨(-1), (), rfl, (fun σ A => by have ec : I (a0 Q p0 0) 1 = σ.1.1 1 := cmA_n A (by decide); rw [tw_n (fun q => by unfold twC at q; rw [← ec] at q; first | exact xpz2.2 t5 q.1 | exact xpz14 t17 (by omega) | exact xpz26 t29 (by omega))]; show (-1 : Int32).toInt = -1; decide +kernel), ⟨I, J, ⟨hI, dn_I, (fun σ A => by have ec : I (a0 Q p0 0) 1 = σ.1.1 1 := cmA_n A (by decide); rw [tw_n (fun q => by unfold twC at q; rw [← ec] at q; first | exact xpz2.2 t5 q.1 | exact xpz14 t17 (by omega) | exact xpz26 t29 (by omega))]; exact A), dj_J⟩, by rw [ht]; exact hP⟩⟩, hS.F ht⟩) hS.2.2 dX7_layers_44
  · have t5 := tq_ne (k := z2.toInt) (q := (0)) c5 rfl (by decide +kernel)
    have i5 := imz2 t5
    refine lv_iload_n hx hb dX7_layers_8 rfl (lv_at hl 2 rfl) ?_
    refine lv_i2l hx hb dX7_layers_9 rfl ?_
    refine lv_topl (fun z9 ez9 => ?_)
    have bz9 := tq_i2l (k := p2.toInt) ez9 rfl
    refine lv_lconst (v := 0) hx hb dX7_layers_10 (by decide +kernel) ?_
    refine lv_ldc2 hx hb hown (hts _ pq1349) dX7_layers_11 ?_
    refine ro_i (va_runS (As := [.long z9, .long 0, .long 15]) (rest := []) ⟨hx, hb, hml, hown, hts⟩ (s_X7_in l dC dI cs L K Q H.size I J z9 0 15) (va_cwS 3 hts (gS pq1234 pq1235 pq81 pq1236) rfl rfl rfl (by decide +kernel) ⟨(by rw [hR]; exact (Nat.le_of_ble_eq_true rfl)), (by rw [hR]; exact (Nat.le_of_ble_eq_true rfl))⟩) (sP_S hP hD hK hN) rfl rfl hl.1 rfl (lv_room (Nat.le_of_ble_eq_true rfl)) dX7_layers_14 ⟨(by rw [hR]; exact (Nat.le_of_ble_eq_true rfl)), (by rw [hR]; exact (Nat.le_of_ble_eq_true rfl))⟩) hS hP (fun z14 H locs hz14 hP hS => ?_)
    have csl14_0 : (0 : Int64).toInt = 0 := by decide +kernel
    have csl14_15 : (15 : Int64).toInt = 15 := by decide +kernel
    obtain ⟨bz14, imz14, xpz14⟩ := hz14
    refine lv_if_eq (tgt := 43) hx hb dX7_layers_17 (by decide) (fun c17 => ?_) (fun c17 => ?_)
    · have t17 := tq_eq (k := z14.toInt) (q := (0)) c17 rfl (by decide +kernel)
      refine lv_iconst (v := (-1)) hx hb dX7_layers_43 (by decide +kernel) ?_
      subst hR; subst hQz
      exact W.iret (v := (-1)) hx hb hr (fun t ht hW => ⟨⟨(-1), (), rfl, (fun σ A => by have ec : I (a0 Q p0 0) 1 = σ.1.1 1 := cmA_n A (by decide); rw [tw_n (fun q => by unfold twC at q; rw [← ec] at q; first | exact xpz2.2 t5 q.1 | exact xpz14 t17 (by omega) | exact xpz26 t29 (by omega))]; show (-1 : Int32).toInt = -1; decide +kernel), ⟨I, J, ⟨hI, dn_I, (fun σ A => by have ec : I (a0 Q p0 0) 1 = σ.1.1 1 := cmA_n A (by decide); rw [tw_n (fun q => by unfold twC at q; rw [← ec] at q; first | exact xpz2.2 t5 q.1 | exact xpz14 t17 (by omega) | exact xpz26 t29 (by omega))]; exact A), dj_J⟩, by rw [ht]; exact hP⟩⟩, hS.F ht⟩) hS.2.2 dX7_layers_44
    · have t17 := tq_ne (k := z14.toInt) (q := (0)) c17 rfl (by decide +kernel)
      have i17 := imz14 t17
      refine lv_iload_n hx hb dX7_layers_20 rfl (lv_at hl 3 rfl) ?_
      refine lv_i2l hx hb dX7_layers_21 rfl ?_
      refine lv_topl (fun z21 ez21 => ?_)
      have bz21 := tq_i2l (k := p3.toInt) ez21 rfl
      refine lv_lconst (v := 0) hx hb dX7_layers_22 (by decide +kernel) ?_
      refine lv_ldc2 hx hb hown (hts _ pq1349) dX7_layers_23 ?_
      refine ro_i (va_runS (As := [.long z21, .long 0, .long 15]) (rest := []) ⟨hx, hb, hml, hown, hts⟩ (s_X7_in l dC dI cs L K Q H.size I J z21 0 15) (va_cwS 3 hts (gS pq1234 pq1235 pq81 pq1236) rfl rfl rfl (by decide +kernel) ⟨(by rw [hR]; exact (Nat.le_of_ble_eq_true rfl)), (by rw [hR]; exact (Nat.le_of_ble_eq_true rfl))⟩) (sP_S hP hD hK hN) rfl rfl hl.1 rfl (lv_room (Nat.le_of_ble_eq_true rfl)) dX7_layers_26 ⟨(by rw [hR]; exact (Nat.le_of_ble_eq_true rfl)), (by rw [hR]; exact (Nat.le_of_ble_eq_true rfl))⟩) hS hP (fun z26 H locs hz26 hP hS => ?_)
      have csl26_0 : (0 : Int64).toInt = 0 := by decide +kernel
      have csl26_15 : (15 : Int64).toInt = 15 := by decide +kernel
      obtain ⟨bz26, imz26, xpz26⟩ := hz26
      refine lv_if_eq (tgt := 43) hx hb dX7_layers_29 (by decide) (fun c29 => ?_) (fun c29 => ?_)
      · have t29 := tq_eq (k := z26.toInt) (q := (0)) c29 rfl (by decide +kernel)
        refine lv_iconst (v := (-1)) hx hb dX7_layers_43 (by decide +kernel) ?_
        subst hR; subst hQz
        exact W.iret (v := (-1)) hx hb hr (fun t ht hW => ⟨⟨(-1), (), rfl, (fun σ A => by have ec : I (a0 Q p0 0) 1 = σ.1.1 1 := cmA_n A (by decide); rw [tw_n (fun q => by unfold twC at q; rw [← ec] at q; first | exact xpz2.2 t5 q.1 | exact xpz14 t17 (by omega) | exact xpz26 t29 (by omega))]; show (-1 : Int32).toInt = -1; decide +kernel), ⟨I, J, ⟨hI, dn_I, (fun σ A => by have ec : I (a0 Q p0 0) 1 = σ.1.1 1 := cmA_n A (by decide); rw [tw_n (fun q => by unfold twC at q; rw [← ec] at q; first | exact xpz2.2 t5 q.1 | exact xpz14 t17 (by omega) | exact xpz26 t29 (by omega))]; exact A), dj_J⟩, by rw [ht]; exact hP⟩⟩, hS.F ht⟩) hS.2.2 dX7_layers_44
      · have t29 := tq_ne (k := z26.toInt) (q := (0)) c29 rfl (by decide +kernel)
        have i29 := imz26 t29
        refine lv_aload_n hx hb dX7_layers_32 rfl (lv_at hl 0 rfl) ?_
        refine lv_iload_n hx hb dX7_layers_33 rfl (lv_at hl 1 rfl) ?_
        refine lv_iconst (v := 4) hx hb dX7_layers_34 (by decide +kernel) ?_
        refine lv_iload_n hx hb dX7_layers_35 rfl (lv_at hl 2 rfl) ?_
        refine lv_iload_n hx hb dX7_layers_36 rfl (lv_at hl 3 rfl) ?_
        refine sw_i (Z := (fun I1 J1 => Iv L K x0 m0 tx tm I1 ∧ (∀ b, K b = 0 ∨ K b = 1 ∨ K b = 3 ∨ K b = 6 → I1 b = I b) ∧ (∀ σ : Sx, cmA Q I J p0 σ → twC σ p1 p2 p3 (0) 15 → cmA Q I1 J1 p0 (twA σ p1 4 p2 p3 (0) 15).2) ∧ (∀ b, ¬ (K b = 22 ∨ K b = 33) → J1 b = J b))) (va_runV (As := [.int p1, .int 4, .int p2, .int p3]) (rest := []) ⟨hx, hb, hml, hown, hts⟩ (s_X7_twoL l dC dI cs L K G Q hQ x0 m0 tx tm H.size I J hI p0 hLp0 hKp0 p1 ⟨by omega, by omega⟩ 4 ⟨by decide +kernel, by decide +kernel⟩ p2 p3) (cwV 4 hts (gV pq1350 pq1352 pq30 pq81 pq1353) rfl rfl rfl (by decide +kernel) ⟨(by rw [hR]; exact (Nat.le_of_ble_eq_true rfl)), (by rw [hR]; exact (Nat.le_of_ble_eq_true rfl))⟩) (sP_V hP hD hK hN hLp0 hKp0 rfl rfl) rfl rfl hl.1 rfl (lv_room (Nat.le_of_ble_eq_true rfl)) dX7_layers_37 ⟨(by rw [hR]; exact (Nat.le_of_ble_eq_true rfl)), (by rw [hR]; exact (Nat.le_of_ble_eq_true rfl))⟩) hS hAL hA (fun z37 Iz37 Jz37 H locs hz37 hIz37 hP hS => ?_)
        obtain ⟨hIz37, dnc37, jz37, djc37⟩ := hIz37
        have dj_Jz37 : (∀ b, ¬ (K b = 22 ∨ K b = 33) → Jz37 b = J b) := fun b hc => (djc37 b (fun z => hc (by omega))).trans (dj_J b hc)
        have dn_Iz37 : (∀ b, K b = 0 ∨ K b = 1 ∨ K b = 3 ∨ K b = 6 → Iz37 b = I b) := fun b hc => (dnc37 b (by omega)).trans (dn_I b hc)
        have cst37_4 : (4 : Int32).toInt = 4 := by decide +kernel
        have xpz37 := hz37
        try rw [cst37_4] at xpz37
        refine lv_goto (tgt := 44) hx hb dX7_layers_40 (by decide) ?_
        subst hR; subst hQz
        exact W.iret (v := z37) hx hb hr (fun t ht hW => ⟨⟨z37, (), rfl, (fun σ A => by have ec : I (a0 Q p0 0) 1 = σ.1.1 1 := cmA_n A (by decide); exact xpz37 σ A ⟨by rw [← ec]; exact xpz2.1 t5, ⟨by omega, by omega⟩, ⟨by omega, by omega⟩⟩), ⟨Iz37, Jz37, ⟨hIz37, dn_Iz37, (fun σ A => by have ec : I (a0 Q p0 0) 1 = σ.1.1 1 := cmA_n A (by decide); exact jz37 σ A ⟨by rw [← ec]; exact xpz2.1 t5, ⟨by omega, by omega⟩, ⟨by omega, by omega⟩⟩), dj_Jz37⟩, by rw [ht]; exact hP⟩⟩, hS.F ht⟩) hS.2.2 dX7_layers_44

set_option maxHeartbeats 4000000 in
set_option maxRecDepth 100000 in
theorem s_X7_speed (l : Launch) (dC : Nat → ClassId) (dI : Nat → Nat → Nat) (cs : Nat → ClassId) (L : List Nat) (K G : Nat → Nat) (Q : Nat → Nat → Option Nat) (hQ : Sv L K G Q) (x0 m0 : Nat) (tx : GT) (tm : GT × Int) (sz : Nat) (I : Nat → Nat → Int32) (J : Nat → Nat → Int64) (hI : Iv L K x0 m0 tx tm I) (p0 : Nat) (hLp0 : p0 ∈ L) (hKp0 : K p0 = 7) (p1 : Int32) (p2 : Int32) (p3 : Int32) : Met l yX7_speed (.code yX7_speed cX7_speed 4 (some .int) :: pw) ({ frames := 4, cells := 0, slots := 0, locals := 91 }) (sP (dC, dI) cs [.ref p0, .int p1, .int p2, .int p3] sz L K I J Q) (va_Qi (fun (r : Int32) (_ : Unit) => (∀ σ : Sx, cmA Q I J p0 σ → r.toInt = (twA σ p1 6 p2 p3 (-20) 20).1)) (fun _ t => sB (dC, dI) cs L K Q (fun I1 J1 => Iv L K x0 m0 tx tm I1 ∧ (∀ b, K b = 0 ∨ K b = 1 ∨ K b = 3 ∨ K b = 6 → I1 b = I b) ∧ (∀ σ : Sx, cmA Q I J p0 σ → cmA Q I1 J1 p0 (twA σ p1 6 p2 p3 (-20) 20).2) ∧ (∀ b, ¬ (K b = 22 ∨ K b = 33) → J1 b = J b)) t) (fun q => q ∈ L ∨ sz ≤ q)) 0 0 (fun q => q ∈ L ∨ sz ≤ q) := by
  refine Met.ofW (cc := cX7_speed) (maxL := 4) (ret := (some .int)) (by decide +kernel) rfl ?_
  intro p e s m args below meth c s₁ B hml hv
  obtain ⟨rfl, hsz, hP, hK, hD0, hN⟩ := hv
  have hx := B.exec
  have hb := B.bytes
  have hr := B.returns
  have hts := fun w (h : w ∈ pw) => atoms_spec (ws := Cond.code yX7_speed cX7_speed 4 (some .int) :: pw) B.pre w (List.mem_cons_of_mem _ h)
  have hown : s.vm.findClass RX7 = some m.cls := findClass_of_methodNamed B.named
  have hlocks := B.notSynchronized
  subst hsz
  have hBB : 999 ≤ tm.2 ∧ tm.2 ≤ 6000000 := hI.2.2.2.2.1
  have dn_I : (∀ b, K b = 0 ∨ K b = 1 ∨ K b = 3 ∨ K b = 6 → I b = I b) := fun _ _ => rfl
  have dj_J : (∀ b, ¬ (K b = 22 ∨ K b = 33) → J b = J b) := fun _ _ => rfl
  obtain ⟨A, hAe⟩ : ∃ A : Nat → Prop, A = (fun q => q ∈ L ∨ s.heap.size ≤ q) := ⟨_, rfl⟩
  rw [← hAe]
  have hAL : ∀ q, q ∈ L → A q := fun q h => by rw [hAe]; exact Or.inl h
  have hA : ∀ q, s.heap.size ≤ q → A q := fun q h => by rw [hAe]; exact Or.inr h
  have hD : ∀ F, va_D A (va_pl L F) := fun F => (hD0 F).weaken (fun k q hk _ => hAL _ (pl_mem hk))
  obtain ⟨H, hHe⟩ : ∃ H : Heap, H = s.heap := ⟨_, rfl⟩
  have hS : va_S A s.heap H [] := by rw [hHe]; exact va_S.rf
  rw [← hHe] at hP
  have hl := lv_entry ([.ref p0, .int p1, .int p2, .int p3]) (n := 4) (Nat.le_of_ble_eq_true rfl)
  rw [lg_entry_eq]
  generalize (lg_sl ([.ref p0, .int p1, .int p2, .int p3]) ++ List.replicate (4 - (lg_sl ([.ref p0, .int p1, .int p2, .int p3])).length) Slot.unset).toArray = ls at hl ⊢
  have hl : lv_has ls 4 [(0, .ref p0), (1, .int p1), (2, .int p2), (3, .int p3)] := hl
  rw [← hHe]
  refine namedW (fun R Qz hR hQz => ?_)
  refine lv_aload_n hx hb dX7_speed_0 rfl (lv_at hl 0 rfl) ?_
  refine lv_iload_n hx hb dX7_speed_1 rfl (lv_at hl 1 rfl) ?_
  refine ro_i (va_runV (As := [.int p1]) (rest := []) ⟨hx, hb, hml, hown, hts⟩ (s_X7_isBody l dC dI cs L K G Q hQ x0 m0 tx tm H.size I J hI p0 hLp0 hKp0 p1) (cwV 1 hts (gV pq1310 pq1312 pq23 pq81 pq1313) rfl rfl rfl (by decide +kernel) ⟨(by rw [hR]; exact (Nat.le_of_ble_eq_true rfl)), (by rw [hR]; exact (Nat.le_of_ble_eq_true rfl))⟩) (sP_V hP hD hK hN hLp0 hKp0 rfl rfl) rfl rfl hl.1 rfl (lv_room (Nat.le_of_ble_eq_true rfl)) dX7_speed_2 ⟨(by rw [hR]; exact (Nat.le_of_ble_eq_true rfl)), (by rw [hR]; exact (Nat.le_of_ble_eq_true rfl))⟩) hS hP (fun z2 H locs hz2 hP hS => ?_)
  obtain ⟨bz2, imz2, xpz2⟩ := hz2
  refine lv_if_eq (tgt := 48) hx hb dX7_speed_5 (by decide) (fun c5 => ?_) (fun c5 => ?_)
  · have t5 := tq_eq (k := z2.toInt) (q := (0)) c5 rfl (by decide +kernel)
    refine lv_iconst (v := (-1)) hx hb dX7_speed_48 (by decide +kernel) ?_
    subst hR; subst hQz
    exact W.iret (v := (-1)) hx hb hr (fun t ht hW => ⟨⟨(-1), (), rfl, (fun σ A => by have ec : I (a0 Q p0 0) 1 = σ.1.1 1 := cmA_n A (by decide); rw [tw_n (fun q => by unfold twC at q; rw [← ec] at q; first | exact xpz2.2 t5 q.1 | exact xpz16 t19 (by omega) | exact xpz30 t33 (by omega))]; show (-1 : Int32).toInt = -1; decide +kernel), ⟨I, J, ⟨hI, dn_I, (fun σ A => by have ec : I (a0 Q p0 0) 1 = σ.1.1 1 := cmA_n A (by decide); rw [tw_n (fun q => by unfold twC at q; rw [← ec] at q; first | exact xpz2.2 t5 q.1 | exact xpz16 t19 (by omega) | exact xpz30 t33 (by omega))]; exact A), dj_J⟩, by rw [ht]; exact hP⟩⟩, hS.F ht⟩) hS.2.2 dX7_speed_49
  · have t5 := tq_ne (k := z2.toInt) (q := (0)) c5 rfl (by decide +kernel)
    have i5 := imz2 t5
    refine lv_iload_n hx hb dX7_speed_8 rfl (lv_at hl 2 rfl) ?_
    refine lv_i2l hx hb dX7_speed_9 rfl ?_
    refine lv_topl (fun z9 ez9 => ?_)
    have bz9 := tq_i2l (k := p2.toInt) ez9 rfl
    refine lv_ldc2 hx hb hown (hts _ pq1358) dX7_speed_10 ?_
    refine lv_ldc2 hx hb hown (hts _ pq1359) dX7_speed_13 ?_
    refine ro_i (va_runS (As := [.long z9, .long (-20), .long 20]) (rest := []) ⟨hx, hb, hml, hown, hts⟩ (s_X7_in l dC dI cs L K Q H.size I J z9 (-20) 20) (va_cwS 3 hts (gS pq1234 pq1235 pq81 pq1236) rfl rfl rfl (by decide +kernel) ⟨(by rw [hR]; exact (Nat.le_of_ble_eq_true rfl)), (by rw [hR]; exact (Nat.le_of_ble_eq_true rfl))⟩) (sP_S hP hD hK hN) rfl rfl hl.1 rfl (lv_room (Nat.le_of_ble_eq_true rfl)) dX7_speed_16 ⟨(by rw [hR]; exact (Nat.le_of_ble_eq_true rfl)), (by rw [hR]; exact (Nat.le_of_ble_eq_true rfl))⟩) hS hP (fun z16 H locs hz16 hP hS => ?_)
    have csl16_m20 : ((-20) : Int64).toInt = (-20) := by decide +kernel
    have csl16_20 : (20 : Int64).toInt = 20 := by decide +kernel
    obtain ⟨bz16, imz16, xpz16⟩ := hz16
    refine lv_if_eq (tgt := 48) hx hb dX7_speed_19 (by decide) (fun c19 => ?_) (fun c19 => ?_)
    · have t19 := tq_eq (k := z16.toInt) (q := (0)) c19 rfl (by decide +kernel)
      refine lv_iconst (v := (-1)) hx hb dX7_speed_48 (by decide +kernel) ?_
      subst hR; subst hQz
      exact W.iret (v := (-1)) hx hb hr (fun t ht hW => ⟨⟨(-1), (), rfl, (fun σ A => by have ec : I (a0 Q p0 0) 1 = σ.1.1 1 := cmA_n A (by decide); rw [tw_n (fun q => by unfold twC at q; rw [← ec] at q; first | exact xpz2.2 t5 q.1 | exact xpz16 t19 (by omega) | exact xpz30 t33 (by omega))]; show (-1 : Int32).toInt = -1; decide +kernel), ⟨I, J, ⟨hI, dn_I, (fun σ A => by have ec : I (a0 Q p0 0) 1 = σ.1.1 1 := cmA_n A (by decide); rw [tw_n (fun q => by unfold twC at q; rw [← ec] at q; first | exact xpz2.2 t5 q.1 | exact xpz16 t19 (by omega) | exact xpz30 t33 (by omega))]; exact A), dj_J⟩, by rw [ht]; exact hP⟩⟩, hS.F ht⟩) hS.2.2 dX7_speed_49
    · have t19 := tq_ne (k := z16.toInt) (q := (0)) c19 rfl (by decide +kernel)
      have i19 := imz16 t19
      refine lv_iload_n hx hb dX7_speed_22 rfl (lv_at hl 3 rfl) ?_
      refine lv_i2l hx hb dX7_speed_23 rfl ?_
      refine lv_topl (fun z23 ez23 => ?_)
      have bz23 := tq_i2l (k := p3.toInt) ez23 rfl
      refine lv_ldc2 hx hb hown (hts _ pq1358) dX7_speed_24 ?_
      refine lv_ldc2 hx hb hown (hts _ pq1359) dX7_speed_27 ?_
      refine ro_i (va_runS (As := [.long z23, .long (-20), .long 20]) (rest := []) ⟨hx, hb, hml, hown, hts⟩ (s_X7_in l dC dI cs L K Q H.size I J z23 (-20) 20) (va_cwS 3 hts (gS pq1234 pq1235 pq81 pq1236) rfl rfl rfl (by decide +kernel) ⟨(by rw [hR]; exact (Nat.le_of_ble_eq_true rfl)), (by rw [hR]; exact (Nat.le_of_ble_eq_true rfl))⟩) (sP_S hP hD hK hN) rfl rfl hl.1 rfl (lv_room (Nat.le_of_ble_eq_true rfl)) dX7_speed_30 ⟨(by rw [hR]; exact (Nat.le_of_ble_eq_true rfl)), (by rw [hR]; exact (Nat.le_of_ble_eq_true rfl))⟩) hS hP (fun z30 H locs hz30 hP hS => ?_)
      have csl30_m20 : ((-20) : Int64).toInt = (-20) := by decide +kernel
      have csl30_20 : (20 : Int64).toInt = 20 := by decide +kernel
      obtain ⟨bz30, imz30, xpz30⟩ := hz30
      refine lv_if_eq (tgt := 48) hx hb dX7_speed_33 (by decide) (fun c33 => ?_) (fun c33 => ?_)
      · have t33 := tq_eq (k := z30.toInt) (q := (0)) c33 rfl (by decide +kernel)
        refine lv_iconst (v := (-1)) hx hb dX7_speed_48 (by decide +kernel) ?_
        subst hR; subst hQz
        exact W.iret (v := (-1)) hx hb hr (fun t ht hW => ⟨⟨(-1), (), rfl, (fun σ A => by have ec : I (a0 Q p0 0) 1 = σ.1.1 1 := cmA_n A (by decide); rw [tw_n (fun q => by unfold twC at q; rw [← ec] at q; first | exact xpz2.2 t5 q.1 | exact xpz16 t19 (by omega) | exact xpz30 t33 (by omega))]; show (-1 : Int32).toInt = -1; decide +kernel), ⟨I, J, ⟨hI, dn_I, (fun σ A => by have ec : I (a0 Q p0 0) 1 = σ.1.1 1 := cmA_n A (by decide); rw [tw_n (fun q => by unfold twC at q; rw [← ec] at q; first | exact xpz2.2 t5 q.1 | exact xpz16 t19 (by omega) | exact xpz30 t33 (by omega))]; exact A), dj_J⟩, by rw [ht]; exact hP⟩⟩, hS.F ht⟩) hS.2.2 dX7_speed_49
      · have t33 := tq_ne (k := z30.toInt) (q := (0)) c33 rfl (by decide +kernel)
        have i33 := imz30 t33
        refine lv_aload_n hx hb dX7_speed_36 rfl (lv_at hl 0 rfl) ?_
        refine lv_iload_n hx hb dX7_speed_37 rfl (lv_at hl 1 rfl) ?_
        refine lv_bipush (v := 6) hx hb dX7_speed_38 (by decide +kernel) ?_
        refine lv_iload_n hx hb dX7_speed_40 rfl (lv_at hl 2 rfl) ?_
        refine lv_iload_n hx hb dX7_speed_41 rfl (lv_at hl 3 rfl) ?_
        refine sw_i (Z := (fun I1 J1 => Iv L K x0 m0 tx tm I1 ∧ (∀ b, K b = 0 ∨ K b = 1 ∨ K b = 3 ∨ K b = 6 → I1 b = I b) ∧ (∀ σ : Sx, cmA Q I J p0 σ → twC σ p1 p2 p3 (-20) 20 → cmA Q I1 J1 p0 (twA σ p1 6 p2 p3 (-20) 20).2) ∧ (∀ b, ¬ (K b = 22 ∨ K b = 33) → J1 b = J b))) (va_runV (As := [.int p1, .int 6, .int p2, .int p3]) (rest := []) ⟨hx, hb, hml, hown, hts⟩ (s_X7_twoS l dC dI cs L K G Q hQ x0 m0 tx tm H.size I J hI p0 hLp0 hKp0 p1 ⟨by omega, by omega⟩ 6 ⟨by decide +kernel, by decide +kernel⟩ p2 ⟨by omega, by omega⟩ p3 ⟨by omega, by omega⟩) (cwV 4 hts (gV pq1350 pq1352 pq30 pq81 pq1353) rfl rfl rfl (by decide +kernel) ⟨(by rw [hR]; exact (Nat.le_of_ble_eq_true rfl)), (by rw [hR]; exact (Nat.le_of_ble_eq_true rfl))⟩) (sP_V hP hD hK hN hLp0 hKp0 rfl rfl) rfl rfl hl.1 rfl (lv_room (Nat.le_of_ble_eq_true rfl)) dX7_speed_42 ⟨(by rw [hR]; exact (Nat.le_of_ble_eq_true rfl)), (by rw [hR]; exact (Nat.le_of_ble_eq_true rfl))⟩) hS hAL hA (fun z42 Iz42 Jz42 H locs hz42 hIz42 hP hS => ?_)
        obtain ⟨hIz42, dnc42, jz42, djc42⟩ := hIz42
        have dj_Jz42 : (∀ b, ¬ (K b = 22 ∨ K b = 33) → Jz42 b = J b) := fun b hc => (djc42 b (fun z => hc (by omega))).trans (dj_J b hc)
        have dn_Iz42 : (∀ b, K b = 0 ∨ K b = 1 ∨ K b = 3 ∨ K b = 6 → Iz42 b = I b) := fun b hc => (dnc42 b (by omega)).trans (dn_I b hc)
        have cst42_6 : (6 : Int32).toInt = 6 := by decide +kernel
        have xpz42 := hz42
        try rw [cst42_6] at xpz42
        refine lv_goto (tgt := 49) hx hb dX7_speed_45 (by decide) ?_
        subst hR; subst hQz
        exact W.iret (v := z42) hx hb hr (fun t ht hW => ⟨⟨z42, (), rfl, (fun σ A => by have ec : I (a0 Q p0 0) 1 = σ.1.1 1 := cmA_n A (by decide); exact xpz42 σ A ⟨by rw [← ec]; exact xpz2.1 t5, ⟨by omega, by omega⟩, ⟨by omega, by omega⟩⟩), ⟨Iz42, Jz42, ⟨hIz42, dn_Iz42, (fun σ A => by have ec : I (a0 Q p0 0) 1 = σ.1.1 1 := cmA_n A (by decide); exact jz42 σ A ⟨by rw [← ec]; exact xpz2.1 t5, ⟨by omega, by omega⟩, ⟨by omega, by omega⟩⟩), dj_Jz42⟩, by rw [ht]; exact hP⟩⟩, hS.F ht⟩) hS.2.2 dX7_speed_49

set_option maxHeartbeats 4000000 in
set_option maxRecDepth 100000 in
theorem s_X7_turn (l : Launch) (dC : Nat → ClassId) (dI : Nat → Nat → Nat) (cs : Nat → ClassId) (L : List Nat) (K G : Nat → Nat) (Q : Nat → Nat → Option Nat) (hQ : Sv L K G Q) (x0 m0 : Nat) (tx : GT) (tm : GT × Int) (sz : Nat) (I : Nat → Nat → Int32) (J : Nat → Nat → Int64) (hI : Iv L K x0 m0 tx tm I) (p0 : Nat) (hLp0 : p0 ∈ L) (hKp0 : K p0 = 7) (p1 : Int32) (p2 : Int32) (p3 : Int32) : Met l yX7_turn (.code yX7_turn cX7_turn 4 (some .int) :: pw) ({ frames := 3, cells := 0, slots := 0, locals := 67 }) (sP (dC, dI) cs [.ref p0, .int p1, .int p2, .int p3] sz L K I J Q) (va_Qi (fun (r : Int32) (_ : Unit) => (∀ σ : Sx, okF σ.1 → cmA Q I J p0 σ → r.toInt = (tuA σ p1 p2 p3).1)) (fun _ t => sB (dC, dI) cs L K Q (fun I1 J1 => Iv L K x0 m0 tx tm I1 ∧ (∀ b, K b = 0 ∨ K b = 1 ∨ K b = 3 ∨ K b = 6 → I1 b = I b) ∧ (∀ σ : Sx, okF σ.1 → cmA Q I J p0 σ → cmA Q I1 J1 p0 (tuA σ p1 p2 p3).2) ∧ (∀ b, ¬ (K b = 21 ∨ K b = 22 ∨ K b = 33) → J1 b = J b)) t) (fun q => q ∈ L ∨ sz ≤ q)) 0 0 (fun q => q ∈ L ∨ sz ≤ q) := by
  refine Met.ofW (cc := cX7_turn) (maxL := 4) (ret := (some .int)) (by decide +kernel) rfl ?_
  intro p e s m args below meth c s₁ B hml hv
  obtain ⟨rfl, hsz, hP, hK, hD0, hN⟩ := hv
  have hx := B.exec
  have hb := B.bytes
  have hr := B.returns
  have hts := fun w (h : w ∈ pw) => atoms_spec (ws := Cond.code yX7_turn cX7_turn 4 (some .int) :: pw) B.pre w (List.mem_cons_of_mem _ h)
  have hown : s.vm.findClass RX7 = some m.cls := findClass_of_methodNamed B.named
  have hlocks := B.notSynchronized
  subst hsz
  have hBB : 999 ≤ tm.2 ∧ tm.2 ≤ 6000000 := hI.2.2.2.2.1
  have dn_I : (∀ b, K b = 0 ∨ K b = 1 ∨ K b = 3 ∨ K b = 6 → I b = I b) := fun _ _ => rfl
  have dj_J : (∀ b, ¬ (K b = 21 ∨ K b = 22 ∨ K b = 33) → J b = J b) := fun _ _ => rfl
  obtain ⟨A, hAe⟩ : ∃ A : Nat → Prop, A = (fun q => q ∈ L ∨ s.heap.size ≤ q) := ⟨_, rfl⟩
  rw [← hAe]
  have hAL : ∀ q, q ∈ L → A q := fun q h => by rw [hAe]; exact Or.inl h
  have hA : ∀ q, s.heap.size ≤ q → A q := fun q h => by rw [hAe]; exact Or.inr h
  have hD : ∀ F, va_D A (va_pl L F) := fun F => (hD0 F).weaken (fun k q hk _ => hAL _ (pl_mem hk))
  obtain ⟨H, hHe⟩ : ∃ H : Heap, H = s.heap := ⟨_, rfl⟩
  have hS : va_S A s.heap H [] := by rw [hHe]; exact va_S.rf
  rw [← hHe] at hP
  have hl := lv_entry ([.ref p0, .int p1, .int p2, .int p3]) (n := 4) (Nat.le_of_ble_eq_true rfl)
  rw [lg_entry_eq]
  generalize (lg_sl ([.ref p0, .int p1, .int p2, .int p3]) ++ List.replicate (4 - (lg_sl ([.ref p0, .int p1, .int p2, .int p3])).length) Slot.unset).toArray = ls at hl ⊢
  have hl : lv_has ls 4 [(0, .ref p0), (1, .int p1), (2, .int p2), (3, .int p3)] := hl
  rw [← hHe]
  refine namedW (fun R Qz hR hQz => ?_)
  refine lv_aload_n hx hb dX7_turn_0 rfl (lv_at hl 0 rfl) ?_
  refine lv_iload_n hx hb dX7_turn_1 rfl (lv_at hl 1 rfl) ?_
  refine ro_i (va_runV (As := [.int p1]) (rest := []) ⟨hx, hb, hml, hown, hts⟩ (s_X7_isMask l dC dI cs L K G Q hQ x0 m0 tx tm H.size I J hI p0 hLp0 hKp0 p1) (cwV 1 hts (gV pq1364 pq1366 pq31 pq81 pq1367) rfl rfl rfl (by decide +kernel) ⟨(by rw [hR]; exact (Nat.le_of_ble_eq_true rfl)), (by rw [hR]; exact (Nat.le_of_ble_eq_true rfl))⟩) (sP_V hP hD hK hN hLp0 hKp0 rfl rfl) rfl rfl hl.1 rfl (lv_room (Nat.le_of_ble_eq_true rfl)) dX7_turn_2 ⟨(by rw [hR]; exact (Nat.le_of_ble_eq_true rfl)), (by rw [hR]; exact (Nat.le_of_ble_eq_true rfl))⟩) hS hP (fun z2 H locs hz2 hP hS => ?_)
  obtain ⟨bz2, imz2, xpz2⟩ := hz2
  refine lv_if_eq (tgt := 42) hx hb dX7_turn_5 (by decide) (fun c5 => ?_) (fun c5 => ?_)
  · have t5 := tq_eq (k := z2.toInt) (q := (0)) c5 rfl (by decide +kernel)
    refine lv_iconst (v := (-1)) hx hb dX7_turn_42 (by decide +kernel) ?_
    subst hR; subst hQz
    exact W.iret (v := (-1)) hx hb hr (fun t ht hW => ⟨⟨(-1), (), rfl, (fun σ ok A => by have ec : I (a0 Q p0 0) 0 = σ.1.1 0 := cmA_n A (by decide); rw [tu_n (fun q => by have q1 := q.1; have q2 := q.2; first | exact xpz2.2 t5 (by rw [ec]; exact q1) | exact xpz19 t22 (by have eW : z13.toInt = (mW σ p1).toInt := (by rw [show z13 = I (a0 Q p0 0) (3 + p1.toInt.toNat) from fez13, cmA_n A (by omega)]); omega) | exact xpz36 t39 (by have eH : z30.toInt = (mH σ p1).toInt := (by rw [show z30 = I (a0 Q p0 0) (11 + p1.toInt.toNat) from fez30, cmA_n A (by omega)]); omega))]; show (-1 : Int32).toInt = -1; decide +kernel), ⟨I, J, ⟨hI, dn_I, (fun σ ok A => by have ec : I (a0 Q p0 0) 0 = σ.1.1 0 := cmA_n A (by decide); rw [tu_n (fun q => by have q1 := q.1; have q2 := q.2; first | exact xpz2.2 t5 (by rw [ec]; exact q1) | exact xpz19 t22 (by have eW : z13.toInt = (mW σ p1).toInt := (by rw [show z13 = I (a0 Q p0 0) (3 + p1.toInt.toNat) from fez13, cmA_n A (by omega)]); omega) | exact xpz36 t39 (by have eH : z30.toInt = (mH σ p1).toInt := (by rw [show z30 = I (a0 Q p0 0) (11 + p1.toInt.toNat) from fez30, cmA_n A (by omega)]); omega))]; exact A), dj_J⟩, by rw [ht]; exact hP⟩⟩, hS.F ht⟩) hS.2.2 dX7_turn_43
  · have t5 := tq_ne (k := z2.toInt) (q := (0)) c5 rfl (by decide +kernel)
    have i5 := imz2 t5
    refine lv_iload_n hx hb dX7_turn_8 rfl (lv_at hl 2 rfl) ?_
    refine lv_i2l hx hb dX7_turn_9 rfl ?_
    refine lv_topl (fun z9 ez9 => ?_)
    have bz9 := tq_i2l (k := p2.toInt) ez9 rfl
    refine lv_lconst (v := 0) hx hb dX7_turn_10 (by decide +kernel) ?_
    refine lv_aload_n hx hb dX7_turn_11 rfl (lv_at hl 0 rfl) ?_
    refine lv_iload_n hx hb dX7_turn_12 rfl (lv_at hl 1 rfl) ?_
    refine ro_i (va_runV (As := [.int p1]) (rest := [.long 0, .long z9]) ⟨hx, hb, hml, hown, hts⟩ (s_X7_wide l dC dI cs L K G Q hQ x0 m0 tx tm H.size I J hI p0 hLp0 hKp0 p1 ⟨by omega, by omega⟩) (cwV 1 hts (gV pq1368 pq1370 pq32 pq81 pq1371) rfl rfl rfl (by decide +kernel) ⟨(by rw [hR]; exact (Nat.le_of_ble_eq_true rfl)), (by rw [hR]; exact (Nat.le_of_ble_eq_true rfl))⟩) (sP_V hP hD hK hN hLp0 hKp0 rfl rfl) rfl rfl hl.1 rfl (lv_room (Nat.le_of_ble_eq_true rfl)) dX7_turn_13 ⟨(by rw [hR]; exact (Nat.le_of_ble_eq_true rfl)), (by rw [hR]; exact (Nat.le_of_ble_eq_true rfl))⟩) hS hP (fun z13 H locs hz13 hP hS => ?_)
    obtain ⟨bz13, fez13⟩ := hz13
    refine lv_iconst (v := 1) hx hb dX7_turn_16 (by decide +kernel) ?_
    refine lv_isub hx hb dX7_turn_17 ?_
    refine lv_topi (fun z17 ez17 => ?_)
    have bz17 := tq_sub (k := z13.toInt) (q := (1)) ez17 rfl (by decide +kernel) (by omega) (by omega)
    refine lv_i2l hx hb dX7_turn_18 rfl ?_
    refine lv_topl (fun z18 ez18 => ?_)
    have bz18 := tq_i2l (k := z17.toInt) ez18 rfl
    refine ro_i (va_runS (As := [.long z9, .long 0, .long z18]) (rest := []) ⟨hx, hb, hml, hown, hts⟩ (s_X7_in l dC dI cs L K Q H.size I J z9 0 z18) (va_cwS 3 hts (gS pq1234 pq1235 pq81 pq1236) rfl rfl rfl (by decide +kernel) ⟨(by rw [hR]; exact (Nat.le_of_ble_eq_true rfl)), (by rw [hR]; exact (Nat.le_of_ble_eq_true rfl))⟩) (sP_S hP hD hK hN) rfl rfl hl.1 rfl (lv_room (Nat.le_of_ble_eq_true rfl)) dX7_turn_19 ⟨(by rw [hR]; exact (Nat.le_of_ble_eq_true rfl)), (by rw [hR]; exact (Nat.le_of_ble_eq_true rfl))⟩) hS hP (fun z19 H locs hz19 hP hS => ?_)
    have csl19_0 : (0 : Int64).toInt = 0 := by decide +kernel
    obtain ⟨bz19, imz19, xpz19⟩ := hz19
    refine lv_if_eq (tgt := 42) hx hb dX7_turn_22 (by decide) (fun c22 => ?_) (fun c22 => ?_)
    · have t22 := tq_eq (k := z19.toInt) (q := (0)) c22 rfl (by decide +kernel)
      refine lv_iconst (v := (-1)) hx hb dX7_turn_42 (by decide +kernel) ?_
      subst hR; subst hQz
      exact W.iret (v := (-1)) hx hb hr (fun t ht hW => ⟨⟨(-1), (), rfl, (fun σ ok A => by have ec : I (a0 Q p0 0) 0 = σ.1.1 0 := cmA_n A (by decide); rw [tu_n (fun q => by have q1 := q.1; have q2 := q.2; first | exact xpz2.2 t5 (by rw [ec]; exact q1) | exact xpz19 t22 (by have eW : z13.toInt = (mW σ p1).toInt := (by rw [show z13 = I (a0 Q p0 0) (3 + p1.toInt.toNat) from fez13, cmA_n A (by omega)]); omega) | exact xpz36 t39 (by have eH : z30.toInt = (mH σ p1).toInt := (by rw [show z30 = I (a0 Q p0 0) (11 + p1.toInt.toNat) from fez30, cmA_n A (by omega)]); omega))]; show (-1 : Int32).toInt = -1; decide +kernel), ⟨I, J, ⟨hI, dn_I, (fun σ ok A => by have ec : I (a0 Q p0 0) 0 = σ.1.1 0 := cmA_n A (by decide); rw [tu_n (fun q => by have q1 := q.1; have q2 := q.2; first | exact xpz2.2 t5 (by rw [ec]; exact q1) | exact xpz19 t22 (by have eW : z13.toInt = (mW σ p1).toInt := (by rw [show z13 = I (a0 Q p0 0) (3 + p1.toInt.toNat) from fez13, cmA_n A (by omega)]); omega) | exact xpz36 t39 (by have eH : z30.toInt = (mH σ p1).toInt := (by rw [show z30 = I (a0 Q p0 0) (11 + p1.toInt.toNat) from fez30, cmA_n A (by omega)]); omega))]; exact A), dj_J⟩, by rw [ht]; exact hP⟩⟩, hS.F ht⟩) hS.2.2 dX7_turn_43
    · have t22 := tq_ne (k := z19.toInt) (q := (0)) c22 rfl (by decide +kernel)
      have i22 := imz19 t22
      refine lv_iload_n hx hb dX7_turn_25 rfl (lv_at hl 3 rfl) ?_
      refine lv_i2l hx hb dX7_turn_26 rfl ?_
      refine lv_topl (fun z26 ez26 => ?_)
      have bz26 := tq_i2l (k := p3.toInt) ez26 rfl
      refine lv_lconst (v := 0) hx hb dX7_turn_27 (by decide +kernel) ?_
      refine lv_aload_n hx hb dX7_turn_28 rfl (lv_at hl 0 rfl) ?_
      refine lv_iload_n hx hb dX7_turn_29 rfl (lv_at hl 1 rfl) ?_
      refine ro_i (va_runV (As := [.int p1]) (rest := [.long 0, .long z26]) ⟨hx, hb, hml, hown, hts⟩ (s_X7_high l dC dI cs L K G Q hQ x0 m0 tx tm H.size I J hI p0 hLp0 hKp0 p1 ⟨by omega, by omega⟩) (cwV 1 hts (gV pq1372 pq1374 pq33 pq81 pq1375) rfl rfl rfl (by decide +kernel) ⟨(by rw [hR]; exact (Nat.le_of_ble_eq_true rfl)), (by rw [hR]; exact (Nat.le_of_ble_eq_true rfl))⟩) (sP_V hP hD hK hN hLp0 hKp0 rfl rfl) rfl rfl hl.1 rfl (lv_room (Nat.le_of_ble_eq_true rfl)) dX7_turn_30 ⟨(by rw [hR]; exact (Nat.le_of_ble_eq_true rfl)), (by rw [hR]; exact (Nat.le_of_ble_eq_true rfl))⟩) hS hP (fun z30 H locs hz30 hP hS => ?_)
      obtain ⟨bz30, fez30⟩ := hz30
      refine lv_iconst (v := 1) hx hb dX7_turn_33 (by decide +kernel) ?_
      refine lv_isub hx hb dX7_turn_34 ?_
      refine lv_topi (fun z34 ez34 => ?_)
      have bz34 := tq_sub (k := z30.toInt) (q := (1)) ez34 rfl (by decide +kernel) (by omega) (by omega)
      refine lv_i2l hx hb dX7_turn_35 rfl ?_
      refine lv_topl (fun z35 ez35 => ?_)
      have bz35 := tq_i2l (k := z34.toInt) ez35 rfl
      refine ro_i (va_runS (As := [.long z26, .long 0, .long z35]) (rest := []) ⟨hx, hb, hml, hown, hts⟩ (s_X7_in l dC dI cs L K Q H.size I J z26 0 z35) (va_cwS 3 hts (gS pq1234 pq1235 pq81 pq1236) rfl rfl rfl (by decide +kernel) ⟨(by rw [hR]; exact (Nat.le_of_ble_eq_true rfl)), (by rw [hR]; exact (Nat.le_of_ble_eq_true rfl))⟩) (sP_S hP hD hK hN) rfl rfl hl.1 rfl (lv_room (Nat.le_of_ble_eq_true rfl)) dX7_turn_36 ⟨(by rw [hR]; exact (Nat.le_of_ble_eq_true rfl)), (by rw [hR]; exact (Nat.le_of_ble_eq_true rfl))⟩) hS hP (fun z36 H locs hz36 hP hS => ?_)
      have csl36_0 : (0 : Int64).toInt = 0 := by decide +kernel
      obtain ⟨bz36, imz36, xpz36⟩ := hz36
      refine lv_if_ne (tgt := 44) hx hb dX7_turn_39 (by decide) (fun c39 => ?_) (fun c39 => ?_)
      · have t39 := tq_ne (k := z36.toInt) (q := (0)) c39 rfl (by decide +kernel)
        have i39 := imz36 t39
        refine lv_aload_n hx hb dX7_turn_44 rfl (lv_at hl 0 rfl) ?_
        refine sw_v (Z := (fun I1 J1 => Iv L K x0 m0 tx tm I1 ∧ (∀ b, ¬ (K b = 7 ∨ K b = 19 ∨ K b = 30) → I1 b = I b) ∧ (∀ b, K b = 0 ∨ K b = 1 ∨ K b = 3 ∨ K b = 6 → I1 b = I b) ∧ (∀ σ : Sx, cmA Q I J p0 σ → cmA Q I1 J1 p0 (rem σ)) ∧ (∀ b, ¬ (K b = 22 ∨ K b = 33) → J1 b = J b))) (va_runV (As := []) (rest := []) ⟨hx, hb, hml, hown, hts⟩ (s_X7_keepsPast l dC dI cs L K G Q hQ x0 m0 tx tm H.size I J hI p0 hLp0 hKp0) (cwV 0 hts (gV pq1324 pq1326 pq26 pq81 pq1327) rfl rfl rfl (by decide +kernel) ⟨(by rw [hR]; exact (Nat.le_of_ble_eq_true rfl)), (by rw [hR]; exact (Nat.le_of_ble_eq_true rfl))⟩) (sP_V hP hD hK hN hLp0 hKp0 rfl rfl) rfl rfl hl.1 rfl (lv_room (Nat.le_of_ble_eq_true rfl)) dX7_turn_45 ⟨(by rw [hR]; exact (Nat.le_of_ble_eq_true rfl)), (by rw [hR]; exact (Nat.le_of_ble_eq_true rfl))⟩) hS hAL hA (fun Iz45 Jz45 H locs hz45 hIz45 hP hS => ?_)
        obtain ⟨hIz45, frc45, dnc45, jz45, djc45⟩ := hIz45
        have dj_Jz45 : (∀ b, ¬ (K b = 21 ∨ K b = 22 ∨ K b = 33) → Jz45 b = J b) := fun b hc => (djc45 b (fun z => hc (by omega))).trans (dj_J b hc)
        have dn_Iz45 : (∀ b, K b = 0 ∨ K b = 1 ∨ K b = 3 ∨ K b = 6 → Iz45 b = I b) := fun b hc => (dnc45 b (by omega)).trans (dn_I b hc)
        refine lv_aload_n hx hb dX7_turn_48 rfl (lv_at hl 0 rfl) ?_
        obtain ⟨y49, ey49, hLy49, hKy49⟩ := oQ_7_5 (Sv_at hQ hLp0 hKp0)
        refine p_get (v := .ref y49) hx hb hts inX7 hown hK hP hLp0 hKp0 rfl rfl 5 (by decide) (hts _ pq1120) (congrArg (fun q => some (va_rf q)) ey49) dX7_turn_49 ?_
        refine lv_bipush (v := 80) hx hb dX7_turn_52 (by decide +kernel) ?_
        refine lv_iload_n hx hb dX7_turn_54 rfl (lv_at hl 1 rfl) ?_
        refine lv_imul hx hb dX7_turn_55 ?_
        refine lv_topi (fun z55 ez55 => ?_)
        have bz55 := tq_mul (k := (80)) (q := p1.toInt) ez55 (by decide +kernel) rfl (by omega) (by omega)
        refine lv_iconst (v := 2) hx hb dX7_turn_56 (by decide +kernel) ?_
        refine lv_iload_n hx hb dX7_turn_57 rfl (lv_at hl 3 rfl) ?_
        refine lv_imul hx hb dX7_turn_58 ?_
        refine lv_topi (fun z58 ez58 => ?_)
        have bz58 := tq_mul (k := (2)) (q := p3.toInt) ez58 (by decide +kernel) rfl (by omega) (by omega)
        refine lv_iadd hx hb dX7_turn_59 ?_
        refine lv_topi (fun z59 ez59 => ?_)
        have bz59 := tq_add (k := z55.toInt) (q := z58.toInt) ez59 rfl rfl (by omega) (by omega)
        refine lv_iload_n hx hb dX7_turn_60 rfl (lv_at hl 2 rfl) ?_
        refine lv_bipush (v := 64) hx hb dX7_turn_61 (by decide +kernel) ?_
        refine lv_idiv hx hb dX7_turn_63 (by decide +kernel) ?_
        refine lv_topi (fun z63 ez63 => ?_)
        have bz63 := tq_div (k := 64) ez63 (by decide +kernel) (by omega) (by omega)
        refine lv_iadd hx hb dX7_turn_64 ?_
        refine lv_topi (fun z64 ez64 => ?_)
        have bz64 := tq_add (k := z59.toInt) (q := z63.toInt) ez64 rfl rfl (by omega) (by omega)
        refine lv_dup2_11 hx hb dX7_turn_65 rfl rfl ?_
        refine p_lald hx hb hK hP 11 hLy49 hKy49 rfl rfl (in_of (by omega) (by omega)) dX7_turn_66 ?_
        refine lv_topl (fun z66 ez66 => ?_)
        refine lv_lconst (v := 1) hx hb dX7_turn_67 (by decide +kernel) ?_
        refine lv_iload_n hx hb dX7_turn_68 rfl (lv_at hl 2 rfl) ?_
        refine lv_bipush (v := 64) hx hb dX7_turn_69 (by decide +kernel) ?_
        refine lv_irem hx hb dX7_turn_71 (by decide +kernel) ?_
        refine lv_topi (fun z71 ez71 => ?_)
        have bz71 := tq_rem (k := 64) ez71 (by decide +kernel) (by omega) (by omega)
        refine lv_lshl hx hb dX7_turn_72 rfl ?_
        refine lv_topl (fun z72 ez72 => ?_)
        refine lv_lxor hx hb dX7_turn_73 ?_
        refine lv_topl (fun z73 ez73 => ?_)
        refine p_last hx hb hK hP hD hS 11 hLy49 hKy49 rfl (fun _ => rfl) rfl (in_of (by omega) (by omega)) dX7_turn_74 (fun H locs hP hS => ?_)
        obtain ⟨Jz74, hP, qJz74⟩ : ∃ Jz74, va_P (dC, dI) vwCl (Wd cs L K Iz45 Jz74 Q) H ∧ Jz74 = va_up Jz45 y49 (vp_updL (Jz45 y49) z64.toNatClampNeg z73) := ⟨_, hP, rfl⟩
        have dj_Jz74 : (∀ b, ¬ (K b = 21 ∨ K b = 22 ∨ K b = 33) → Jz74 b = J b) := fun b hc => (congrFun qJz74 b).trans ((va_up_ne _ _ (fun z => hc (by have q := hKy49; rw [← z] at q; omega))).trans (dj_Jz45 b hc))
        refine lv_aload_n hx hb dX7_turn_75 rfl (lv_at hl 0 rfl) ?_
        refine lv_iload_n hx hb dX7_turn_76 rfl (lv_at hl 1 rfl) ?_
        refine lv_iload_n hx hb dX7_turn_77 rfl (lv_at hl 2 rfl) ?_
        refine lv_iload_n hx hb dX7_turn_78 rfl (lv_at hl 3 rfl) ?_
        refine ro_i (va_runV (As := [.int p1, .int p2, .int p3]) (rest := []) ⟨hx, hb, hml, hown, hts⟩ (s_X7_has l dC dI cs L K G Q hQ x0 m0 tx tm H.size Iz45 Jz74 hIz45 p0 hLp0 hKp0 p1 ⟨by omega, by omega⟩ p2 p3) (cwV 3 hts (gV pq1376 pq1378 pq34 pq81 pq1379) rfl rfl rfl (by decide +kernel) ⟨(by rw [hR]; exact (Nat.le_of_ble_eq_true rfl)), (by rw [hR]; exact (Nat.le_of_ble_eq_true rfl))⟩) (sP_V hP hD hK hN hLp0 hKp0 rfl rfl) rfl rfl hl.1 rfl (lv_room (Nat.le_of_ble_eq_true rfl)) dX7_turn_79 ⟨(by rw [hR]; exact (Nat.le_of_ble_eq_true rfl)), (by rw [hR]; exact (Nat.le_of_ble_eq_true rfl))⟩) hS hP (fun z79 H locs hz79 hP hS => ?_)
        obtain ⟨bz79, imz79, xpz79⟩ := hz79
        refine ro_i (va_runS (As := [.int z79]) (rest := []) ⟨hx, hb, hml, hown, hts⟩ (s_X7_truth l dC dI cs L K Q H.size Iz45 Jz74 z79) (va_cwS 1 hts (gS pq1257 pq1258 pq81 pq1259) rfl rfl rfl (by decide +kernel) ⟨(by rw [hR]; exact (Nat.le_of_ble_eq_true rfl)), (by rw [hR]; exact (Nat.le_of_ble_eq_true rfl))⟩) (sP_S hP hD hK hN) rfl rfl hl.1 rfl (lv_room (Nat.le_of_ble_eq_true rfl)) dX7_turn_82 ⟨(by rw [hR]; exact (Nat.le_of_ble_eq_true rfl)), (by rw [hR]; exact (Nat.le_of_ble_eq_true rfl))⟩) hS hP (fun z82 H locs hz82 hP hS => ?_)
        obtain ⟨bz82, xpz82⟩ := hz82
        subst hR; subst hQz
        exact W.iret (v := z82) hx hb hr (fun t ht hW => ⟨⟨z82, (), rfl, (fun σ ok A => by have ec : I (a0 Q p0 0) 0 = σ.1.1 0 := cmA_n A (by decide); have eW : z13.toInt = (mW σ p1).toInt := (by rw [show z13 = I (a0 Q p0 0) (3 + p1.toInt.toNat) from fez13, cmA_n A (by omega)]); have eH : z30.toInt = (mH σ p1).toInt := (by rw [show z30 = I (a0 Q p0 0) (11 + p1.toInt.toNat) from fez30, cmA_n A (by omega)]); have hC : tuC σ p1 p2 p3 := ⟨by have q := xpz2.1 t5; rw [ec] at q; exact q, by omega⟩; have A1 := jz45 σ A; have T := tu7 (J1 := Jz74) (c := z71) (s := z72) (v := z73) (i := z64.toInt.toNat) A1 (by omega) hC (ok.2.2.1 _ (by have q := hC.1; omega)) (fun j => by rw [show a0 Q p0 5 = y49 from gd_of ey49, qJz74, va_up_self]; rfl) (by rw [ez73, ez66, show a0 Q p0 5 = y49 from gd_of ey49]; rfl) ez72 (by omega) (by omega) (by omega); rw [tu_y hC]; show z82.toInt = bi (!md (mF σ p1) p2.toInt p3.toInt); have q := tr_bi xpz79 xpz82; rw [q, ← T.2]; congr 1; unfold hs; have F1 := cmA_F A1 (m := p1) (by omega); rw [rem_W, rem_H] at F1; rw [F1.1, F1.2.1, decide_eq_true hC.2, Bool.true_and]), ⟨Iz45, Jz74, ⟨hIz45, dn_Iz45, (fun σ ok A => by have ec : I (a0 Q p0 0) 0 = σ.1.1 0 := cmA_n A (by decide); have eW : z13.toInt = (mW σ p1).toInt := (by rw [show z13 = I (a0 Q p0 0) (3 + p1.toInt.toNat) from fez13, cmA_n A (by omega)]); have eH : z30.toInt = (mH σ p1).toInt := (by rw [show z30 = I (a0 Q p0 0) (11 + p1.toInt.toNat) from fez30, cmA_n A (by omega)]); have hC : tuC σ p1 p2 p3 := ⟨by have q := xpz2.1 t5; rw [ec] at q; exact q, by omega⟩; have A1 := jz45 σ A; have T := tu7 (J1 := Jz74) (c := z71) (s := z72) (v := z73) (i := z64.toInt.toNat) A1 (by omega) hC (ok.2.2.1 _ (by have q := hC.1; omega)) (fun j => by rw [show a0 Q p0 5 = y49 from gd_of ey49, qJz74, va_up_self]; rfl) (by rw [ez73, ez66, show a0 Q p0 5 = y49 from gd_of ey49]; rfl) ez72 (by omega) (by omega) (by omega); rw [tu_y hC]; have B := cmA_setM (m := p1.toInt.toNat) (w := mW σ p1) (h := mH σ p1) (f := tuW σ p1 p2 p3) (I1 := Iz45) (J1 := Jz74) hQ hLp0 hKp0 (by omega) (by rw [upd_same (show mW σ p1 = Iz45 (a0 Q p0 0) (3 + p1.toInt.toNat) from (by rw [cmA_n A1 (by omega), ← rem_W])), upd_same (show mH σ p1 = Iz45 (a0 Q p0 0) (11 + p1.toInt.toNat) from (by rw [cmA_n A1 (by omega), ← rem_H]))]) T.1 (fun _ _ => rfl) (fun b hb => by rw [qJz74, va_up_ne _ _ (fun z => by rw [z] at hb; have := hKy49; omega)]) A1; rw [rem_1] at B; exact B), dj_Jz74⟩, by rw [ht]; exact hP⟩⟩, hS.F ht⟩) hS.2.2 dX7_turn_85
      · have t39 := tq_eq (k := z36.toInt) (q := (0)) c39 rfl (by decide +kernel)
        refine lv_iconst (v := (-1)) hx hb dX7_turn_42 (by decide +kernel) ?_
        subst hR; subst hQz
        exact W.iret (v := (-1)) hx hb hr (fun t ht hW => ⟨⟨(-1), (), rfl, (fun σ ok A => by have ec : I (a0 Q p0 0) 0 = σ.1.1 0 := cmA_n A (by decide); rw [tu_n (fun q => by have q1 := q.1; have q2 := q.2; first | exact xpz2.2 t5 (by rw [ec]; exact q1) | exact xpz19 t22 (by have eW : z13.toInt = (mW σ p1).toInt := (by rw [show z13 = I (a0 Q p0 0) (3 + p1.toInt.toNat) from fez13, cmA_n A (by omega)]); omega) | exact xpz36 t39 (by have eH : z30.toInt = (mH σ p1).toInt := (by rw [show z30 = I (a0 Q p0 0) (11 + p1.toInt.toNat) from fez30, cmA_n A (by omega)]); omega))]; show (-1 : Int32).toInt = -1; decide +kernel), ⟨I, J, ⟨hI, dn_I, (fun σ ok A => by have ec : I (a0 Q p0 0) 0 = σ.1.1 0 := cmA_n A (by decide); rw [tu_n (fun q => by have q1 := q.1; have q2 := q.2; first | exact xpz2.2 t5 (by rw [ec]; exact q1) | exact xpz19 t22 (by have eW : z13.toInt = (mW σ p1).toInt := (by rw [show z13 = I (a0 Q p0 0) (3 + p1.toInt.toNat) from fez13, cmA_n A (by omega)]); omega) | exact xpz36 t39 (by have eH : z30.toInt = (mH σ p1).toInt := (by rw [show z30 = I (a0 Q p0 0) (11 + p1.toInt.toNat) from fez30, cmA_n A (by omega)]); omega))]; exact A), dj_J⟩, by rw [ht]; exact hP⟩⟩, hS.F ht⟩) hS.2.2 dX7_turn_43

set_option maxHeartbeats 4000000 in
set_option maxRecDepth 100000 in
theorem s_X7_changes (l : Launch) (dC : Nat → ClassId) (dI : Nat → Nat → Nat) (cs : Nat → ClassId) (L : List Nat) (K G : Nat → Nat) (Q : Nat → Nat → Option Nat) (hQ : Sv L K G Q) (x0 m0 : Nat) (tx : GT) (tm : GT × Int) (sz : Nat) (I : Nat → Nat → Int32) (J : Nat → Nat → Int64) (hI : Iv L K x0 m0 tx tm I) (p0 : Nat) (hLp0 : p0 ∈ L) (hKp0 : K p0 = 7) (p1 : Int32) (p2 : Int32) (bp2 : (0) ≤ p2.toInt ∧ p2.toInt ≤ 1) : Met l yX7_changes (.code yX7_changes cX7_changes 8 (some .int) :: pw) ({ frames := 3, cells := 0, slots := 0, locals := 71 }) (sP (dC, dI) cs [.ref p0, .int p1, .int p2] sz L K I J Q) (va_Qi (fun (r : Int32) (_ : Unit) => (∀ σ : Sx, okF σ.1 → cmA Q I J p0 σ → r.toInt = (chA σ p1 (mkw (chD p2.toInt (mW σ p1).toInt (mH σ p1).toInt (mF σ p1))) (decide (¬ p2.toInt = 0))).1)) (fun _ t => sB (dC, dI) cs L K Q (fun I1 J1 => Iv L K x0 m0 tx tm I1 ∧ (∀ b, K b = 0 ∨ K b = 1 ∨ K b = 3 ∨ K b = 6 → I1 b = I b) ∧ (∀ σ : Sx, okF σ.1 → cmA Q I J p0 σ → cmA Q I1 J1 p0 (chA σ p1 (mkw (chD p2.toInt (mW σ p1).toInt (mH σ p1).toInt (mF σ p1))) (decide (¬ p2.toInt = 0))).2) ∧ (∀ b, ¬ (K b = 21 ∨ K b = 22 ∨ K b = 33 ∨ K b = 34) → J1 b = J b)) t) (fun q => q ∈ L ∨ sz ≤ q)) 0 0 (fun q => q ∈ L ∨ sz ≤ q) := by
  refine Met.ofW (cc := cX7_changes) (maxL := 8) (ret := (some .int)) (by decide +kernel) rfl ?_
  intro p e s m args below meth c s₁ B hml hv
  obtain ⟨rfl, hsz, hP, hK, hD0, hN⟩ := hv
  have hx := B.exec
  have hb := B.bytes
  have hr := B.returns
  have hts := fun w (h : w ∈ pw) => atoms_spec (ws := Cond.code yX7_changes cX7_changes 8 (some .int) :: pw) B.pre w (List.mem_cons_of_mem _ h)
  have hown : s.vm.findClass RX7 = some m.cls := findClass_of_methodNamed B.named
  have hlocks := B.notSynchronized
  subst hsz
  have hBB : 999 ≤ tm.2 ∧ tm.2 ≤ 6000000 := hI.2.2.2.2.1
  have dn_I : (∀ b, K b = 0 ∨ K b = 1 ∨ K b = 3 ∨ K b = 6 → I b = I b) := fun _ _ => rfl
  have dj_J : (∀ b, ¬ (K b = 21 ∨ K b = 22 ∨ K b = 33 ∨ K b = 34) → J b = J b) := fun _ _ => rfl
  obtain ⟨A, hAe⟩ : ∃ A : Nat → Prop, A = (fun q => q ∈ L ∨ s.heap.size ≤ q) := ⟨_, rfl⟩
  rw [← hAe]
  have hAL : ∀ q, q ∈ L → A q := fun q h => by rw [hAe]; exact Or.inl h
  have hA : ∀ q, s.heap.size ≤ q → A q := fun q h => by rw [hAe]; exact Or.inr h
  have hD : ∀ F, va_D A (va_pl L F) := fun F => (hD0 F).weaken (fun k q hk _ => hAL _ (pl_mem hk))
  obtain ⟨H, hHe⟩ : ∃ H : Heap, H = s.heap := ⟨_, rfl⟩
  have hS : va_S A s.heap H [] := by rw [hHe]; exact va_S.rf
  rw [← hHe] at hP
  have hl := lv_entry ([.ref p0, .int p1, .int p2]) (n := 8) (Nat.le_of_ble_eq_true rfl)
  rw [lg_entry_eq]
  generalize (lg_sl ([.ref p0, .int p1, .int p2]) ++ List.replicate (8 - (lg_sl ([.ref p0, .int p1, .int p2])).length) Slot.unset).toArray = ls at hl ⊢
  have hl : lv_has ls 8 [(0, .ref p0), (1, .int p1), (2, .int p2)] := hl
  rw [← hHe]
  refine namedW (fun R Qz hR hQz => ?_)
  refine lv_aload_n hx hb dX7_changes_0 rfl (lv_at hl 0 rfl) ?_
  refine lv_iload_n hx hb dX7_changes_1 rfl (lv_at hl 1 rfl) ?_
  refine ro_i (va_runV (As := [.int p1]) (rest := []) ⟨hx, hb, hml, hown, hts⟩ (s_X7_isMask l dC dI cs L K G Q hQ x0 m0 tx tm H.size I J hI p0 hLp0 hKp0 p1) (cwV 1 hts (gV pq1364 pq1366 pq31 pq81 pq1367) rfl rfl rfl (by decide +kernel) ⟨(by rw [hR]; exact (Nat.le_of_ble_eq_true rfl)), (by rw [hR]; exact (Nat.le_of_ble_eq_true rfl))⟩) (sP_V hP hD hK hN hLp0 hKp0 rfl rfl) rfl rfl hl.1 rfl (lv_room (Nat.le_of_ble_eq_true rfl)) dX7_changes_2 ⟨(by rw [hR]; exact (Nat.le_of_ble_eq_true rfl)), (by rw [hR]; exact (Nat.le_of_ble_eq_true rfl))⟩) hS hP (fun z2 H locs hz2 hP hS => ?_)
  obtain ⟨bz2, imz2, xpz2⟩ := hz2
  refine lv_if_ne (tgt := 10) hx hb dX7_changes_5 (by decide) (fun c5 => ?_) (fun c5 => ?_)
  · have t5 := tq_ne (k := z2.toInt) (q := (0)) c5 rfl (by decide +kernel)
    have i5 := imz2 t5
    refine lv_aload_n hx hb dX7_changes_10 rfl (lv_at hl 0 rfl) ?_
    refine sw_v (Z := (fun I1 J1 => Iv L K x0 m0 tx tm I1 ∧ I1 = I ∧ (∀ k, k < 80 → J1 (a0 Q p0 19) k = 0) ∧ (∀ b, ¬ (K b = 34) → J1 b = J b))) (va_runV (As := []) (rest := []) ⟨hx, hb, hml, hown, hts⟩ (s_X7_clearsMade l dC dI cs L K G Q hQ x0 m0 tx tm H.size I J hI p0 hLp0 hKp0) (cwV 0 hts (gV pq1391 pq1393 pq36 pq81 pq1394) rfl rfl rfl (by decide +kernel) ⟨(by rw [hR]; exact (Nat.le_of_ble_eq_true rfl)), (by rw [hR]; exact (Nat.le_of_ble_eq_true rfl))⟩) (sP_V hP hD hK hN hLp0 hKp0 rfl rfl) rfl rfl hl.1 rfl (lv_room (Nat.le_of_ble_eq_true rfl)) dX7_changes_11 ⟨(by rw [hR]; exact (Nat.le_of_ble_eq_true rfl)), (by rw [hR]; exact (Nat.le_of_ble_eq_true rfl))⟩) hS hAL hA (fun Iz11 Jz11 H locs hz11 hIz11 hP hS => ?_)
    obtain ⟨hIz11, sm11, jz11, djc11⟩ := hIz11
    have dj_Jz11 : (∀ b, ¬ (K b = 21 ∨ K b = 22 ∨ K b = 33 ∨ K b = 34) → Jz11 b = J b) := fun b hc => (djc11 b (fun z => hc (by omega))).trans (dj_J b hc)
    obtain rfl : I = Iz11 := sm11.symm
    refine lv_iconst (v := 0) hx hb dX7_changes_14 (by decide +kernel) ?_
    refine lv_istore_n (lv' := [(3, .int 0), (0, .ref p0), (1, .int p1), (2, .int p2)]) hx hb dX7_changes_15 rfl hl (by decide) rfl (fun ls hl => ?_)
    refine lv_iconst (v := 0) hx hb dX7_changes_16 (by decide +kernel) ?_
    refine lv_istore (lv' := [(4, .int 0), (3, .int 0), (0, .ref p0), (1, .int p1), (2, .int p2)]) hx hb dX7_changes_17 hl (by decide) rfl (fun ls hl => ?_)
    have key19 := blocks (fun n => ∀ (v19_3 : Int32) (v19_4 : Int32) (J19 : Nat → Nat → Int64) (H : Heap) (lo : List Loc) (ls : Array Slot), (41 - v19_4.toInt).toNat = n → ((0) ≤ v19_3.toInt ∧ v19_3.toInt ≤ 4000) → ((0) ≤ v19_4.toInt ∧ v19_4.toInt ≤ 40) → (∀ b, ¬ (K b = 21 ∨ K b = 22 ∨ K b = 33 ∨ K b = 34) → J19 b = J b) → (∀ b, ¬ K b = 34 → J19 b = J b) → (v19_3.toInt ≤ 100 * v19_4.toInt) → (∀ σ : Sx, okF σ.1 → cmA Q I J p0 σ → mK σ p1 → rxI (J19 (a0 Q p0 19)) (chD p2.toInt (mW σ p1).toInt (mH σ p1).toInt (mF σ p1)) v19_4.toInt (0)) → (∀ σ : Sx, okF σ.1 → cmA Q I J p0 σ → mK σ p1 → CNT p2.toInt (mW σ p1).toInt (mH σ p1).toInt (mF σ p1) v19_3.toInt v19_4.toInt (0)) → va_P (dC, dI) vwCl (Wd cs L K I J19 Q) H → va_S A s.heap H lo → lv_has ls 8 [(0, .ref p0), (1, .int p1), (2, .int p2), (3, .int v19_3), (4, .int v19_4)] → W p l e R s m (([.ref p0, .int p1, .int p2] : List Value).toArray) below meth c H lo 0 0 Qz (F0 m 19 ls [])) (by
      intro n ih19
      intro v19_3 v19_4 J19 H lo ls hmu19 bv19_3 bv19_4 dj_J19 hd19 hb19 h19 hn19 hP hS hl
      refine lv_iload hx hb dX7_changes_19 (lv_at hl 4 rfl) ?_
      refine lv_aload_n hx hb dX7_changes_21 rfl (lv_at hl 0 rfl) ?_
      refine lv_iload_n hx hb dX7_changes_22 rfl (lv_at hl 1 rfl) ?_
      refine ro_i (va_runV (As := [.int p1]) (rest := [.int v19_4]) ⟨hx, hb, hml, hown, hts⟩ (s_X7_high l dC dI cs L K G Q hQ x0 m0 tx tm H.size I J19 hI p0 hLp0 hKp0 p1 ⟨by omega, by omega⟩) (cwV 1 hts (gV pq1372 pq1374 pq33 pq81 pq1375) rfl rfl rfl (by decide +kernel) ⟨(by rw [hR]; exact (Nat.le_of_ble_eq_true rfl)), (by rw [hR]; exact (Nat.le_of_ble_eq_true rfl))⟩) (sP_V hP hD hK hN hLp0 hKp0 rfl rfl) rfl rfl hl.1 rfl (lv_room (Nat.le_of_ble_eq_true rfl)) dX7_changes_23 ⟨(by rw [hR]; exact (Nat.le_of_ble_eq_true rfl)), (by rw [hR]; exact (Nat.le_of_ble_eq_true rfl))⟩) hS hP (fun z23 H locs hz23 hP hS => ?_)
      obtain ⟨bz23, fez23⟩ := hz23
      refine lv_icmp_ge (tgt := 154) hx hb dX7_changes_26 (by decide) (fun c26 => ?_) (fun c26 => ?_)
      · have t26 := tq_le (k := z23.toInt) (q := v19_4.toInt) c26 rfl rfl
        refine lv_iload_n hx hb dX7_changes_154 rfl (lv_at hl 3 rfl) ?_
        refine lv_if_ne (tgt := 161) hx hb dX7_changes_155 (by decide) (fun c155 => ?_) (fun c155 => ?_)
        · have t155 := tq_ne (k := v19_3.toInt) (q := (0)) c155 rfl (by decide +kernel)
          refine lv_aload_n hx hb dX7_changes_161 rfl (lv_at hl 0 rfl) ?_
          refine sw_v (Z := (fun I1 J1 => Iv L K x0 m0 tx tm I1 ∧ (∀ b, ¬ (K b = 7 ∨ K b = 19 ∨ K b = 30) → I1 b = I b) ∧ (∀ b, K b = 0 ∨ K b = 1 ∨ K b = 3 ∨ K b = 6 → I1 b = I b) ∧ (∀ σ : Sx, cmA Q I J19 p0 σ → cmA Q I1 J1 p0 (rem σ)) ∧ (∀ b, ¬ (K b = 22 ∨ K b = 33) → J1 b = J19 b))) (va_runV (As := []) (rest := []) ⟨hx, hb, hml, hown, hts⟩ (s_X7_keepsPast l dC dI cs L K G Q hQ x0 m0 tx tm H.size I J19 hI p0 hLp0 hKp0) (cwV 0 hts (gV pq1324 pq1326 pq26 pq81 pq1327) rfl rfl rfl (by decide +kernel) ⟨(by rw [hR]; exact (Nat.le_of_ble_eq_true rfl)), (by rw [hR]; exact (Nat.le_of_ble_eq_true rfl))⟩) (sP_V hP hD hK hN hLp0 hKp0 rfl rfl) rfl rfl hl.1 rfl (lv_room (Nat.le_of_ble_eq_true rfl)) dX7_changes_162 ⟨(by rw [hR]; exact (Nat.le_of_ble_eq_true rfl)), (by rw [hR]; exact (Nat.le_of_ble_eq_true rfl))⟩) hS hAL hA (fun Iz162 Jz162 H locs hz162 hIz162 hP hS => ?_)
          obtain ⟨hIz162, frc162, dnc162, jz162, djc162⟩ := hIz162
          have dj_Jz162 : (∀ b, ¬ (K b = 21 ∨ K b = 22 ∨ K b = 33 ∨ K b = 34) → Jz162 b = J b) := fun b hc => (djc162 b (fun z => hc (by omega))).trans (dj_J19 b hc)
          have dn_Iz162 : (∀ b, K b = 0 ∨ K b = 1 ∨ K b = 3 ∨ K b = 6 → Iz162 b = I b) := fun b hc => (dnc162 b (by omega)).trans (dn_I b hc)
          refine lv_aload_n hx hb dX7_changes_165 rfl (lv_at hl 0 rfl) ?_
          refine lv_iload_n hx hb dX7_changes_166 rfl (lv_at hl 1 rfl) ?_
          refine sw_v (Z := (fun I1 J1 => Iv L K x0 m0 tx tm I1 ∧ I1 = Iz162 ∧ (∀ k, k < 640 → J1 (a0 Q p0 5) k = if 80 * p1.toInt.toNat ≤ k ∧ k < 80 * p1.toInt.toNat + 80 then Jz162 (a0 Q p0 19) (k - 80 * p1.toInt.toNat) else Jz162 (a0 Q p0 5) k) ∧ (∀ b, ¬ (K b = 21) → J1 b = Jz162 b))) (va_runV (As := [.int p1]) (rest := []) ⟨hx, hb, hml, hown, hts⟩ (s_X7_takesMade l dC dI cs L K G Q hQ x0 m0 tx tm H.size Iz162 Jz162 hIz162 p0 hLp0 hKp0 p1 ⟨by omega, by omega⟩) (cwV 1 hts (gV pq1399 pq1401 pq38 pq81 pq1402) rfl rfl rfl (by decide +kernel) ⟨(by rw [hR]; exact (Nat.le_of_ble_eq_true rfl)), (by rw [hR]; exact (Nat.le_of_ble_eq_true rfl))⟩) (sP_V hP hD hK hN hLp0 hKp0 rfl rfl) rfl rfl hl.1 rfl (lv_room (Nat.le_of_ble_eq_true rfl)) dX7_changes_167 ⟨(by rw [hR]; exact (Nat.le_of_ble_eq_true rfl)), (by rw [hR]; exact (Nat.le_of_ble_eq_true rfl))⟩) hS hAL hA (fun Iz167 Jz167 H locs hz167 hIz167 hP hS => ?_)
          obtain ⟨hIz167, sm167, jz167, djc167⟩ := hIz167
          have dj_Jz167 : (∀ b, ¬ (K b = 21 ∨ K b = 22 ∨ K b = 33 ∨ K b = 34) → Jz167 b = J b) := fun b hc => (djc167 b (fun z => hc (by omega))).trans (dj_Jz162 b hc)
          obtain rfl : Iz162 = Iz167 := sm167.symm
          refine lv_iload_n hx hb dX7_changes_170 rfl (lv_at hl 3 rfl) ?_
          subst hR; subst hQz
          exact W.iret (v := v19_3) hx hb hr (fun t ht hW => ⟨⟨v19_3, (), rfl, (fun σ ok A => by have ec : I (a0 Q p0 0) 0 = σ.1.1 0 := cmA_n A (by decide); have hm : mK σ p1 := (by have q := xpz2.1 t5; rw [ec] at q; exact q); have F := cmA_F A (m := p1) (by omega); have eH := congrArg Int32.toInt (show z23 = I (a0 Q p0 0) (11 + p1.toInt.toNat) from fez23); have F2 : (I (a0 Q p0 0) (11 + p1.toInt.toNat)).toInt = (mH σ p1).toInt := F.2.1; have E := ch_end (show okm (mW σ p1).toInt (mH σ p1).toInt (mF σ p1) from ok.2.2.1 _ (show p1.toInt.toNat < (σ.1.1 0).toInt.toNat by have q : 0 ≤ p1.toInt ∧ p1.toInt < (σ.1.1 0).toInt := hm; omega)).2.2 (by omega) (hn19 σ ok A hm); rw [ch_y hm (fun z => by (by_cases w : p2.toInt = 0); (have := E.1 w; omega); (have := E.2 w; omega))]; show v19_3.toInt = if (decide (¬ p2.toInt = 0)) = true then _ else _; (by_cases w : p2.toInt = 0); (rw [if_neg (by simp [w])]; have := E.1 w; omega); (rw [if_pos (by simp [w])]; have := E.2 w; omega)), ⟨Iz162, Jz167, ⟨hIz162, dn_Iz162, (fun σ ok A => by have ec : I (a0 Q p0 0) 0 = σ.1.1 0 := cmA_n A (by decide); have hm : mK σ p1 := (by have q := xpz2.1 t5; rw [ec] at q; exact q); have F := cmA_F A (m := p1) (by omega); have eH := congrArg Int32.toInt (show z23 = I (a0 Q p0 0) (11 + p1.toInt.toNat) from fez23); have F2 : (I (a0 Q p0 0) (11 + p1.toInt.toNat)).toInt = (mH σ p1).toInt := F.2.1; have E := ch_end (show okm (mW σ p1).toInt (mH σ p1).toInt (mF σ p1) from ok.2.2.1 _ (show p1.toInt.toNat < (σ.1.1 0).toInt.toNat by have q : 0 ≤ p1.toInt ∧ p1.toInt < (σ.1.1 0).toInt := hm; omega)).2.2 (by omega) (hn19 σ ok A hm); have A2 := cmA_fr (I1 := I) (J1 := J19) hQ hLp0 hKp0 (fun _ _ => rfl) (fun b hb => hd19 b (by omega)) rfl A; have A3 := jz162 σ A2; have fin := rx_fin (h := (mH σ p1).toInt) (h19 σ ok A hm) (fun x y q => by have := chD_b (show okm (mW σ p1).toInt (mH σ p1).toInt (mF σ p1) from ok.2.2.1 _ (show p1.toInt.toNat < (σ.1.1 0).toInt.toNat by have q : 0 ≤ p1.toInt ∧ p1.toInt < (σ.1.1 0).toInt := hm; omega)).2.2 x y q; omega) (by omega); have W := tk_fin jz167 (D := chD p2.toInt (mW σ p1).toInt (mH σ p1).toInt (mF σ p1)) (fun x y => by rw [djc162 _ (by have := (made_k hQ hLp0 hKp0); omega)]; exact fin x y); rw [ch_y hm (fun z => by (by_cases w : p2.toInt = 0); (have := E.1 w; omega); (have := E.2 w; omega))]; have B := cmA_setM (m := p1.toInt.toNat) (w := mW σ p1) (h := mH σ p1) (f := mkw (chD p2.toInt (mW σ p1).toInt (mH σ p1).toInt (mF σ p1))) (I := Iz162) (J := Jz162) (I1 := Iz162) (J1 := Jz167) hQ hLp0 hKp0 (by omega) (by rw [upd_same (show mW σ p1 = Iz162 (a0 Q p0 0) (3 + p1.toInt.toNat) from (by rw [cmA_n A3 (by omega), ← rem_W])), upd_same (show mH σ p1 = Iz162 (a0 Q p0 0) (11 + p1.toInt.toNat) from (by rw [cmA_n A3 (by omega), ← rem_H]))]) W (fun _ _ => rfl) (fun b hb => djc167 b (by omega)) A3; rw [rem_1] at B; exact B), dj_Jz167⟩, by rw [ht]; exact hP⟩⟩, hS.F ht⟩) hS.2.2 dX7_changes_171
        · have t155 := tq_eq (k := v19_3.toInt) (q := (0)) c155 rfl (by decide +kernel)
          refine lv_bipush (v := (-2)) hx hb dX7_changes_158 (by decide +kernel) ?_
          subst hR; subst hQz
          exact W.iret (v := (-2)) hx hb hr (fun t ht hW => ⟨⟨(-2), (), rfl, (fun σ ok A => by have ec : I (a0 Q p0 0) 0 = σ.1.1 0 := cmA_n A (by decide); have hm : mK σ p1 := (by have q := xpz2.1 t5; rw [ec] at q; exact q); have F := cmA_F A (m := p1) (by omega); have eH := congrArg Int32.toInt (show z23 = I (a0 Q p0 0) (11 + p1.toInt.toNat) from fez23); have F2 : (I (a0 Q p0 0) (11 + p1.toInt.toNat)).toInt = (mH σ p1).toInt := F.2.1; have E := ch_end (show okm (mW σ p1).toInt (mH σ p1).toInt (mF σ p1) from ok.2.2.1 _ (show p1.toInt.toNat < (σ.1.1 0).toInt.toNat by have q : 0 ≤ p1.toInt ∧ p1.toInt < (σ.1.1 0).toInt := hm; omega)).2.2 (by omega) (hn19 σ ok A hm); rw [ch_e hm (by (by_cases w : p2.toInt = 0); (have := E.1 w; omega); (have := E.2 w; omega))]; show (-2 : Int32).toInt = -2; decide +kernel), ⟨I, J19, ⟨hI, dn_I, (fun σ ok A => by have ec : I (a0 Q p0 0) 0 = σ.1.1 0 := cmA_n A (by decide); have hm : mK σ p1 := (by have q := xpz2.1 t5; rw [ec] at q; exact q); have F := cmA_F A (m := p1) (by omega); have eH := congrArg Int32.toInt (show z23 = I (a0 Q p0 0) (11 + p1.toInt.toNat) from fez23); have F2 : (I (a0 Q p0 0) (11 + p1.toInt.toNat)).toInt = (mH σ p1).toInt := F.2.1; have E := ch_end (show okm (mW σ p1).toInt (mH σ p1).toInt (mF σ p1) from ok.2.2.1 _ (show p1.toInt.toNat < (σ.1.1 0).toInt.toNat by have q : 0 ≤ p1.toInt ∧ p1.toInt < (σ.1.1 0).toInt := hm; omega)).2.2 (by omega) (hn19 σ ok A hm); rw [ch_e hm (by (by_cases w : p2.toInt = 0); (have := E.1 w; omega); (have := E.2 w; omega))]; exact cmA_fr (I1 := I) (J1 := J19) hQ hLp0 hKp0 (fun _ _ => rfl) (fun b hb => hd19 b (by omega)) rfl A), dj_J19⟩, by rw [ht]; exact hP⟩⟩, hS.F ht⟩) hS.2.2 dX7_changes_160
      · have t26 := tq_nle (k := z23.toInt) (q := v19_4.toInt) c26 rfl rfl
        refine lv_iconst (v := 0) hx hb dX7_changes_29 (by decide +kernel) ?_
        refine lv_istore (lv' := [(5, .int 0), (0, .ref p0), (1, .int p1), (2, .int p2), (3, .int v19_3), (4, .int v19_4)]) hx hb dX7_changes_30 hl (by decide) rfl (fun ls hl => ?_)
        have key32 := blocks (fun n => ∀ (v32_3 : Int32) (v32_5 : Int32) (J32 : Nat → Nat → Int64) (H : Heap) (lo : List Loc) (ls : Array Slot), (101 - v32_5.toInt).toNat = n → ((0) ≤ v32_3.toInt ∧ v32_3.toInt ≤ 4000) → ((0) ≤ v32_5.toInt ∧ v32_5.toInt ≤ 100) → (∀ b, ¬ (K b = 21 ∨ K b = 22 ∨ K b = 33 ∨ K b = 34) → J32 b = J b) → (∀ b, ¬ K b = 34 → J32 b = J b) → (v32_3.toInt ≤ 100 * v19_4.toInt + v32_5.toInt) → (∀ σ : Sx, okF σ.1 → cmA Q I J p0 σ → mK σ p1 → rxI (J32 (a0 Q p0 19)) (chD p2.toInt (mW σ p1).toInt (mH σ p1).toInt (mF σ p1)) v19_4.toInt (v32_5.toInt)) → (∀ σ : Sx, okF σ.1 → cmA Q I J p0 σ → mK σ p1 → CNT p2.toInt (mW σ p1).toInt (mH σ p1).toInt (mF σ p1) v32_3.toInt v19_4.toInt (v32_5.toInt)) → va_P (dC, dI) vwCl (Wd cs L K I J32 Q) H → va_S A s.heap H lo → lv_has ls 8 [(0, .ref p0), (1, .int p1), (2, .int p2), (3, .int v32_3), (4, .int v19_4), (5, .int v32_5)] → W p l e R s m (([.ref p0, .int p1, .int p2] : List Value).toArray) below meth c H lo 0 0 Qz (F0 m 32 ls [])) (by
          intro n ih32
          intro v32_3 v32_5 J32 H lo ls hmu32 bv32_3 bv32_5 dj_J32 hd32 hb32 h32 hn32 hP hS hl
          refine lv_iload hx hb dX7_changes_32 (lv_at hl 5 rfl) ?_
          refine lv_aload_n hx hb dX7_changes_34 rfl (lv_at hl 0 rfl) ?_
          refine lv_iload_n hx hb dX7_changes_35 rfl (lv_at hl 1 rfl) ?_
          refine ro_i (va_runV (As := [.int p1]) (rest := [.int v32_5]) ⟨hx, hb, hml, hown, hts⟩ (s_X7_wide l dC dI cs L K G Q hQ x0 m0 tx tm H.size I J32 hI p0 hLp0 hKp0 p1 ⟨by omega, by omega⟩) (cwV 1 hts (gV pq1368 pq1370 pq32 pq81 pq1371) rfl rfl rfl (by decide +kernel) ⟨(by rw [hR]; exact (Nat.le_of_ble_eq_true rfl)), (by rw [hR]; exact (Nat.le_of_ble_eq_true rfl))⟩) (sP_V hP hD hK hN hLp0 hKp0 rfl rfl) rfl rfl hl.1 rfl (lv_room (Nat.le_of_ble_eq_true rfl)) dX7_changes_36 ⟨(by rw [hR]; exact (Nat.le_of_ble_eq_true rfl)), (by rw [hR]; exact (Nat.le_of_ble_eq_true rfl))⟩) hS hP (fun z36 H locs hz36 hP hS => ?_)
          obtain ⟨bz36, fez36⟩ := hz36
          refine lv_icmp_ge (tgt := 148) hx hb dX7_changes_39 (by decide) (fun c39 => ?_) (fun c39 => ?_)
          · have t39 := tq_le (k := z36.toInt) (q := v32_5.toInt) c39 rfl rfl
            obtain ⟨z148, ez148⟩ : ∃ y : Int32, y = v19_4 + 1 := ⟨_, rfl⟩
            refine lv_iinc (v := z148) (lv' := [(4, .int z148), (0, .ref p0), (1, .int p1), (2, .int p2), (3, .int v32_3), (5, .int v32_5)]) hx hb dX7_changes_148 hl (k := 4) rfl (by rw [ez148]; rfl) (by decide) rfl (fun ls hl => ?_)
            have bz148 := tq_add (k := v19_4.toInt) (q := 1) ez148 rfl (by decide +kernel) (by omega) (by omega)
            refine lv_goto (tgt := 19) hx hb dX7_changes_151 (by decide) ?_
            exact ih19 _ (by omega) v32_3 z148 J32 _ _ _ rfl ⟨by omega, by omega⟩ ⟨by omega, by omega⟩ dj_J32 hd32 (by omega) (fun σ ok A hm => by have F := cmA_F A (m := p1) (by omega); have eW := congrArg Int32.toInt (show z36 = I (a0 Q p0 0) (3 + p1.toInt.toNat) from fez36); have F1 : (I (a0 Q p0 0) (3 + p1.toInt.toNat)).toInt = (mW σ p1).toInt := F.1; have eH := congrArg Int32.toInt (show z23 = I (a0 Q p0 0) (11 + p1.toInt.toNat) from fez23); have F2 : (I (a0 Q p0 0) (11 + p1.toInt.toNat)).toInt = (mH σ p1).toInt := F.2.1; exact rx_nl (w := (mW σ p1).toInt) (h32 σ ok A hm) (fun x y q => by have := chD_b (show okm (mW σ p1).toInt (mH σ p1).toInt (mF σ p1) from ok.2.2.1 _ (show p1.toInt.toNat < (σ.1.1 0).toInt.toNat by have q : 0 ≤ p1.toInt ∧ p1.toInt < (σ.1.1 0).toInt := hm; omega)).2.2 x y q; omega) (by omega) (by omega)) (fun σ ok A hm => by have F := cmA_F A (m := p1) (by omega); have eW := congrArg Int32.toInt (show z36 = I (a0 Q p0 0) (3 + p1.toInt.toNat) from fez36); have F1 : (I (a0 Q p0 0) (3 + p1.toInt.toNat)).toInt = (mW σ p1).toInt := F.1; have eH := congrArg Int32.toInt (show z23 = I (a0 Q p0 0) (11 + p1.toInt.toNat) from fez23); have F2 : (I (a0 Q p0 0) (11 + p1.toInt.toNat)).toInt = (mH σ p1).toInt := F.2.1; exact ch_nl (show okm (mW σ p1).toInt (mH σ p1).toInt (mF σ p1) from ok.2.2.1 _ (show p1.toInt.toNat < (σ.1.1 0).toInt.toNat by have q : 0 ≤ p1.toInt ∧ p1.toInt < (σ.1.1 0).toInt := hm; omega)).2.2 (by omega) (by omega) (hn32 σ ok A hm)) hP hS (lv_sub hl [1, 2, 3, 4, 0] rfl)
          · have t39 := tq_nle (k := z36.toInt) (q := v32_5.toInt) c39 rfl rfl
            refine lv_aload_n hx hb dX7_changes_42 rfl (lv_at hl 0 rfl) ?_
            refine lv_iload_n hx hb dX7_changes_43 rfl (lv_at hl 1 rfl) ?_
            refine lv_iload hx hb dX7_changes_44 (lv_at hl 5 rfl) ?_
            refine lv_iload hx hb dX7_changes_46 (lv_at hl 4 rfl) ?_
            refine ro_i (va_runV (As := [.int p1, .int v32_5, .int v19_4]) (rest := []) ⟨hx, hb, hml, hown, hts⟩ (s_X7_has l dC dI cs L K G Q hQ x0 m0 tx tm H.size I J32 hI p0 hLp0 hKp0 p1 ⟨by omega, by omega⟩ v32_5 v19_4) (cwV 3 hts (gV pq1376 pq1378 pq34 pq81 pq1379) rfl rfl rfl (by decide +kernel) ⟨(by rw [hR]; exact (Nat.le_of_ble_eq_true rfl)), (by rw [hR]; exact (Nat.le_of_ble_eq_true rfl))⟩) (sP_V hP hD hK hN hLp0 hKp0 rfl rfl) rfl rfl hl.1 rfl (lv_room (Nat.le_of_ble_eq_true rfl)) dX7_changes_48 ⟨(by rw [hR]; exact (Nat.le_of_ble_eq_true rfl)), (by rw [hR]; exact (Nat.le_of_ble_eq_true rfl))⟩) hS hP (fun z48 H locs hz48 hP hS => ?_)
            obtain ⟨bz48, imz48, xpz48⟩ := hz48
            refine lv_istore (lv' := [(6, .int z48), (0, .ref p0), (1, .int p1), (2, .int p2), (3, .int v32_3), (4, .int v19_4), (5, .int v32_5)]) hx hb dX7_changes_51 hl (by decide) rfl (fun ls hl => ?_)
            have hH : ∀ σ : Sx, okF σ.1 → cmA Q I J p0 σ → mK σ p1 → ∀ X Y : Int, hs (rW Q I p0 p1.toInt.toNat) (rH Q I p0 p1.toInt.toNat) (rF Q J32 p0 p1.toInt.toNat) X Y = md (mF σ p1) X Y := fun σ ok A hm X Y => by have F := cmA_F A (m := p1) (by omega); rw [show rF Q J32 p0 p1.toInt.toNat = rF Q J p0 p1.toInt.toNat from congrArg (fun f => mo f p1.toInt.toNat) (hd32 _ (by have := (a_g hQ hLp0 hKp0).1.2; omega)), hs_congr F.1 F.2.1 F.2.2, hs_of (show okm (mW σ p1).toInt (mH σ p1).toInt (mF σ p1) from ok.2.2.1 _ (show p1.toInt.toNat < (σ.1.1 0).toInt.toNat by have q : 0 ≤ p1.toInt ∧ p1.toInt < (σ.1.1 0).toInt := hm; omega)).2.2]
            refine lv_iload_n hx hb dX7_changes_53 rfl (lv_at hl 3 rfl) ?_
            have j105 : ∀ (w105_0 : Int32) (H : Heap) (lo : List Loc) (ls : Array Slot), ((0) ≤ w105_0.toInt ∧ w105_0.toInt ≤ 1) → (w105_0.toInt = bi (if p2.toInt = 0 then (hs (rW Q I p0 p1.toInt.toNat) (rH Q I p0 p1.toInt.toNat) (rF Q J32 p0 p1.toInt.toNat) (v32_5.toInt) (v19_4.toInt) && hs (rW Q I p0 p1.toInt.toNat) (rH Q I p0 p1.toInt.toNat) (rF Q J32 p0 p1.toInt.toNat) (v32_5.toInt - 1) (v19_4.toInt) && hs (rW Q I p0 p1.toInt.toNat) (rH Q I p0 p1.toInt.toNat) (rF Q J32 p0 p1.toInt.toNat) (v32_5.toInt + 1) (v19_4.toInt) && hs (rW Q I p0 p1.toInt.toNat) (rH Q I p0 p1.toInt.toNat) (rF Q J32 p0 p1.toInt.toNat) (v32_5.toInt) (v19_4.toInt - 1) && hs (rW Q I p0 p1.toInt.toNat) (rH Q I p0 p1.toInt.toNat) (rF Q J32 p0 p1.toInt.toNat) (v32_5.toInt) (v19_4.toInt + 1)) else (hs (rW Q I p0 p1.toInt.toNat) (rH Q I p0 p1.toInt.toNat) (rF Q J32 p0 p1.toInt.toNat) (v32_5.toInt) (v19_4.toInt) || hs (rW Q I p0 p1.toInt.toNat) (rH Q I p0 p1.toInt.toNat) (rF Q J32 p0 p1.toInt.toNat) (v32_5.toInt - 1) (v19_4.toInt) || hs (rW Q I p0 p1.toInt.toNat) (rH Q I p0 p1.toInt.toNat) (rF Q J32 p0 p1.toInt.toNat) (v32_5.toInt + 1) (v19_4.toInt) || hs (rW Q I p0 p1.toInt.toNat) (rH Q I p0 p1.toInt.toNat) (rF Q J32 p0 p1.toInt.toNat) (v32_5.toInt) (v19_4.toInt - 1) || hs (rW Q I p0 p1.toInt.toNat) (rH Q I p0 p1.toInt.toNat) (rF Q J32 p0 p1.toInt.toNat) (v32_5.toInt) (v19_4.toInt + 1)))) → va_P (dC, dI) vwCl (Wd cs L K I J32 Q) H → va_S A s.heap H lo → lv_has ls 8 [(0, .ref p0), (1, .int p1), (2, .int p2), (3, .int v32_3), (4, .int v19_4), (5, .int v32_5), (6, .int z48)] → W p l e R s m (([.ref p0, .int p1, .int p2] : List Value).toArray) below meth c H lo 0 0 Qz (F0 m 105 ls [.int w105_0]) := by
              intro w105_0 H lo ls bw105_0 h105 hP hS hl
              refine lv_istore (lv' := [(7, .int w105_0), (0, .ref p0), (1, .int p1), (2, .int p2), (3, .int v32_3), (4, .int v19_4), (5, .int v32_5), (6, .int z48)]) hx hb dX7_changes_105 hl (by decide) rfl (fun ls hl => ?_)
              refine lv_iload_n hx hb dX7_changes_107 rfl (lv_at hl 4 rfl) ?_
              refine lv_iload hx hb dX7_changes_108 (lv_at hl 0 rfl) ?_
              refine lv_iload hx hb dX7_changes_110 (lv_at hl 7 rfl) ?_
              have j120 : ∀ (w120_1 : Int32) (H : Heap) (lo : List Loc) (ls : Array Slot), ((0) ≤ w120_1.toInt ∧ w120_1.toInt ≤ 1) → (w120_1.toInt = if w105_0.toInt = z48.toInt then 0 else 1) → va_P (dC, dI) vwCl (Wd cs L K I J32 Q) H → va_S A s.heap H lo → lv_has ls 8 [(0, .ref p0), (1, .int p1), (2, .int p2), (3, .int v32_3), (4, .int v19_4), (5, .int v32_5), (6, .int z48), (7, .int w105_0)] → W p l e R s m (([.ref p0, .int p1, .int p2] : List Value).toArray) below meth c H lo 0 0 Qz (F0 m 120 ls [.int w120_1, .int v32_3]) := by
                intro w120_1 H lo ls bw120_1 h120 hP hS hl
                refine ro_i (va_runS (As := [.int w120_1]) (rest := [.int v32_3]) ⟨hx, hb, hml, hown, hts⟩ (s_X7_truth l dC dI cs L K Q H.size I J32 w120_1) (va_cwS 1 hts (gS pq1257 pq1258 pq81 pq1259) rfl rfl rfl (by decide +kernel) ⟨(by rw [hR]; exact (Nat.le_of_ble_eq_true rfl)), (by rw [hR]; exact (Nat.le_of_ble_eq_true rfl))⟩) (sP_S hP hD hK hN) rfl rfl hl.1 rfl (lv_room (Nat.le_of_ble_eq_true rfl)) dX7_changes_120 ⟨(by rw [hR]; exact (Nat.le_of_ble_eq_true rfl)), (by rw [hR]; exact (Nat.le_of_ble_eq_true rfl))⟩) hS hP (fun z120 H locs hz120 hP hS => ?_)
                obtain ⟨bz120, xpz120⟩ := hz120
                refine lv_iadd hx hb dX7_changes_123 ?_
                refine lv_topi (fun z123 ez123 => ?_)
                have bz123 := tq_add (k := v32_3.toInt) (q := z120.toInt) ez123 rfl rfl (by omega) (by omega)
                refine lv_istore_n (lv' := [(3, .int z123), (0, .ref p0), (1, .int p1), (2, .int p2), (4, .int v19_4), (5, .int v32_5), (6, .int z48), (7, .int w105_0)]) hx hb dX7_changes_124 rfl hl (by decide) rfl (fun ls hl => ?_)
                refine lv_iload hx hb dX7_changes_125 (lv_at hl 7 rfl) ?_
                have j142 : ∀ (J142 : Nat → Nat → Int64) (H : Heap) (lo : List Loc) (ls : Array Slot), (∀ b, ¬ (K b = 21 ∨ K b = 22 ∨ K b = 33 ∨ K b = 34) → J142 b = J b) → (∀ b, ¬ K b = 34 → J142 b = J b) → (∀ σ : Sx, okF σ.1 → cmA Q I J p0 σ → mK σ p1 → rxI (J142 (a0 Q p0 19)) (chD p2.toInt (mW σ p1).toInt (mH σ p1).toInt (mF σ p1)) v19_4.toInt (v32_5.toInt + 1)) → (∀ σ : Sx, okF σ.1 → cmA Q I J p0 σ → mK σ p1 → CNT p2.toInt (mW σ p1).toInt (mH σ p1).toInt (mF σ p1) z123.toInt v19_4.toInt (v32_5.toInt + 1)) → va_P (dC, dI) vwCl (Wd cs L K I J142 Q) H → va_S A s.heap H lo → lv_has ls 8 [(0, .ref p0), (1, .int p1), (2, .int p2), (3, .int z123), (4, .int v19_4), (5, .int v32_5), (6, .int z48), (7, .int w105_0)] → W p l e R s m (([.ref p0, .int p1, .int p2] : List Value).toArray) below meth c H lo 0 0 Qz (F0 m 142 ls []) := by
                  intro J142 H lo ls dj_J142 hd142 h142 hn142 hP hS hl
                  obtain ⟨z142, ez142⟩ : ∃ y : Int32, y = v32_5 + 1 := ⟨_, rfl⟩
                  refine lv_iinc (v := z142) (lv' := [(5, .int z142), (0, .ref p0), (1, .int p1), (2, .int p2), (3, .int z123), (4, .int v19_4), (6, .int z48), (7, .int w105_0)]) hx hb dX7_changes_142 hl (k := 5) rfl (by rw [ez142]; rfl) (by decide) rfl (fun ls hl => ?_)
                  have bz142 := tq_add (k := v32_5.toInt) (q := 1) ez142 rfl (by decide +kernel) (by omega) (by omega)
                  refine lv_goto (tgt := 32) hx hb dX7_changes_145 (by decide) ?_
                  exact ih32 _ (by omega) z123 z142 J142 _ _ _ rfl ⟨by omega, by omega⟩ ⟨by omega, by omega⟩ dj_J142 hd142 (by omega) (fun σ ok A hm => by rw [bz142]; exact h142 σ ok A hm) (fun σ ok A hm => by rw [bz142]; exact hn142 σ ok A hm) hP hS (lv_sub hl [1, 2, 3, 4, 5, 0] rfl)
                refine lv_if_eq (tgt := 142) hx hb dX7_changes_127 (by decide) (fun c127 => ?_) (fun c127 => ?_)
                · have t127 := tq_eq (k := w105_0.toInt) (q := (0)) c127 rfl (by decide +kernel)
                  exact j142 J32 _ _ _ dj_J32 hd32 (fun σ ok A hm => by have F := cmA_F A (m := p1) (by omega); have eW := congrArg Int32.toInt (show z36 = I (a0 Q p0 0) (3 + p1.toInt.toNat) from fez36); have F1 : (I (a0 Q p0 0) (3 + p1.toInt.toNat)).toInt = (mW σ p1).toInt := F.1; have eH := congrArg Int32.toInt (show z23 = I (a0 Q p0 0) (11 + p1.toInt.toNat) from fez23); have F2 : (I (a0 Q p0 0) (11 + p1.toInt.toNat)).toInt = (mH σ p1).toInt := F.2.1; have W48 : z48.toInt = bi (md (mF σ p1) v32_5.toInt v19_4.toInt) := (by have q := xpz48; rw [hH σ ok A hm] at q; exact q); have Dv : w105_0.toInt = bi (chD p2.toInt (mW σ p1).toInt (mH σ p1).toInt (mF σ p1) v32_5.toInt v19_4.toInt) := (by have q := h105; simp only [hH σ ok A hm] at q; rw [ch_at (by omega)]; exact q); exact rx_skip (h32 σ ok A hm) rfl (bi_f Dv t127)) (fun σ ok A hm => by have F := cmA_F A (m := p1) (by omega); have eW := congrArg Int32.toInt (show z36 = I (a0 Q p0 0) (3 + p1.toInt.toNat) from fez36); have F1 : (I (a0 Q p0 0) (3 + p1.toInt.toNat)).toInt = (mW σ p1).toInt := F.1; have eH := congrArg Int32.toInt (show z23 = I (a0 Q p0 0) (11 + p1.toInt.toNat) from fez23); have F2 : (I (a0 Q p0 0) (11 + p1.toInt.toNat)).toInt = (mH σ p1).toInt := F.2.1; have W48 : z48.toInt = bi (md (mF σ p1) v32_5.toInt v19_4.toInt) := (by have q := xpz48; rw [hH σ ok A hm] at q; exact q); have Dv : w105_0.toInt = bi (chD p2.toInt (mW σ p1).toInt (mH σ p1).toInt (mF σ p1) v32_5.toInt v19_4.toInt) := (by have q := h105; simp only [hH σ ok A hm] at q; rw [ch_at (by omega)]; exact q); have o := (show okm (mW σ p1).toInt (mH σ p1).toInt (mF σ p1) from ok.2.2.1 _ (show p1.toInt.toNat < (σ.1.1 0).toInt.toNat by have q : 0 ≤ p1.toInt ∧ p1.toInt < (σ.1.1 0).toInt := hm; omega)); exact ch_step (by omega) (by have := o.1; omega) (by have := o.2.1; omega) rfl (by have q := ne_bi Dv W48 h120; have z := xpz120; (by_cases w : w120_1.toInt = 0); (have := z.1 w; omega); (have := z.2 w; omega)) (hn32 σ ok A hm)) hP hS (lv_sub hl [1, 2, 3, 0, 4, 5, 6, 7] rfl)
                · have t127 := tq_ne (k := w105_0.toInt) (q := (0)) c127 rfl (by decide +kernel)
                  refine lv_aload_n hx hb dX7_changes_130 rfl (lv_at hl 1 rfl) ?_
                  obtain ⟨y131, ey131, hLy131, hKy131⟩ := oQ_7_19 (Sv_at hQ hLp0 hKp0)
                  refine p_get (v := .ref y131) hx hb hts inX7 hown hK hP hLp0 hKp0 rfl rfl 19 (by decide) (hts _ pq1134) (congrArg (fun q => some (va_rf q)) ey131) dX7_changes_131 ?_
                  refine lv_iconst (v := 0) hx hb dX7_changes_134 (by decide +kernel) ?_
                  refine lv_iload hx hb dX7_changes_135 (lv_at hl 5 rfl) ?_
                  refine lv_iload hx hb dX7_changes_137 (lv_at hl 4 rfl) ?_
                  refine sw_v (Z := (fun I1 J1 => Iv L K x0 m0 tx tm I1 ∧ I1 = I ∧ (∀ x y : Int, md (J1 y131) x y = (md (J32 y131) x y || decide (x = v32_5.toInt ∧ y = v19_4.toInt))) ∧ (∀ b, ¬ (K b = 34) → J1 b = J32 b))) (va_runS (As := [.ref y131, .int 0, .int v32_5, .int v19_4]) (rest := []) ⟨hx, hb, hml, hown, hts⟩ (s_X7_setsDotM l dC dI cs L K G Q hQ x0 m0 tx tm H.size I J32 hI y131 hLy131 hKy131 0 ⟨by decide +kernel, by decide +kernel⟩ v32_5 ⟨by omega, by omega⟩ v19_4 ⟨by omega, by omega⟩) (va_cwS 4 hts (gS pq1254 pq1255 pq81 pq1256) rfl rfl rfl (by decide +kernel) ⟨(by rw [hR]; exact (Nat.le_of_ble_eq_true rfl)), (by rw [hR]; exact (Nat.le_of_ble_eq_true rfl))⟩) (sP_S hP hD hK hN) rfl rfl hl.1 rfl (lv_room (Nat.le_of_ble_eq_true rfl)) dX7_changes_139 ⟨(by rw [hR]; exact (Nat.le_of_ble_eq_true rfl)), (by rw [hR]; exact (Nat.le_of_ble_eq_true rfl))⟩) hS hAL hA (fun Iz139 Jz139 H locs hz139 hIz139 hP hS => ?_)
                  obtain ⟨hIz139, sm139, jz139, djc139⟩ := hIz139
                  have dj_Jz139 : (∀ b, ¬ (K b = 21 ∨ K b = 22 ∨ K b = 33 ∨ K b = 34) → Jz139 b = J b) := fun b hc => (djc139 b (fun z => hc (by omega))).trans (dj_J32 b hc)
                  obtain rfl : I = Iz139 := sm139.symm
                  exact j142 Jz139 _ _ _ dj_Jz139 (fun b hb => (djc139 b (by omega)).trans (hd32 b hb)) (fun σ ok A hm => by have F := cmA_F A (m := p1) (by omega); have eW := congrArg Int32.toInt (show z36 = I (a0 Q p0 0) (3 + p1.toInt.toNat) from fez36); have F1 : (I (a0 Q p0 0) (3 + p1.toInt.toNat)).toInt = (mW σ p1).toInt := F.1; have eH := congrArg Int32.toInt (show z23 = I (a0 Q p0 0) (11 + p1.toInt.toNat) from fez23); have F2 : (I (a0 Q p0 0) (11 + p1.toInt.toNat)).toInt = (mH σ p1).toInt := F.2.1; have W48 : z48.toInt = bi (md (mF σ p1) v32_5.toInt v19_4.toInt) := (by have q := xpz48; rw [hH σ ok A hm] at q; exact q); have Dv : w105_0.toInt = bi (chD p2.toInt (mW σ p1).toInt (mH σ p1).toInt (mF σ p1) v32_5.toInt v19_4.toInt) := (by have q := h105; simp only [hH σ ok A hm] at q; rw [ch_at (by omega)]; exact q); exact rx_put (h32 σ ok A hm) rfl (bi_t Dv t127) (by rw [show a0 Q p0 19 = y131 from gd_of ey131]; exact jz139)) (fun σ ok A hm => by have F := cmA_F A (m := p1) (by omega); have eW := congrArg Int32.toInt (show z36 = I (a0 Q p0 0) (3 + p1.toInt.toNat) from fez36); have F1 : (I (a0 Q p0 0) (3 + p1.toInt.toNat)).toInt = (mW σ p1).toInt := F.1; have eH := congrArg Int32.toInt (show z23 = I (a0 Q p0 0) (11 + p1.toInt.toNat) from fez23); have F2 : (I (a0 Q p0 0) (11 + p1.toInt.toNat)).toInt = (mH σ p1).toInt := F.2.1; have W48 : z48.toInt = bi (md (mF σ p1) v32_5.toInt v19_4.toInt) := (by have q := xpz48; rw [hH σ ok A hm] at q; exact q); have Dv : w105_0.toInt = bi (chD p2.toInt (mW σ p1).toInt (mH σ p1).toInt (mF σ p1) v32_5.toInt v19_4.toInt) := (by have q := h105; simp only [hH σ ok A hm] at q; rw [ch_at (by omega)]; exact q); have o := (show okm (mW σ p1).toInt (mH σ p1).toInt (mF σ p1) from ok.2.2.1 _ (show p1.toInt.toNat < (σ.1.1 0).toInt.toNat by have q : 0 ≤ p1.toInt ∧ p1.toInt < (σ.1.1 0).toInt := hm; omega)); exact ch_step (by omega) (by have := o.1; omega) (by have := o.2.1; omega) rfl (by have q := ne_bi Dv W48 h120; have z := xpz120; (by_cases w : w120_1.toInt = 0); (have := z.1 w; omega); (have := z.2 w; omega)) (hn32 σ ok A hm)) hP hS (lv_sub hl [1, 2, 3, 0, 4, 5, 6, 7] rfl)
              refine lv_icmp_eq (tgt := 119) hx hb dX7_changes_112 (by decide) (fun c112 => ?_) (fun c112 => ?_)
              · have t112 := tq_eq (k := w105_0.toInt) (q := z48.toInt) c112 rfl rfl
                refine lv_iconst (v := 0) hx hb dX7_changes_119 (by decide +kernel) ?_
                exact j120 0 _ _ _ ⟨by decide +kernel, by decide +kernel⟩ (by rw [if_pos (by omega)]; decide +kernel) hP hS (lv_sub hl [1, 2, 3, 4, 5, 6, 7, 0] rfl)
              · have t112 := tq_ne (k := w105_0.toInt) (q := z48.toInt) c112 rfl rfl
                refine lv_iconst (v := 1) hx hb dX7_changes_115 (by decide +kernel) ?_
                refine lv_goto (tgt := 120) hx hb dX7_changes_116 (by decide) ?_
                exact j120 1 _ _ _ ⟨by decide +kernel, by decide +kernel⟩ (by rw [if_neg (by omega)]; decide +kernel) hP hS (lv_sub hl [1, 2, 3, 4, 5, 6, 7, 0] rfl)
            refine lv_if_eq (tgt := 82) hx hb dX7_changes_54 (by decide) (fun c54 => ?_) (fun c54 => ?_)
            · have t54 := tq_eq (k := p2.toInt) (q := (0)) c54 rfl (by decide +kernel)
              refine lv_iload hx hb dX7_changes_82 (lv_at hl 0 rfl) ?_
              have j104 : ∀ (H : Heap) (lo : List Loc) (ls : Array Slot), (hs (rW Q I p0 p1.toInt.toNat) (rH Q I p0 p1.toInt.toNat) (rF Q J32 p0 p1.toInt.toNat) (v32_5.toInt) (v19_4.toInt) = false ∨ (hs (rW Q I p0 p1.toInt.toNat) (rH Q I p0 p1.toInt.toNat) (rF Q J32 p0 p1.toInt.toNat) (v32_5.toInt - 1) (v19_4.toInt) && hs (rW Q I p0 p1.toInt.toNat) (rH Q I p0 p1.toInt.toNat) (rF Q J32 p0 p1.toInt.toNat) (v32_5.toInt + 1) (v19_4.toInt) && hs (rW Q I p0 p1.toInt.toNat) (rH Q I p0 p1.toInt.toNat) (rF Q J32 p0 p1.toInt.toNat) (v32_5.toInt) (v19_4.toInt - 1) && hs (rW Q I p0 p1.toInt.toNat) (rH Q I p0 p1.toInt.toNat) (rF Q J32 p0 p1.toInt.toNat) (v32_5.toInt) (v19_4.toInt + 1)) = false) → va_P (dC, dI) vwCl (Wd cs L K I J32 Q) H → va_S A s.heap H lo → lv_has ls 8 [(0, .ref p0), (1, .int p1), (2, .int p2), (3, .int v32_3), (4, .int v19_4), (5, .int v32_5), (6, .int z48)] → W p l e R s m (([.ref p0, .int p1, .int p2] : List Value).toArray) below meth c H lo 0 0 Qz (F0 m 104 ls []) := by
                intro H lo ls h104 hP hS hl
                refine lv_iconst (v := 0) hx hb dX7_changes_104 (by decide +kernel) ?_
                exact j105 0 _ _ _ ⟨by decide +kernel, by decide +kernel⟩ (by rw [if_pos (by omega), show (hs (rW Q I p0 p1.toInt.toNat) (rH Q I p0 p1.toInt.toNat) (rF Q J32 p0 p1.toInt.toNat) (v32_5.toInt) (v19_4.toInt) && hs (rW Q I p0 p1.toInt.toNat) (rH Q I p0 p1.toInt.toNat) (rF Q J32 p0 p1.toInt.toNat) (v32_5.toInt - 1) (v19_4.toInt) && hs (rW Q I p0 p1.toInt.toNat) (rH Q I p0 p1.toInt.toNat) (rF Q J32 p0 p1.toInt.toNat) (v32_5.toInt + 1) (v19_4.toInt) && hs (rW Q I p0 p1.toInt.toNat) (rH Q I p0 p1.toInt.toNat) (rF Q J32 p0 p1.toInt.toNat) (v32_5.toInt) (v19_4.toInt - 1) && hs (rW Q I p0 p1.toInt.toNat) (rH Q I p0 p1.toInt.toNat) (rF Q J32 p0 p1.toInt.toNat) (v32_5.toInt) (v19_4.toInt + 1)) = false from (by rcases h104 with q | q; (rw [q]; simp only [Bool.false_and]); (simp only [Bool.and_assoc] at q ⊢; rw [q, Bool.and_false]))]; decide +kernel) hP hS (lv_sub hl [0, 1, 2, 3, 4, 5, 6] rfl)
              refine lv_if_eq (tgt := 104) hx hb dX7_changes_84 (by decide) (fun c84 => ?_) (fun c84 => ?_)
              · have t84 := tq_eq (k := z48.toInt) (q := (0)) c84 rfl (by decide +kernel)
                exact j104  _ _ _ (Or.inl (bi_f xpz48 t84)) hP hS (lv_sub hl [1, 2, 3, 4, 5, 6, 0] rfl)
              · have t84 := tq_ne (k := z48.toInt) (q := (0)) c84 rfl (by decide +kernel)
                have i84 := imz48 t84
                refine lv_aload_n hx hb dX7_changes_87 rfl (lv_at hl 1 rfl) ?_
                refine lv_iload_n hx hb dX7_changes_88 rfl (lv_at hl 2 rfl) ?_
                refine lv_iload hx hb dX7_changes_89 (lv_at hl 6 rfl) ?_
                refine lv_iload hx hb dX7_changes_91 (lv_at hl 5 rfl) ?_
                refine ro_i (va_runV (As := [.int p1, .int v32_5, .int v19_4]) (rest := []) ⟨hx, hb, hml, hown, hts⟩ (s_X7_around l dC dI cs L K G Q hQ x0 m0 tx tm H.size I J32 hI p0 hLp0 hKp0 p1 ⟨by omega, by omega⟩ v32_5 ⟨by omega, by omega⟩ v19_4 ⟨by omega, by omega⟩) (cwV 3 hts (gV pq1395 pq1397 pq37 pq81 pq1398) rfl rfl rfl (by decide +kernel) ⟨(by rw [hR]; exact (Nat.le_of_ble_eq_true rfl)), (by rw [hR]; exact (Nat.le_of_ble_eq_true rfl))⟩) (sP_V hP hD hK hN hLp0 hKp0 rfl rfl) rfl rfl hl.1 rfl (lv_room (Nat.le_of_ble_eq_true rfl)) dX7_changes_93 ⟨(by rw [hR]; exact (Nat.le_of_ble_eq_true rfl)), (by rw [hR]; exact (Nat.le_of_ble_eq_true rfl))⟩) hS hP (fun z93 H locs hz93 hP hS => ?_)
                obtain ⟨bz93, xpz93⟩ := hz93
                refine lv_iconst (v := 4) hx hb dX7_changes_96 (by decide +kernel) ?_
                refine lv_icmp_ne (tgt := 104) hx hb dX7_changes_97 (by decide) (fun c97 => ?_) (fun c97 => ?_)
                · have t97 := tq_ne (k := z93.toInt) (q := (4)) c97 rfl (by decide +kernel)
                  exact j104  _ _ _ (Or.inr (by cases q : (hs (rW Q I p0 p1.toInt.toNat) (rH Q I p0 p1.toInt.toNat) (rF Q J32 p0 p1.toInt.toNat) (v32_5.toInt - 1) (v19_4.toInt) && hs (rW Q I p0 p1.toInt.toNat) (rH Q I p0 p1.toInt.toNat) (rF Q J32 p0 p1.toInt.toNat) (v32_5.toInt + 1) (v19_4.toInt) && hs (rW Q I p0 p1.toInt.toNat) (rH Q I p0 p1.toInt.toNat) (rF Q J32 p0 p1.toInt.toNat) (v32_5.toInt) (v19_4.toInt - 1) && hs (rW Q I p0 p1.toInt.toNat) (rH Q I p0 p1.toInt.toNat) (rF Q J32 p0 p1.toInt.toNat) (v32_5.toInt) (v19_4.toInt + 1)) with | false => rfl | true => exact absurd ((ar_4 xpz93).mpr q) t97)) hP hS (lv_sub hl [1, 2, 3, 4, 5, 6, 0] rfl)
                · have t97 := tq_eq (k := z93.toInt) (q := (4)) c97 rfl (by decide +kernel)
                  refine lv_iconst (v := 1) hx hb dX7_changes_100 (by decide +kernel) ?_
                  refine lv_goto (tgt := 105) hx hb dX7_changes_101 (by decide) ?_
                  exact j105 1 _ _ _ ⟨by decide +kernel, by decide +kernel⟩ (by rw [if_pos (by omega)]; have q1 := bi_t xpz48 t84; have q2 := (ar_4 xpz93).mp t97; rw [show (hs (rW Q I p0 p1.toInt.toNat) (rH Q I p0 p1.toInt.toNat) (rF Q J32 p0 p1.toInt.toNat) (v32_5.toInt) (v19_4.toInt) && hs (rW Q I p0 p1.toInt.toNat) (rH Q I p0 p1.toInt.toNat) (rF Q J32 p0 p1.toInt.toNat) (v32_5.toInt - 1) (v19_4.toInt) && hs (rW Q I p0 p1.toInt.toNat) (rH Q I p0 p1.toInt.toNat) (rF Q J32 p0 p1.toInt.toNat) (v32_5.toInt + 1) (v19_4.toInt) && hs (rW Q I p0 p1.toInt.toNat) (rH Q I p0 p1.toInt.toNat) (rF Q J32 p0 p1.toInt.toNat) (v32_5.toInt) (v19_4.toInt - 1) && hs (rW Q I p0 p1.toInt.toNat) (rH Q I p0 p1.toInt.toNat) (rF Q J32 p0 p1.toInt.toNat) (v32_5.toInt) (v19_4.toInt + 1)) = true from (by rw [q1]; simp only [Bool.true_and, Bool.and_assoc] at q2 ⊢; exact q2)]; decide +kernel) hP hS (lv_sub hl [1, 2, 3, 4, 5, 6, 0] rfl)
            · have t54 := tq_ne (k := p2.toInt) (q := (0)) c54 rfl (by decide +kernel)
              refine lv_iload hx hb dX7_changes_57 (lv_at hl 0 rfl) ?_
              have j74 : ∀ (H : Heap) (lo : List Loc) (ls : Array Slot), (hs (rW Q I p0 p1.toInt.toNat) (rH Q I p0 p1.toInt.toNat) (rF Q J32 p0 p1.toInt.toNat) (v32_5.toInt) (v19_4.toInt) = true ∨ (hs (rW Q I p0 p1.toInt.toNat) (rH Q I p0 p1.toInt.toNat) (rF Q J32 p0 p1.toInt.toNat) (v32_5.toInt - 1) (v19_4.toInt) || hs (rW Q I p0 p1.toInt.toNat) (rH Q I p0 p1.toInt.toNat) (rF Q J32 p0 p1.toInt.toNat) (v32_5.toInt + 1) (v19_4.toInt) || hs (rW Q I p0 p1.toInt.toNat) (rH Q I p0 p1.toInt.toNat) (rF Q J32 p0 p1.toInt.toNat) (v32_5.toInt) (v19_4.toInt - 1) || hs (rW Q I p0 p1.toInt.toNat) (rH Q I p0 p1.toInt.toNat) (rF Q J32 p0 p1.toInt.toNat) (v32_5.toInt) (v19_4.toInt + 1)) = true) → va_P (dC, dI) vwCl (Wd cs L K I J32 Q) H → va_S A s.heap H lo → lv_has ls 8 [(0, .ref p0), (1, .int p1), (2, .int p2), (3, .int v32_3), (4, .int v19_4), (5, .int v32_5), (6, .int z48)] → W p l e R s m (([.ref p0, .int p1, .int p2] : List Value).toArray) below meth c H lo 0 0 Qz (F0 m 74 ls []) := by
                intro H lo ls h74 hP hS hl
                refine lv_iconst (v := 1) hx hb dX7_changes_74 (by decide +kernel) ?_
                refine lv_goto (tgt := 105) hx hb dX7_changes_75 (by decide) ?_
                exact j105 1 _ _ _ ⟨by decide +kernel, by decide +kernel⟩ (by rw [if_neg (by omega)]; rcases h74 with q | q; (rw [q]; simp only [Bool.true_or]; decide +kernel); (rw [show (hs (rW Q I p0 p1.toInt.toNat) (rH Q I p0 p1.toInt.toNat) (rF Q J32 p0 p1.toInt.toNat) (v32_5.toInt) (v19_4.toInt) || hs (rW Q I p0 p1.toInt.toNat) (rH Q I p0 p1.toInt.toNat) (rF Q J32 p0 p1.toInt.toNat) (v32_5.toInt - 1) (v19_4.toInt) || hs (rW Q I p0 p1.toInt.toNat) (rH Q I p0 p1.toInt.toNat) (rF Q J32 p0 p1.toInt.toNat) (v32_5.toInt + 1) (v19_4.toInt) || hs (rW Q I p0 p1.toInt.toNat) (rH Q I p0 p1.toInt.toNat) (rF Q J32 p0 p1.toInt.toNat) (v32_5.toInt) (v19_4.toInt - 1) || hs (rW Q I p0 p1.toInt.toNat) (rH Q I p0 p1.toInt.toNat) (rF Q J32 p0 p1.toInt.toNat) (v32_5.toInt) (v19_4.toInt + 1)) = true from (by simp only [Bool.or_assoc] at q ⊢; rw [q, Bool.or_true])]; decide +kernel)) hP hS (lv_sub hl [0, 1, 2, 3, 4, 5, 6] rfl)
              refine lv_if_ne (tgt := 74) hx hb dX7_changes_59 (by decide) (fun c59 => ?_) (fun c59 => ?_)
              · have t59 := tq_ne (k := z48.toInt) (q := (0)) c59 rfl (by decide +kernel)
                have i59 := imz48 t59
                exact j74  _ _ _ (Or.inl (bi_t xpz48 t59)) hP hS (lv_sub hl [1, 2, 3, 4, 5, 6, 0] rfl)
              · have t59 := tq_eq (k := z48.toInt) (q := (0)) c59 rfl (by decide +kernel)
                refine lv_aload_n hx hb dX7_changes_62 rfl (lv_at hl 1 rfl) ?_
                refine lv_iload_n hx hb dX7_changes_63 rfl (lv_at hl 2 rfl) ?_
                refine lv_iload hx hb dX7_changes_64 (lv_at hl 6 rfl) ?_
                refine lv_iload hx hb dX7_changes_66 (lv_at hl 5 rfl) ?_
                refine ro_i (va_runV (As := [.int p1, .int v32_5, .int v19_4]) (rest := []) ⟨hx, hb, hml, hown, hts⟩ (s_X7_around l dC dI cs L K G Q hQ x0 m0 tx tm H.size I J32 hI p0 hLp0 hKp0 p1 ⟨by omega, by omega⟩ v32_5 ⟨by omega, by omega⟩ v19_4 ⟨by omega, by omega⟩) (cwV 3 hts (gV pq1395 pq1397 pq37 pq81 pq1398) rfl rfl rfl (by decide +kernel) ⟨(by rw [hR]; exact (Nat.le_of_ble_eq_true rfl)), (by rw [hR]; exact (Nat.le_of_ble_eq_true rfl))⟩) (sP_V hP hD hK hN hLp0 hKp0 rfl rfl) rfl rfl hl.1 rfl (lv_room (Nat.le_of_ble_eq_true rfl)) dX7_changes_68 ⟨(by rw [hR]; exact (Nat.le_of_ble_eq_true rfl)), (by rw [hR]; exact (Nat.le_of_ble_eq_true rfl))⟩) hS hP (fun z68 H locs hz68 hP hS => ?_)
                obtain ⟨bz68, xpz68⟩ := hz68
                refine lv_if_le (tgt := 78) hx hb dX7_changes_71 (by decide) (fun c71 => ?_) (fun c71 => ?_)
                · have t71 := tq_le (k := z68.toInt) (q := (0)) c71 rfl (by decide +kernel)
                  refine lv_iconst (v := 0) hx hb dX7_changes_78 (by decide +kernel) ?_
                  refine lv_goto (tgt := 105) hx hb dX7_changes_79 (by decide) ?_
                  exact j105 0 _ _ _ ⟨by decide +kernel, by decide +kernel⟩ (by rw [if_neg (by omega)]; have q1 := bi_f xpz48 t59; have q2 : (hs (rW Q I p0 p1.toInt.toNat) (rH Q I p0 p1.toInt.toNat) (rF Q J32 p0 p1.toInt.toNat) (v32_5.toInt - 1) (v19_4.toInt) || hs (rW Q I p0 p1.toInt.toNat) (rH Q I p0 p1.toInt.toNat) (rF Q J32 p0 p1.toInt.toNat) (v32_5.toInt + 1) (v19_4.toInt) || hs (rW Q I p0 p1.toInt.toNat) (rH Q I p0 p1.toInt.toNat) (rF Q J32 p0 p1.toInt.toNat) (v32_5.toInt) (v19_4.toInt - 1) || hs (rW Q I p0 p1.toInt.toNat) (rH Q I p0 p1.toInt.toNat) (rF Q J32 p0 p1.toInt.toNat) (v32_5.toInt) (v19_4.toInt + 1)) = false := (by cases q : (hs (rW Q I p0 p1.toInt.toNat) (rH Q I p0 p1.toInt.toNat) (rF Q J32 p0 p1.toInt.toNat) (v32_5.toInt - 1) (v19_4.toInt) || hs (rW Q I p0 p1.toInt.toNat) (rH Q I p0 p1.toInt.toNat) (rF Q J32 p0 p1.toInt.toNat) (v32_5.toInt + 1) (v19_4.toInt) || hs (rW Q I p0 p1.toInt.toNat) (rH Q I p0 p1.toInt.toNat) (rF Q J32 p0 p1.toInt.toNat) (v32_5.toInt) (v19_4.toInt - 1) || hs (rW Q I p0 p1.toInt.toNat) (rH Q I p0 p1.toInt.toNat) (rF Q J32 p0 p1.toInt.toNat) (v32_5.toInt) (v19_4.toInt + 1)) with | false => rfl | true => (have := (ar_gt xpz68).mpr q; omega)); rw [show (hs (rW Q I p0 p1.toInt.toNat) (rH Q I p0 p1.toInt.toNat) (rF Q J32 p0 p1.toInt.toNat) (v32_5.toInt) (v19_4.toInt) || hs (rW Q I p0 p1.toInt.toNat) (rH Q I p0 p1.toInt.toNat) (rF Q J32 p0 p1.toInt.toNat) (v32_5.toInt - 1) (v19_4.toInt) || hs (rW Q I p0 p1.toInt.toNat) (rH Q I p0 p1.toInt.toNat) (rF Q J32 p0 p1.toInt.toNat) (v32_5.toInt + 1) (v19_4.toInt) || hs (rW Q I p0 p1.toInt.toNat) (rH Q I p0 p1.toInt.toNat) (rF Q J32 p0 p1.toInt.toNat) (v32_5.toInt) (v19_4.toInt - 1) || hs (rW Q I p0 p1.toInt.toNat) (rH Q I p0 p1.toInt.toNat) (rF Q J32 p0 p1.toInt.toNat) (v32_5.toInt) (v19_4.toInt + 1)) = false from (by rw [q1]; simp only [Bool.false_or, Bool.or_assoc] at q2 ⊢; exact q2)]; decide +kernel) hP hS (lv_sub hl [1, 2, 3, 4, 5, 6, 0] rfl)
                · have t71 := tq_nle (k := z68.toInt) (q := (0)) c71 rfl (by decide +kernel)
                  exact j74  _ _ _ (Or.inr ((ar_gt xpz68).mp (by omega))) hP hS (lv_sub hl [1, 2, 3, 4, 5, 6, 0] rfl))
        exact key32 _ v19_3 0 J19 _ _ _ rfl ⟨by omega, by omega⟩ ⟨by decide +kernel, by decide +kernel⟩ dj_J19 hd19 (by rw [show (0 : Int32).toInt = 0 from by decide +kernel]; omega) h19 hn19 hP hS (lv_sub hl [1, 2, 3, 4, 5, 0] rfl))
    exact key19 _ 0 0 Jz11 _ _ _ rfl ⟨by decide +kernel, by decide +kernel⟩ ⟨by decide +kernel, by decide +kernel⟩ dj_Jz11 (fun b hb => djc11 b (by omega)) (by decide +kernel) (fun σ ok A hm => rx_0 jz11 (fun x y q => by have := chD_b (show okm (mW σ p1).toInt (mH σ p1).toInt (mF σ p1) from ok.2.2.1 _ (show p1.toInt.toNat < (σ.1.1 0).toInt.toNat by have q : 0 ≤ p1.toInt ∧ p1.toInt < (σ.1.1 0).toInt := hm; omega)).2.2 x y q; omega)) (fun σ ok A hm => ch_0 (show okm (mW σ p1).toInt (mH σ p1).toInt (mF σ p1) from ok.2.2.1 _ (show p1.toInt.toNat < (σ.1.1 0).toInt.toNat by have q : 0 ≤ p1.toInt ∧ p1.toInt < (σ.1.1 0).toInt := hm; omega)).2.2) hP hS (lv_sub hl [2, 3, 4, 1, 0] rfl)
  · have t5 := tq_eq (k := z2.toInt) (q := (0)) c5 rfl (by decide +kernel)
    refine lv_iconst (v := (-1)) hx hb dX7_changes_8 (by decide +kernel) ?_
    subst hR; subst hQz
    exact W.iret (v := (-1)) hx hb hr (fun t ht hW => ⟨⟨(-1), (), rfl, (fun σ ok A => by have ec : I (a0 Q p0 0) 0 = σ.1.1 0 := cmA_n A (by decide); rw [ch_n (fun q => xpz2.2 t5 (by rw [ec]; exact q))]; show (-1 : Int32).toInt = -1; decide +kernel), ⟨I, J, ⟨hI, dn_I, (fun σ ok A => by have ec : I (a0 Q p0 0) 0 = σ.1.1 0 := cmA_n A (by decide); rw [ch_n (fun q => xpz2.2 t5 (by rw [ec]; exact q))]; exact A), dj_J⟩, by rw [ht]; exact hP⟩⟩, hS.F ht⟩) hS.2.2 dX7_changes_9

set_option maxHeartbeats 4000000 in
set_option maxRecDepth 100000 in
theorem s_X7_grow (l : Launch) (dC : Nat → ClassId) (dI : Nat → Nat → Nat) (cs : Nat → ClassId) (L : List Nat) (K G : Nat → Nat) (Q : Nat → Nat → Option Nat) (hQ : Sv L K G Q) (x0 m0 : Nat) (tx : GT) (tm : GT × Int) (sz : Nat) (I : Nat → Nat → Int32) (J : Nat → Nat → Int64) (hI : Iv L K x0 m0 tx tm I) (p0 : Nat) (hLp0 : p0 ∈ L) (hKp0 : K p0 = 7) (p1 : Int32) : Met l yX7_grow (.code yX7_grow cX7_grow 2 (some .int) :: pw) ({ frames := 4, cells := 0, slots := 0, locals := 98 }) (sP (dC, dI) cs [.ref p0, .int p1] sz L K I J Q) (va_Qi (fun (r : Int32) (_ : Unit) => (∀ σ : Sx, okF σ.1 → cmA Q I J p0 σ → r.toInt = (chA σ p1 (mkw (growD (mW σ p1).toInt (mH σ p1).toInt (mF σ p1))) true).1)) (fun _ t => sB (dC, dI) cs L K Q (fun I1 J1 => Iv L K x0 m0 tx tm I1 ∧ (∀ b, K b = 0 ∨ K b = 1 ∨ K b = 3 ∨ K b = 6 → I1 b = I b) ∧ (∀ σ : Sx, okF σ.1 → cmA Q I J p0 σ → cmA Q I1 J1 p0 (chA σ p1 (mkw (growD (mW σ p1).toInt (mH σ p1).toInt (mF σ p1))) true).2) ∧ (∀ b, ¬ (K b = 21 ∨ K b = 22 ∨ K b = 33 ∨ K b = 34) → J1 b = J b)) t) (fun q => q ∈ L ∨ sz ≤ q)) 0 0 (fun q => q ∈ L ∨ sz ≤ q) := by
  refine Met.ofW (cc := cX7_grow) (maxL := 2) (ret := (some .int)) (by decide +kernel) rfl ?_
  intro p e s m args below meth c s₁ B hml hv
  obtain ⟨rfl, hsz, hP, hK, hD0, hN⟩ := hv
  have hx := B.exec
  have hb := B.bytes
  have hr := B.returns
  have hts := fun w (h : w ∈ pw) => atoms_spec (ws := Cond.code yX7_grow cX7_grow 2 (some .int) :: pw) B.pre w (List.mem_cons_of_mem _ h)
  have hown : s.vm.findClass RX7 = some m.cls := findClass_of_methodNamed B.named
  have hlocks := B.notSynchronized
  subst hsz
  have hBB : 999 ≤ tm.2 ∧ tm.2 ≤ 6000000 := hI.2.2.2.2.1
  have dn_I : (∀ b, K b = 0 ∨ K b = 1 ∨ K b = 3 ∨ K b = 6 → I b = I b) := fun _ _ => rfl
  have dj_J : (∀ b, ¬ (K b = 21 ∨ K b = 22 ∨ K b = 33 ∨ K b = 34) → J b = J b) := fun _ _ => rfl
  obtain ⟨A, hAe⟩ : ∃ A : Nat → Prop, A = (fun q => q ∈ L ∨ s.heap.size ≤ q) := ⟨_, rfl⟩
  rw [← hAe]
  have hAL : ∀ q, q ∈ L → A q := fun q h => by rw [hAe]; exact Or.inl h
  have hA : ∀ q, s.heap.size ≤ q → A q := fun q h => by rw [hAe]; exact Or.inr h
  have hD : ∀ F, va_D A (va_pl L F) := fun F => (hD0 F).weaken (fun k q hk _ => hAL _ (pl_mem hk))
  obtain ⟨H, hHe⟩ : ∃ H : Heap, H = s.heap := ⟨_, rfl⟩
  have hS : va_S A s.heap H [] := by rw [hHe]; exact va_S.rf
  rw [← hHe] at hP
  have hl := lv_entry ([.ref p0, .int p1]) (n := 2) (Nat.le_of_ble_eq_true rfl)
  rw [lg_entry_eq]
  generalize (lg_sl ([.ref p0, .int p1]) ++ List.replicate (2 - (lg_sl ([.ref p0, .int p1])).length) Slot.unset).toArray = ls at hl ⊢
  have hl : lv_has ls 2 [(0, .ref p0), (1, .int p1)] := hl
  rw [← hHe]
  refine namedW (fun R Qz hR hQz => ?_)
  refine lv_aload_n hx hb dX7_grow_0 rfl (lv_at hl 0 rfl) ?_
  refine lv_iload_n hx hb dX7_grow_1 rfl (lv_at hl 1 rfl) ?_
  refine lv_iconst (v := 1) hx hb dX7_grow_2 (by decide +kernel) ?_
  refine sw_i (Z := (fun I1 J1 => Iv L K x0 m0 tx tm I1 ∧ (∀ b, K b = 0 ∨ K b = 1 ∨ K b = 3 ∨ K b = 6 → I1 b = I b) ∧ (∀ σ : Sx, okF σ.1 → cmA Q I J p0 σ → cmA Q I1 J1 p0 (chA σ p1 (mkw (chD (1 : Int32).toInt (mW σ p1).toInt (mH σ p1).toInt (mF σ p1))) (decide (¬ (1 : Int32).toInt = 0))).2) ∧ (∀ b, ¬ (K b = 21 ∨ K b = 22 ∨ K b = 33 ∨ K b = 34) → J1 b = J b))) (va_runV (As := [.int p1, .int 1]) (rest := []) ⟨hx, hb, hml, hown, hts⟩ (s_X7_changes l dC dI cs L K G Q hQ x0 m0 tx tm H.size I J hI p0 hLp0 hKp0 p1 1 ⟨by decide +kernel, by decide +kernel⟩) (cwV 2 hts (gV pq1387 pq1389 pq35 pq81 pq1390) rfl rfl rfl (by decide +kernel) ⟨(by rw [hR]; exact (Nat.le_of_ble_eq_true rfl)), (by rw [hR]; exact (Nat.le_of_ble_eq_true rfl))⟩) (sP_V hP hD hK hN hLp0 hKp0 rfl rfl) rfl rfl hl.1 rfl (lv_room (Nat.le_of_ble_eq_true rfl)) dX7_grow_3 ⟨(by rw [hR]; exact (Nat.le_of_ble_eq_true rfl)), (by rw [hR]; exact (Nat.le_of_ble_eq_true rfl))⟩) hS hAL hA (fun z3 Iz3 Jz3 H locs hz3 hIz3 hP hS => ?_)
  obtain ⟨hIz3, dnc3, jz3, djc3⟩ := hIz3
  have dj_Jz3 : (∀ b, ¬ (K b = 21 ∨ K b = 22 ∨ K b = 33 ∨ K b = 34) → Jz3 b = J b) := fun b hc => (djc3 b (fun z => hc (by omega))).trans (dj_J b hc)
  have dn_Iz3 : (∀ b, K b = 0 ∨ K b = 1 ∨ K b = 3 ∨ K b = 6 → Iz3 b = I b) := fun b hc => (dnc3 b (by omega)).trans (dn_I b hc)
  have cst3_1 : (1 : Int32).toInt = 1 := by decide +kernel
  have xpz3 := hz3
  try rw [cst3_1] at xpz3
  subst hR; subst hQz
  exact W.iret (v := z3) hx hb hr (fun t ht hW => ⟨⟨z3, (), rfl, (fun σ ok A => by rw [← chA_g σ p1 (mW σ p1).toInt (mH σ p1).toInt (mF σ p1)]; have q := xpz3 σ ok A; (try rw [show (1 : Int32).toInt = 1 from by decide +kernel] at q); exact q), ⟨Iz3, Jz3, ⟨hIz3, dn_Iz3, (fun σ ok A => by rw [← chA_g σ p1 (mW σ p1).toInt (mH σ p1).toInt (mF σ p1)]; have q := jz3 σ ok A; (try rw [show (1 : Int32).toInt = 1 from by decide +kernel] at q); exact q), dj_Jz3⟩, by rw [ht]; exact hP⟩⟩, hS.F ht⟩) hS.2.2 dX7_grow_6
