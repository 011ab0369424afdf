def yX7_boxesMeet : MethodName := ⟨RX7, "boxesMeet", "(II)Z"⟩
def yX7_hasBox : MethodName := ⟨RX7, "hasBox", "(I)Z"⟩
abbrev cX7_boxesMeet : ByteArray := prog_9_method_97_code
abbrev cX7_hasBox : ByteArray := prog_9_method_96_code
abbrev cX7_ray : ByteArray := prog_9_method_108_code
abbrev cX7_reach : ByteArray := prog_9_method_103_code
abbrev cX7_sieve : ByteArray := prog_9_method_98_code
def yX7_ray : MethodName := ⟨RX7, "ray", "(IIII)I"⟩
def yX7_reach : MethodName := ⟨RX7, "reach", "(IIII)I"⟩
def yX7_sieve : MethodName := ⟨RX7, "sieve", "(I)I"⟩
theorem dX7_boxesMeet_0 : decode cX7_boxesMeet 0 = .ok (.aload_n 0, 1) := by decide +kernel
theorem dX7_boxesMeet_1 : decode cX7_boxesMeet 1 = .ok (.iload_n 1, 1) := by decide +kernel
theorem dX7_boxesMeet_2 : decode cX7_boxesMeet 2 = .ok (.invokevirtual 391, 3) := by decide +kernel
theorem dX7_boxesMeet_5 : decode cX7_boxesMeet 5 = .ok (.ifCond .ne 5, 3) := by decide +kernel
theorem dX7_boxesMeet_8 : decode cX7_boxesMeet 8 = .ok (.iconst 0, 1) := by decide +kernel
theorem dX7_boxesMeet_9 : decode cX7_boxesMeet 9 = .ok (.ireturn, 1) := by decide +kernel
theorem dX7_boxesMeet_10 : decode cX7_boxesMeet 10 = .ok (.aload_n 0, 1) := by decide +kernel
theorem dX7_boxesMeet_11 : decode cX7_boxesMeet 11 = .ok (.getfield 64, 3) := by decide +kernel
theorem dX7_boxesMeet_14 : decode cX7_boxesMeet 14 = .ok (.iconst 0, 1) := by decide +kernel
theorem dX7_boxesMeet_15 : decode cX7_boxesMeet 15 = .ok (.iaload, 1) := by decide +kernel
theorem dX7_boxesMeet_16 : decode cX7_boxesMeet 16 = .ok (.istore_n 3, 1) := by decide +kernel
theorem dX7_boxesMeet_17 : decode cX7_boxesMeet 17 = .ok (.aload_n 0, 1) := by decide +kernel
theorem dX7_boxesMeet_18 : decode cX7_boxesMeet 18 = .ok (.getfield 64, 3) := by decide +kernel
theorem dX7_boxesMeet_21 : decode cX7_boxesMeet 21 = .ok (.iconst 1, 1) := by decide +kernel
theorem dX7_boxesMeet_22 : decode cX7_boxesMeet 22 = .ok (.iaload, 1) := by decide +kernel
theorem dX7_boxesMeet_23 : decode cX7_boxesMeet 23 = .ok (.istore 4, 2) := by decide +kernel
theorem dX7_boxesMeet_25 : decode cX7_boxesMeet 25 = .ok (.aload_n 0, 1) := by decide +kernel
theorem dX7_boxesMeet_26 : decode cX7_boxesMeet 26 = .ok (.getfield 64, 3) := by decide +kernel
theorem dX7_boxesMeet_29 : decode cX7_boxesMeet 29 = .ok (.iconst 2, 1) := by decide +kernel
theorem dX7_boxesMeet_30 : decode cX7_boxesMeet 30 = .ok (.iaload, 1) := by decide +kernel
theorem dX7_boxesMeet_31 : decode cX7_boxesMeet 31 = .ok (.istore 5, 2) := by decide +kernel
theorem dX7_boxesMeet_33 : decode cX7_boxesMeet 33 = .ok (.aload_n 0, 1) := by decide +kernel
theorem dX7_boxesMeet_34 : decode cX7_boxesMeet 34 = .ok (.getfield 64, 3) := by decide +kernel
theorem dX7_boxesMeet_37 : decode cX7_boxesMeet 37 = .ok (.iconst 3, 1) := by decide +kernel
theorem dX7_boxesMeet_38 : decode cX7_boxesMeet 38 = .ok (.iaload, 1) := by decide +kernel
theorem dX7_boxesMeet_39 : decode cX7_boxesMeet 39 = .ok (.istore 6, 2) := by decide +kernel
theorem dX7_boxesMeet_41 : decode cX7_boxesMeet 41 = .ok (.aload_n 0, 1) := by decide +kernel
theorem dX7_boxesMeet_42 : decode cX7_boxesMeet 42 = .ok (.iload_n 2, 1) := by decide +kernel
theorem dX7_boxesMeet_43 : decode cX7_boxesMeet 43 = .ok (.invokevirtual 391, 3) := by decide +kernel
theorem dX7_boxesMeet_46 : decode cX7_boxesMeet 46 = .ok (.ifCond .eq 50, 3) := by decide +kernel
theorem dX7_boxesMeet_49 : decode cX7_boxesMeet 49 = .ok (.aload_n 0, 1) := by decide +kernel
theorem dX7_boxesMeet_50 : decode cX7_boxesMeet 50 = .ok (.getfield 64, 3) := by decide +kernel
theorem dX7_boxesMeet_53 : decode cX7_boxesMeet 53 = .ok (.iconst 0, 1) := by decide +kernel
theorem dX7_boxesMeet_54 : decode cX7_boxesMeet 54 = .ok (.iaload, 1) := by decide +kernel
theorem dX7_boxesMeet_55 : decode cX7_boxesMeet 55 = .ok (.iload 5, 2) := by decide +kernel
theorem dX7_boxesMeet_57 : decode cX7_boxesMeet 57 = .ok (.if_icmp .gt 39, 3) := by decide +kernel
theorem dX7_boxesMeet_60 : decode cX7_boxesMeet 60 = .ok (.aload_n 0, 1) := by decide +kernel
theorem dX7_boxesMeet_61 : decode cX7_boxesMeet 61 = .ok (.getfield 64, 3) := by decide +kernel
theorem dX7_boxesMeet_64 : decode cX7_boxesMeet 64 = .ok (.iconst 2, 1) := by decide +kernel
theorem dX7_boxesMeet_65 : decode cX7_boxesMeet 65 = .ok (.iaload, 1) := by decide +kernel
theorem dX7_boxesMeet_66 : decode cX7_boxesMeet 66 = .ok (.iload_n 3, 1) := by decide +kernel
theorem dX7_boxesMeet_67 : decode cX7_boxesMeet 67 = .ok (.if_icmp .lt 29, 3) := by decide +kernel
theorem dX7_boxesMeet_70 : decode cX7_boxesMeet 70 = .ok (.aload_n 0, 1) := by decide +kernel
theorem dX7_boxesMeet_71 : decode cX7_boxesMeet 71 = .ok (.getfield 64, 3) := by decide +kernel
theorem dX7_boxesMeet_74 : decode cX7_boxesMeet 74 = .ok (.iconst 1, 1) := by decide +kernel
theorem dX7_boxesMeet_75 : decode cX7_boxesMeet 75 = .ok (.iaload, 1) := by decide +kernel
theorem dX7_boxesMeet_76 : decode cX7_boxesMeet 76 = .ok (.iload 6, 2) := by decide +kernel
theorem dX7_boxesMeet_78 : decode cX7_boxesMeet 78 = .ok (.if_icmp .gt 18, 3) := by decide +kernel
theorem dX7_boxesMeet_81 : decode cX7_boxesMeet 81 = .ok (.aload_n 0, 1) := by decide +kernel
theorem dX7_boxesMeet_82 : decode cX7_boxesMeet 82 = .ok (.getfield 64, 3) := by decide +kernel
theorem dX7_boxesMeet_85 : decode cX7_boxesMeet 85 = .ok (.iconst 3, 1) := by decide +kernel
theorem dX7_boxesMeet_86 : decode cX7_boxesMeet 86 = .ok (.iaload, 1) := by decide +kernel
theorem dX7_boxesMeet_87 : decode cX7_boxesMeet 87 = .ok (.iload 4, 2) := by decide +kernel
theorem dX7_boxesMeet_89 : decode cX7_boxesMeet 89 = .ok (.if_icmp .lt 7, 3) := by decide +kernel
theorem dX7_boxesMeet_92 : decode cX7_boxesMeet 92 = .ok (.iconst 1, 1) := by decide +kernel
theorem dX7_boxesMeet_93 : decode cX7_boxesMeet 93 = .ok (.goto 4, 3) := by decide +kernel
theorem dX7_boxesMeet_96 : decode cX7_boxesMeet 96 = .ok (.iconst 0, 1) := by decide +kernel
theorem dX7_boxesMeet_97 : decode cX7_boxesMeet 97 = .ok (.ireturn, 1) := by decide +kernel
theorem dX7_hasBox_0 : decode cX7_hasBox 0 = .ok (.aload_n 0, 1) := by decide +kernel
theorem dX7_hasBox_1 : decode cX7_hasBox 1 = .ok (.iload_n 1, 1) := by decide +kernel
theorem dX7_hasBox_2 : decode cX7_hasBox 2 = .ok (.invokevirtual 212, 3) := by decide +kernel
theorem dX7_hasBox_5 : decode cX7_hasBox 5 = .ok (.istore_n 2, 1) := by decide +kernel
theorem dX7_hasBox_6 : decode cX7_hasBox 6 = .ok (.aload_n 0, 1) := by decide +kernel
theorem dX7_hasBox_7 : decode cX7_hasBox 7 = .ok (.iload_n 2, 1) := by decide +kernel
theorem dX7_hasBox_8 : decode cX7_hasBox 8 = .ok (.invokevirtual 346, 3) := by decide +kernel
theorem dX7_hasBox_11 : decode cX7_hasBox 11 = .ok (.ifCond .ne 5, 3) := by decide +kernel
theorem dX7_hasBox_14 : decode cX7_hasBox 14 = .ok (.iconst 0, 1) := by decide +kernel
theorem dX7_hasBox_15 : decode cX7_hasBox 15 = .ok (.ireturn, 1) := by decide +kernel
theorem dX7_hasBox_16 : decode cX7_hasBox 16 = .ok (.aload_n 0, 1) := by decide +kernel
theorem dX7_hasBox_17 : decode cX7_hasBox 17 = .ok (.getfield 64, 3) := by decide +kernel
theorem dX7_hasBox_20 : decode cX7_hasBox 20 = .ok (.iconst 0, 1) := by decide +kernel
theorem dX7_hasBox_21 : decode cX7_hasBox 21 = .ok (.aload_n 0, 1) := by decide +kernel
theorem dX7_hasBox_22 : decode cX7_hasBox 22 = .ok (.iload_n 1, 1) := by decide +kernel
theorem dX7_hasBox_23 : decode cX7_hasBox 23 = .ok (.iconst 1, 1) := by decide +kernel
theorem dX7_hasBox_24 : decode cX7_hasBox 24 = .ok (.invokevirtual 199, 3) := by decide +kernel
theorem dX7_hasBox_27 : decode cX7_hasBox 27 = .ok (.aload_n 0, 1) := by decide +kernel
theorem dX7_hasBox_28 : decode cX7_hasBox 28 = .ok (.iload_n 2, 1) := by decide +kernel
theorem dX7_hasBox_29 : decode cX7_hasBox 29 = .ok (.iload_n 1, 1) := by decide +kernel
theorem dX7_hasBox_30 : decode cX7_hasBox 30 = .ok (.invokevirtual 349, 3) := by decide +kernel
theorem dX7_hasBox_33 : decode cX7_hasBox 33 = .ok (.iadd, 1) := by decide +kernel
theorem dX7_hasBox_34 : decode cX7_hasBox 34 = .ok (.iastore, 1) := by decide +kernel
theorem dX7_hasBox_35 : decode cX7_hasBox 35 = .ok (.aload_n 0, 1) := by decide +kernel
theorem dX7_hasBox_36 : decode cX7_hasBox 36 = .ok (.getfield 64, 3) := by decide +kernel
theorem dX7_hasBox_39 : decode cX7_hasBox 39 = .ok (.iconst 1, 1) := by decide +kernel
theorem dX7_hasBox_40 : decode cX7_hasBox 40 = .ok (.aload_n 0, 1) := by decide +kernel
theorem dX7_hasBox_41 : decode cX7_hasBox 41 = .ok (.iload_n 1, 1) := by decide +kernel
theorem dX7_hasBox_42 : decode cX7_hasBox 42 = .ok (.iconst 2, 1) := by decide +kernel
theorem dX7_hasBox_43 : decode cX7_hasBox 43 = .ok (.invokevirtual 199, 3) := by decide +kernel
theorem dX7_hasBox_46 : decode cX7_hasBox 46 = .ok (.aload_n 0, 1) := by decide +kernel
theorem dX7_hasBox_47 : decode cX7_hasBox 47 = .ok (.iload_n 2, 1) := by decide +kernel
theorem dX7_hasBox_48 : decode cX7_hasBox 48 = .ok (.iload_n 1, 1) := by decide +kernel
theorem dX7_hasBox_49 : decode cX7_hasBox 49 = .ok (.invokevirtual 352, 3) := by decide +kernel
theorem dX7_hasBox_52 : decode cX7_hasBox 52 = .ok (.iadd, 1) := by decide +kernel
theorem dX7_hasBox_53 : decode cX7_hasBox 53 = .ok (.iastore, 1) := by decide +kernel
theorem dX7_hasBox_54 : decode cX7_hasBox 54 = .ok (.aload_n 0, 1) := by decide +kernel
theorem dX7_hasBox_55 : decode cX7_hasBox 55 = .ok (.getfield 64, 3) := by decide +kernel
theorem dX7_hasBox_58 : decode cX7_hasBox 58 = .ok (.iconst 2, 1) := by decide +kernel
theorem dX7_hasBox_59 : decode cX7_hasBox 59 = .ok (.aload_n 0, 1) := by decide +kernel
theorem dX7_hasBox_60 : decode cX7_hasBox 60 = .ok (.getfield 64, 3) := by decide +kernel
theorem dX7_hasBox_63 : decode cX7_hasBox 63 = .ok (.iconst 0, 1) := by decide +kernel
theorem dX7_hasBox_64 : decode cX7_hasBox 64 = .ok (.iaload, 1) := by decide +kernel
theorem dX7_hasBox_65 : decode cX7_hasBox 65 = .ok (.aload_n 0, 1) := by decide +kernel
theorem dX7_hasBox_66 : decode cX7_hasBox 66 = .ok (.getfield 55, 3) := by decide +kernel
theorem dX7_hasBox_69 : decode cX7_hasBox 69 = .ok (.iconst 2, 1) := by decide +kernel
theorem dX7_hasBox_70 : decode cX7_hasBox 70 = .ok (.iaload, 1) := by decide +kernel
theorem dX7_hasBox_71 : decode cX7_hasBox 71 = .ok (.iadd, 1) := by decide +kernel
theorem dX7_hasBox_72 : decode cX7_hasBox 72 = .ok (.aload_n 0, 1) := by decide +kernel
theorem dX7_hasBox_73 : decode cX7_hasBox 73 = .ok (.getfield 55, 3) := by decide +kernel
theorem dX7_hasBox_76 : decode cX7_hasBox 76 = .ok (.iconst 0, 1) := by decide +kernel
theorem dX7_hasBox_77 : decode cX7_hasBox 77 = .ok (.iaload, 1) := by decide +kernel
theorem dX7_hasBox_78 : decode cX7_hasBox 78 = .ok (.isub, 1) := by decide +kernel
theorem dX7_hasBox_79 : decode cX7_hasBox 79 = .ok (.iastore, 1) := by decide +kernel
theorem dX7_hasBox_80 : decode cX7_hasBox 80 = .ok (.aload_n 0, 1) := by decide +kernel
theorem dX7_hasBox_81 : decode cX7_hasBox 81 = .ok (.getfield 64, 3) := by decide +kernel
theorem dX7_hasBox_84 : decode cX7_hasBox 84 = .ok (.iconst 3, 1) := by decide +kernel
theorem dX7_hasBox_85 : decode cX7_hasBox 85 = .ok (.aload_n 0, 1) := by decide +kernel
theorem dX7_hasBox_86 : decode cX7_hasBox 86 = .ok (.getfield 64, 3) := by decide +kernel
theorem dX7_hasBox_89 : decode cX7_hasBox 89 = .ok (.iconst 1, 1) := by decide +kernel
theorem dX7_hasBox_90 : decode cX7_hasBox 90 = .ok (.iaload, 1) := by decide +kernel
theorem dX7_hasBox_91 : decode cX7_hasBox 91 = .ok (.aload_n 0, 1) := by decide +kernel
theorem dX7_hasBox_92 : decode cX7_hasBox 92 = .ok (.getfield 55, 3) := by decide +kernel
theorem dX7_hasBox_95 : decode cX7_hasBox 95 = .ok (.iconst 3, 1) := by decide +kernel
theorem dX7_hasBox_96 : decode cX7_hasBox 96 = .ok (.iaload, 1) := by decide +kernel
theorem dX7_hasBox_97 : decode cX7_hasBox 97 = .ok (.iadd, 1) := by decide +kernel
theorem dX7_hasBox_98 : decode cX7_hasBox 98 = .ok (.aload_n 0, 1) := by decide +kernel
theorem dX7_hasBox_99 : decode cX7_hasBox 99 = .ok (.getfield 55, 3) := by decide +kernel
theorem dX7_hasBox_102 : decode cX7_hasBox 102 = .ok (.iconst 1, 1) := by decide +kernel
theorem dX7_hasBox_103 : decode cX7_hasBox 103 = .ok (.iaload, 1) := by decide +kernel
theorem dX7_hasBox_104 : decode cX7_hasBox 104 = .ok (.isub, 1) := by decide +kernel
theorem dX7_hasBox_105 : decode cX7_hasBox 105 = .ok (.iastore, 1) := by decide +kernel
theorem dX7_hasBox_106 : decode cX7_hasBox 106 = .ok (.iconst 1, 1) := by decide +kernel
theorem dX7_hasBox_107 : decode cX7_hasBox 107 = .ok (.ireturn, 1) := by decide +kernel
theorem dX7_ray_0 : decode cX7_ray 0 = .ok (.iload_n 1, 1) := by decide +kernel
theorem dX7_ray_1 : decode cX7_ray 1 = .ok (.i2l, 1) := by decide +kernel
theorem dX7_ray_2 : decode cX7_ray 2 = .ok (.ldc2_w 405, 3) := by decide +kernel
theorem dX7_ray_5 : decode cX7_ray 5 = .ok (.ldc2_w 407, 3) := by decide +kernel
theorem dX7_ray_8 : decode cX7_ray 8 = .ok (.invokestatic 96, 3) := by decide +kernel
theorem dX7_ray_11 : decode cX7_ray 11 = .ok (.ifCond .eq 46, 3) := by decide +kernel
theorem dX7_ray_14 : decode cX7_ray 14 = .ok (.iload_n 2, 1) := by decide +kernel
theorem dX7_ray_15 : decode cX7_ray 15 = .ok (.i2l, 1) := by decide +kernel
theorem dX7_ray_16 : decode cX7_ray 16 = .ok (.ldc2_w 405, 3) := by decide +kernel
theorem dX7_ray_19 : decode cX7_ray 19 = .ok (.ldc2_w 407, 3) := by decide +kernel
theorem dX7_ray_22 : decode cX7_ray 22 = .ok (.invokestatic 96, 3) := by decide +kernel
theorem dX7_ray_25 : decode cX7_ray 25 = .ok (.ifCond .eq 32, 3) := by decide +kernel
theorem dX7_ray_28 : decode cX7_ray 28 = .ok (.iload_n 3, 1) := by decide +kernel
theorem dX7_ray_29 : decode cX7_ray 29 = .ok (.i2l, 1) := by decide +kernel
theorem dX7_ray_30 : decode cX7_ray 30 = .ok (.ldc2_w 409, 3) := by decide +kernel
theorem dX7_ray_33 : decode cX7_ray 33 = .ok (.ldc2_w 402, 3) := by decide +kernel
theorem dX7_ray_36 : decode cX7_ray 36 = .ok (.invokestatic 96, 3) := by decide +kernel
theorem dX7_ray_39 : decode cX7_ray 39 = .ok (.ifCond .eq 18, 3) := by decide +kernel
theorem dX7_ray_42 : decode cX7_ray 42 = .ok (.iload 4, 2) := by decide +kernel
theorem dX7_ray_44 : decode cX7_ray 44 = .ok (.i2l, 1) := by decide +kernel
theorem dX7_ray_45 : decode cX7_ray 45 = .ok (.ldc2_w 409, 3) := by decide +kernel
theorem dX7_ray_48 : decode cX7_ray 48 = .ok (.ldc2_w 402, 3) := by decide +kernel
theorem dX7_ray_51 : decode cX7_ray 51 = .ok (.invokestatic 96, 3) := by decide +kernel
theorem dX7_ray_54 : decode cX7_ray 54 = .ok (.ifCond .ne 5, 3) := by decide +kernel
theorem dX7_ray_57 : decode cX7_ray 57 = .ok (.iconst (-1), 1) := by decide +kernel
theorem dX7_ray_58 : decode cX7_ray 58 = .ok (.ireturn, 1) := by decide +kernel
theorem dX7_ray_59 : decode cX7_ray 59 = .ok (.iload_n 3, 1) := by decide +kernel
theorem dX7_ray_60 : decode cX7_ray 60 = .ok (.iload 4, 2) := by decide +kernel
theorem dX7_ray_62 : decode cX7_ray 62 = .ok (.invokestatic 260, 3) := by decide +kernel
theorem dX7_ray_65 : decode cX7_ray 65 = .ok (.istore 5, 2) := by decide +kernel
theorem dX7_ray_67 : decode cX7_ray 67 = .ok (.iconst 0, 1) := by decide +kernel
theorem dX7_ray_68 : decode cX7_ray 68 = .ok (.istore 6, 2) := by decide +kernel
theorem dX7_ray_70 : decode cX7_ray 70 = .ok (.iload 6, 2) := by decide +kernel
theorem dX7_ray_72 : decode cX7_ray 72 = .ok (.iload 5, 2) := by decide +kernel
theorem dX7_ray_74 : decode cX7_ray 74 = .ok (.if_icmp .gt 76, 3) := by decide +kernel
theorem dX7_ray_77 : decode cX7_ray 77 = .ok (.aload_n 0, 1) := by decide +kernel
theorem dX7_ray_78 : decode cX7_ray 78 = .ok (.iload_n 1, 1) := by decide +kernel
theorem dX7_ray_79 : decode cX7_ray 79 = .ok (.iload 6, 2) := by decide +kernel
theorem dX7_ray_81 : decode cX7_ray 81 = .ok (.iload_n 3, 1) := by decide +kernel
theorem dX7_ray_82 : decode cX7_ray 82 = .ok (.iload 5, 2) := by decide +kernel
theorem dX7_ray_84 : decode cX7_ray 84 = .ok (.invokestatic 269, 3) := by decide +kernel
theorem dX7_ray_87 : decode cX7_ray 87 = .ok (.iadd, 1) := by decide +kernel
theorem dX7_ray_88 : decode cX7_ray 88 = .ok (.iload_n 2, 1) := by decide +kernel
theorem dX7_ray_89 : decode cX7_ray 89 = .ok (.iload 6, 2) := by decide +kernel
theorem dX7_ray_91 : decode cX7_ray 91 = .ok (.iload 4, 2) := by decide +kernel
theorem dX7_ray_93 : decode cX7_ray 93 = .ok (.iload 5, 2) := by decide +kernel
theorem dX7_ray_95 : decode cX7_ray 95 = .ok (.invokestatic 269, 3) := by decide +kernel
theorem dX7_ray_98 : decode cX7_ray 98 = .ok (.iadd, 1) := by decide +kernel
theorem dX7_ray_99 : decode cX7_ray 99 = .ok (.invokevirtual 399, 3) := by decide +kernel
theorem dX7_ray_102 : decode cX7_ray 102 = .ok (.istore 7, 2) := by decide +kernel
theorem dX7_ray_104 : decode cX7_ray 104 = .ok (.iconst 0, 1) := by decide +kernel
theorem dX7_ray_105 : decode cX7_ray 105 = .ok (.istore 8, 2) := by decide +kernel
theorem dX7_ray_107 : decode cX7_ray 107 = .ok (.iload 8, 2) := by decide +kernel
theorem dX7_ray_109 : decode cX7_ray 109 = .ok (.aload_n 0, 1) := by decide +kernel
theorem dX7_ray_110 : decode cX7_ray 110 = .ok (.getfield 9, 3) := by decide +kernel
theorem dX7_ray_113 : decode cX7_ray 113 = .ok (.iconst 1, 1) := by decide +kernel
theorem dX7_ray_114 : decode cX7_ray 114 = .ok (.iaload, 1) := by decide +kernel
theorem dX7_ray_115 : decode cX7_ray 115 = .ok (.if_icmp .ge 29, 3) := by decide +kernel
theorem dX7_ray_118 : decode cX7_ray 118 = .ok (.iload 7, 2) := by decide +kernel
theorem dX7_ray_120 : decode cX7_ray 120 = .ok (.iload 8, 2) := by decide +kernel
theorem dX7_ray_122 : decode cX7_ray 122 = .ok (.ishr, 1) := by decide +kernel
theorem dX7_ray_123 : decode cX7_ray 123 = .ok (.iconst 1, 1) := by decide +kernel
theorem dX7_ray_124 : decode cX7_ray 124 = .ok (.iand, 1) := by decide +kernel
theorem dX7_ray_125 : decode cX7_ray 125 = .ok (.iconst 1, 1) := by decide +kernel
theorem dX7_ray_126 : decode cX7_ray 126 = .ok (.if_icmp .ne 12, 3) := by decide +kernel
theorem dX7_ray_129 : decode cX7_ray 129 = .ok (.bipush 100, 2) := by decide +kernel
theorem dX7_ray_131 : decode cX7_ray 131 = .ok (.iload 6, 2) := by decide +kernel
theorem dX7_ray_133 : decode cX7_ray 133 = .ok (.imul, 1) := by decide +kernel
theorem dX7_ray_134 : decode cX7_ray 134 = .ok (.iload 8, 2) := by decide +kernel
theorem dX7_ray_136 : decode cX7_ray 136 = .ok (.iadd, 1) := by decide +kernel
theorem dX7_ray_137 : decode cX7_ray 137 = .ok (.ireturn, 1) := by decide +kernel
theorem dX7_ray_138 : decode cX7_ray 138 = .ok (.iinc 8 1, 3) := by decide +kernel
theorem dX7_ray_141 : decode cX7_ray 141 = .ok (.goto (-34), 3) := by decide +kernel
theorem dX7_ray_144 : decode cX7_ray 144 = .ok (.iinc 6 1, 3) := by decide +kernel
theorem dX7_ray_147 : decode cX7_ray 147 = .ok (.goto (-77), 3) := by decide +kernel
theorem dX7_ray_150 : decode cX7_ray 150 = .ok (.bipush (-2), 2) := by decide +kernel
theorem dX7_ray_152 : decode cX7_ray 152 = .ok (.ireturn, 1) := by decide +kernel
theorem dX7_reach_0 : decode cX7_reach 0 = .ok (.aload_n 0, 1) := by decide +kernel
theorem dX7_reach_1 : decode cX7_reach 1 = .ok (.iload_n 1, 1) := by decide +kernel
theorem dX7_reach_2 : decode cX7_reach 2 = .ok (.invokevirtual 196, 3) := by decide +kernel
theorem dX7_reach_5 : decode cX7_reach 5 = .ok (.ifCond .eq 22, 3) := by decide +kernel
theorem dX7_reach_8 : decode cX7_reach 8 = .ok (.iload_n 2, 1) := by decide +kernel
theorem dX7_reach_9 : decode cX7_reach 9 = .ok (.iload_n 3, 1) := by decide +kernel
theorem dX7_reach_10 : decode cX7_reach 10 = .ok (.invokestatic 328, 3) := by decide +kernel
theorem dX7_reach_13 : decode cX7_reach 13 = .ok (.ifCond .eq 14, 3) := by decide +kernel
theorem dX7_reach_16 : decode cX7_reach 16 = .ok (.iload 4, 2) := by decide +kernel
theorem dX7_reach_18 : decode cX7_reach 18 = .ok (.i2l, 1) := by decide +kernel
theorem dX7_reach_19 : decode cX7_reach 19 = .ok (.lconst 0, 1) := by decide +kernel
theorem dX7_reach_20 : decode cX7_reach 20 = .ok (.lconst 1, 1) := by decide +kernel
theorem dX7_reach_21 : decode cX7_reach 21 = .ok (.invokestatic 96, 3) := by decide +kernel
theorem dX7_reach_24 : decode cX7_reach 24 = .ok (.ifCond .ne 5, 3) := by decide +kernel
theorem dX7_reach_27 : decode cX7_reach 27 = .ok (.iconst (-1), 1) := by decide +kernel
theorem dX7_reach_28 : decode cX7_reach 28 = .ok (.ireturn, 1) := by decide +kernel
theorem dX7_reach_29 : decode cX7_reach 29 = .ok (.aload_n 0, 1) := by decide +kernel
theorem dX7_reach_30 : decode cX7_reach 30 = .ok (.invokevirtual 331, 3) := by decide +kernel
theorem dX7_reach_33 : decode cX7_reach 33 = .ok (.aload_n 0, 1) := by decide +kernel
theorem dX7_reach_34 : decode cX7_reach 34 = .ok (.iload_n 1, 1) := by decide +kernel
theorem dX7_reach_35 : decode cX7_reach 35 = .ok (.iload_n 2, 1) := by decide +kernel
theorem dX7_reach_36 : decode cX7_reach 36 = .ok (.iload_n 3, 1) := by decide +kernel
theorem dX7_reach_37 : decode cX7_reach 37 = .ok (.invokevirtual 280, 3) := by decide +kernel
theorem dX7_reach_40 : decode cX7_reach 40 = .ok (.istore 5, 2) := by decide +kernel
theorem dX7_reach_42 : decode cX7_reach 42 = .ok (.iload 4, 2) := by decide +kernel
theorem dX7_reach_44 : decode cX7_reach 44 = .ok (.ifCond .ne 8, 3) := by decide +kernel
theorem dX7_reach_47 : decode cX7_reach 47 = .ok (.iload 5, 2) := by decide +kernel
theorem dX7_reach_49 : decode cX7_reach 49 = .ok (.goto 7, 3) := by decide +kernel
theorem dX7_reach_52 : decode cX7_reach 52 = .ok (.aload_n 0, 1) := by decide +kernel
theorem dX7_reach_53 : decode cX7_reach 53 = .ok (.getfield 266, 3) := by decide +kernel
theorem dX7_reach_56 : decode cX7_reach 56 = .ok (.ireturn, 1) := by decide +kernel
theorem dX7_sieve_0 : decode cX7_sieve 0 = .ok (.iload_n 1, 1) := by decide +kernel
theorem dX7_sieve_1 : decode cX7_sieve 1 = .ok (.i2l, 1) := by decide +kernel
theorem dX7_sieve_2 : decode cX7_sieve 2 = .ok (.lconst 0, 1) := by decide +kernel
theorem dX7_sieve_3 : decode cX7_sieve 3 = .ok (.ldc2_w 394, 3) := by decide +kernel
theorem dX7_sieve_6 : decode cX7_sieve 6 = .ok (.invokestatic 96, 3) := by decide +kernel
theorem dX7_sieve_9 : decode cX7_sieve 9 = .ok (.ifCond .ne 5, 3) := by decide +kernel
theorem dX7_sieve_12 : decode cX7_sieve 12 = .ok (.iconst (-1), 1) := by decide +kernel
theorem dX7_sieve_13 : decode cX7_sieve 13 = .ok (.ireturn, 1) := by decide +kernel
theorem dX7_sieve_14 : decode cX7_sieve 14 = .ok (.aload_n 0, 1) := by decide +kernel
theorem dX7_sieve_15 : decode cX7_sieve 15 = .ok (.invokevirtual 331, 3) := by decide +kernel
theorem dX7_sieve_18 : decode cX7_sieve 18 = .ok (.iconst 0, 1) := by decide +kernel
theorem dX7_sieve_19 : decode cX7_sieve 19 = .ok (.istore_n 2, 1) := by decide +kernel
theorem dX7_sieve_20 : decode cX7_sieve 20 = .ok (.iconst 0, 1) := by decide +kernel
theorem dX7_sieve_21 : decode cX7_sieve 21 = .ok (.istore_n 3, 1) := by decide +kernel
theorem dX7_sieve_22 : decode cX7_sieve 22 = .ok (.iload_n 3, 1) := by decide +kernel
theorem dX7_sieve_23 : decode cX7_sieve 23 = .ok (.aload_n 0, 1) := by decide +kernel
theorem dX7_sieve_24 : decode cX7_sieve 24 = .ok (.getfield 9, 3) := by decide +kernel
theorem dX7_sieve_27 : decode cX7_sieve 27 = .ok (.iconst 1, 1) := by decide +kernel
theorem dX7_sieve_28 : decode cX7_sieve 28 = .ok (.iaload, 1) := by decide +kernel
theorem dX7_sieve_29 : decode cX7_sieve 29 = .ok (.if_icmp .ge 83, 3) := by decide +kernel
theorem dX7_sieve_32 : decode cX7_sieve 32 = .ok (.iload_n 3, 1) := by decide +kernel
theorem dX7_sieve_33 : decode cX7_sieve 33 = .ok (.iconst 1, 1) := by decide +kernel
theorem dX7_sieve_34 : decode cX7_sieve 34 = .ok (.iadd, 1) := by decide +kernel
theorem dX7_sieve_35 : decode cX7_sieve 35 = .ok (.istore 4, 2) := by decide +kernel
theorem dX7_sieve_37 : decode cX7_sieve 37 = .ok (.iload 4, 2) := by decide +kernel
theorem dX7_sieve_39 : decode cX7_sieve 39 = .ok (.aload_n 0, 1) := by decide +kernel
theorem dX7_sieve_40 : decode cX7_sieve 40 = .ok (.getfield 9, 3) := by decide +kernel
theorem dX7_sieve_43 : decode cX7_sieve 43 = .ok (.iconst 1, 1) := by decide +kernel
theorem dX7_sieve_44 : decode cX7_sieve 44 = .ok (.iaload, 1) := by decide +kernel
theorem dX7_sieve_45 : decode cX7_sieve 45 = .ok (.if_icmp .ge 61, 3) := by decide +kernel
theorem dX7_sieve_48 : decode cX7_sieve 48 = .ok (.iload_n 2, 1) := by decide +kernel
theorem dX7_sieve_49 : decode cX7_sieve 49 = .ok (.aload_n 0, 1) := by decide +kernel
theorem dX7_sieve_50 : decode cX7_sieve 50 = .ok (.iload_n 3, 1) := by decide +kernel
theorem dX7_sieve_51 : decode cX7_sieve 51 = .ok (.iload 4, 2) := by decide +kernel
theorem dX7_sieve_53 : decode cX7_sieve 53 = .ok (.invokevirtual 239, 3) := by decide +kernel
theorem dX7_sieve_56 : decode cX7_sieve 56 = .ok (.ifCond .eq 38, 3) := by decide +kernel
theorem dX7_sieve_59 : decode cX7_sieve 59 = .ok (.iload_n 1, 1) := by decide +kernel
theorem dX7_sieve_60 : decode cX7_sieve 60 = .ok (.ifCond .eq 30, 3) := by decide +kernel
theorem dX7_sieve_63 : decode cX7_sieve 63 = .ok (.aload_n 0, 1) := by decide +kernel
theorem dX7_sieve_64 : decode cX7_sieve 64 = .ok (.iload_n 3, 1) := by decide +kernel
theorem dX7_sieve_65 : decode cX7_sieve 65 = .ok (.iload 4, 2) := by decide +kernel
theorem dX7_sieve_67 : decode cX7_sieve 67 = .ok (.invokevirtual 396, 3) := by decide +kernel
theorem dX7_sieve_70 : decode cX7_sieve 70 = .ok (.ifCond .eq 24, 3) := by decide +kernel
theorem dX7_sieve_73 : decode cX7_sieve 73 = .ok (.iload_n 1, 1) := by decide +kernel
theorem dX7_sieve_74 : decode cX7_sieve 74 = .ok (.iconst 1, 1) := by decide +kernel
theorem dX7_sieve_75 : decode cX7_sieve 75 = .ok (.if_icmp .eq 15, 3) := by decide +kernel
theorem dX7_sieve_78 : decode cX7_sieve 78 = .ok (.aload_n 0, 1) := by decide +kernel
theorem dX7_sieve_79 : decode cX7_sieve 79 = .ok (.iload_n 3, 1) := by decide +kernel
theorem dX7_sieve_80 : decode cX7_sieve 80 = .ok (.iload 4, 2) := by decide +kernel
theorem dX7_sieve_82 : decode cX7_sieve 82 = .ok (.iconst 0, 1) := by decide +kernel
theorem dX7_sieve_83 : decode cX7_sieve 83 = .ok (.iconst 0, 1) := by decide +kernel
theorem dX7_sieve_84 : decode cX7_sieve 84 = .ok (.invokevirtual 243, 3) := by decide +kernel
theorem dX7_sieve_87 : decode cX7_sieve 87 = .ok (.ifCond .eq 7, 3) := by decide +kernel
theorem dX7_sieve_90 : decode cX7_sieve 90 = .ok (.iconst 1, 1) := by decide +kernel
theorem dX7_sieve_91 : decode cX7_sieve 91 = .ok (.goto 4, 3) := by decide +kernel
theorem dX7_sieve_94 : decode cX7_sieve 94 = .ok (.iconst 0, 1) := by decide +kernel
theorem dX7_sieve_95 : decode cX7_sieve 95 = .ok (.invokestatic 127, 3) := by decide +kernel
theorem dX7_sieve_98 : decode cX7_sieve 98 = .ok (.iadd, 1) := by decide +kernel
theorem dX7_sieve_99 : decode cX7_sieve 99 = .ok (.istore_n 2, 1) := by decide +kernel
theorem dX7_sieve_100 : decode cX7_sieve 100 = .ok (.iinc 4 1, 3) := by decide +kernel
theorem dX7_sieve_103 : decode cX7_sieve 103 = .ok (.goto (-66), 3) := by decide +kernel
theorem dX7_sieve_106 : decode cX7_sieve 106 = .ok (.iinc 3 1, 3) := by decide +kernel
theorem dX7_sieve_109 : decode cX7_sieve 109 = .ok (.goto (-87), 3) := by decide +kernel
theorem dX7_sieve_112 : decode cX7_sieve 112 = .ok (.iload_n 2, 1) := by decide +kernel
theorem dX7_sieve_113 : decode cX7_sieve 113 = .ok (.ireturn, 1) := by decide +kernel
set_option maxRecDepth 100000 in
theorem pq65 : Cond.selects RX7 yX7_boxesMeet yX7_boxesMeet ∈ pw := pw_mem (i := 65) (by decide +kernel) rfl
set_option maxRecDepth 100000 in
theorem pq66 : Cond.selects RX7 yX7_hasBox yX7_hasBox ∈ pw := pw_mem (i := 66) (by decide +kernel) rfl
set_option maxRecDepth 100000 in
theorem pq1140 : Cond.fieldLink RX7 64 "MaskTouchModel" "box" "[I" ∈ pw := pw_mem (i := 1140) (by decide +kernel) rfl
set_option maxRecDepth 100000 in
theorem pq1596 : Cond.methodLink RX7 396 yX7_boxesMeet ∈ pw := pw_mem (i := 1596) (by decide +kernel) rfl
set_option maxRecDepth 100000 in
theorem pq1598 : Cond.instanceMethod yX7_boxesMeet ∈ pw := pw_mem (i := 1598) (by decide +kernel) rfl
set_option maxRecDepth 100000 in
theorem pq1599 : Cond.code yX7_boxesMeet cX7_boxesMeet 7 (some .boolean) ∈ pw := pw_mem (i := 1599) (by rfl) rfl
set_option maxRecDepth 100000 in
theorem pq1600 : Cond.methodLink RX7 391 yX7_hasBox ∈ pw := pw_mem (i := 1600) (by decide +kernel) rfl
set_option maxRecDepth 100000 in
theorem pq1602 : Cond.instanceMethod yX7_hasBox ∈ pw := pw_mem (i := 1602) (by decide +kernel) rfl
set_option maxRecDepth 100000 in
theorem pq1603 : Cond.code yX7_hasBox cX7_hasBox 3 (some .boolean) ∈ pw := pw_mem (i := 1603) (by rfl) rfl
set_option maxRecDepth 100000 in
theorem pq1646 : Cond.constantLong RX7 405 (-9999) ∈ pw := pw_mem (i := 1646) (by decide +kernel) rfl
set_option maxRecDepth 100000 in
theorem pq1647 : Cond.constantLong RX7 407 (9999) ∈ pw := pw_mem (i := 1647) (by decide +kernel) rfl
set_option maxRecDepth 100000 in
theorem pq1648 : Cond.constantLong RX7 409 (-300) ∈ pw := pw_mem (i := 1648) (by decide +kernel) rfl
def cn (f : Nat → Int32) : Nat → Nat
  | 0 => 0
  | n + 1 => cn f n + (if f n = -1 then 0 else 1)
theorem cn_le (f : Nat → Int32) (n : Nat) : cn f n ≤ n := by
  induction n with
  | zero => exact Nat.le_refl _
  | succ n ih => unfold cn; split <;> omega
theorem cn_ge {f : Nat → Int32} {c : Nat} {v : Int32} (n : Nat) (h : n ≤ c) : cn (upd f c v) n = cn f n := by
  induction n with
  | zero => rfl
  | succ n ih =>
    unfold cn
    rw [ih (by omega), show upd f c v n = f n from by unfold upd; rw [if_neg (by omega)]]
theorem cn_upd {f : Nat → Int32} {c : Nat} {v : Int32} (n : Nat) (h : c < n) (hf : f c = -1) (hv : ¬ v = -1) : cn (upd f c v) n = cn f n + 1 := by
  induction n with
  | zero => omega
  | succ n ih =>
    unfold cn
    by_cases q : c = n
    · subst q
      rw [cn_ge c (Nat.le_refl _), show upd f c v c = v from by unfold upd; rw [if_pos rfl], hf, if_neg hv, if_pos rfl]
    · rw [ih (by omega), show upd f c v n = f n from by unfold upd; rw [if_neg (by omega)]]
      omega
theorem cn_lt {f : Nat → Int32} {c : Nat} {n : Nat} (h : c < n) (hf : f c = -1) : cn f n < n := by
  have := cn_upd (v := 0) n h hf (by decide)
  have := cn_le (upd f c 0) n
  omega
theorem is_of {L : List Nat} {K G : Nat → Nat} {Q : Nat → Nat → Option Nat} {p0 : Nat} (hQ : Sv L K G Q) (hL : p0 ∈ L) (hK : K p0 = 7) : (Q p0 21).getD 0 ∈ L ∧ K ((Q p0 21).getD 0) = 27 := by
  obtain ⟨y, f1, l1, k1⟩ := oQ_7_21 (Sv_at hQ hL hK)
  rw [f1]
  exact ⟨l1, k1⟩

set_option maxHeartbeats 4000000 in
set_option maxRecDepth 100000 in
theorem s_X7_reach (l : Launch) (dC : Nat → ClassId) (dI : Nat → Nat → Nat) (cs : Nat → ClassId) (L : List Nat) (K G : Nat → Nat) (Q : Nat → Nat → Option Nat) (hQ : Sv L K G Q) (x0 m0 : Nat) (tx : GT) (tm : GT × Int) (sz : Nat) (I : Nat → Nat → Int32) (J : Nat → Nat → Int64) (hI : Iv L K x0 m0 tx tm I) (p0 : Nat) (hLp0 : p0 ∈ L) (hKp0 : K p0 = 7) (p1 : Int32) (p2 : Int32) (p3 : Int32) (p4 : Int32) : Met l yX7_reach (.code yX7_reach cX7_reach 6 (some .int) :: pw) ({ frames := 7, cells := 0, slots := 0, locals := 174 }) (sP (dC, dI) cs [.ref p0, .int p1, .int p2, .int p3, .int p4] sz L K I J Q) (va_Qi (fun (r : Int32) (_ : Unit) => True) (fun _ t => sB (dC, dI) cs L K Q (fun I1 J1 => Iv L K x0 m0 tx tm I1 ∧ (∀ b, ¬ (K b = 7) → I1 b = I b) ∧ I1 p0 11 = I p0 11 ∧ (∀ b, K b = 0 ∨ K b = 1 ∨ K b = 3 ∨ K b = 6 → I1 b = I b) ∧ (∀ σ : Sx, cmA Q I J p0 σ → cmA Q I1 J1 p0 σ) ∧ (∀ b, ¬ (K b = 25) → J1 b = J b)) t) (fun q => q ∈ L ∨ sz ≤ q)) 0 0 (fun q => q ∈ L ∨ sz ≤ q) := by
  refine Met.ofW (cc := cX7_reach) (maxL := 6) (ret := (some .int)) (by decide +kernel) rfl ?_
  intro p e s m args below meth c s₁ B hml hv
  obtain ⟨rfl, hsz, hP, hK, hD0, hN⟩ := hv
  have hx := B.exec
  have hb := B.bytes
  have hr := B.returns
  have hts := fun w (h : w ∈ pw) => atoms_spec (ws := Cond.code yX7_reach cX7_reach 6 (some .int) :: pw) B.pre w (List.mem_cons_of_mem _ h)
  have hown : s.vm.findClass RX7 = some m.cls := findClass_of_methodNamed B.named
  have hlocks := B.notSynchronized
  subst hsz
  have hBB : 999 ≤ tm.2 ∧ tm.2 ≤ 6000000 := hI.2.2.2.2.1
  have dn_I : (∀ b, K b = 0 ∨ K b = 1 ∨ K b = 3 ∨ K b = 6 → I b = I b) := fun _ _ => rfl
  have dj_J : (∀ b, ¬ (K b = 25) → J b = J b) := fun _ _ => rfl
  have kp0_11_I : I p0 11 = I p0 11 := rfl
  have fr_I : ∀ b, ¬ (K b = 7) → I b = I b := fun _ _ => rfl
  obtain ⟨A, hAe⟩ : ∃ A : Nat → Prop, A = (fun q => q ∈ L ∨ s.heap.size ≤ q) := ⟨_, rfl⟩
  rw [← hAe]
  have hAL : ∀ q, q ∈ L → A q := fun q h => by rw [hAe]; exact Or.inl h
  have hA : ∀ q, s.heap.size ≤ q → A q := fun q h => by rw [hAe]; exact Or.inr h
  have hD : ∀ F, va_D A (va_pl L F) := fun F => (hD0 F).weaken (fun k q hk _ => hAL _ (pl_mem hk))
  obtain ⟨H, hHe⟩ : ∃ H : Heap, H = s.heap := ⟨_, rfl⟩
  have hS : va_S A s.heap H [] := by rw [hHe]; exact va_S.rf
  rw [← hHe] at hP
  have hl := lv_entry ([.ref p0, .int p1, .int p2, .int p3, .int p4]) (n := 6) (Nat.le_of_ble_eq_true rfl)
  rw [lg_entry_eq]
  generalize (lg_sl ([.ref p0, .int p1, .int p2, .int p3, .int p4]) ++ List.replicate (6 - (lg_sl ([.ref p0, .int p1, .int p2, .int p3, .int p4])).length) Slot.unset).toArray = ls at hl ⊢
  have hl : lv_has ls 6 [(0, .ref p0), (1, .int p1), (2, .int p2), (3, .int p3), (4, .int p4)] := hl
  rw [← hHe]
  refine namedW (fun R Qz hR hQz => ?_)
  refine lv_aload_n hx hb dX7_reach_0 rfl (lv_at hl 0 rfl) ?_
  refine lv_iload_n hx hb dX7_reach_1 rfl (lv_at hl 1 rfl) ?_
  refine ro_i (va_runV (As := [.int p1]) (rest := []) ⟨hx, hb, hml, hown, hts⟩ (s_X7_isBody l dC dI cs L K G Q hQ x0 m0 tx tm H.size I J hI p0 hLp0 hKp0 p1) (cwV 1 hts (gV pq1310 pq1312 pq23 pq81 pq1313) rfl rfl rfl (by decide +kernel) ⟨(by rw [hR]; exact (Nat.le_of_ble_eq_true rfl)), (by rw [hR]; exact (Nat.le_of_ble_eq_true rfl))⟩) (sP_V hP hD hK hN hLp0 hKp0 rfl rfl) rfl rfl hl.1 rfl (lv_room (Nat.le_of_ble_eq_true rfl)) dX7_reach_2 ⟨(by rw [hR]; exact (Nat.le_of_ble_eq_true rfl)), (by rw [hR]; exact (Nat.le_of_ble_eq_true rfl))⟩) hS hP (fun z2 H locs hz2 hP hS => ?_)
  obtain ⟨bz2, imz2, xpz2⟩ := hz2
  refine lv_if_eq (tgt := 27) hx hb dX7_reach_5 (by decide) (fun c5 => ?_) (fun c5 => ?_)
  · have t5 := tq_eq (k := z2.toInt) (q := (0)) c5 rfl (by decide +kernel)
    refine lv_iconst (v := (-1)) hx hb dX7_reach_27 (by decide +kernel) ?_
    subst hR; subst hQz
    exact W.iret (v := (-1)) hx hb hr (fun t ht hW => ⟨⟨(-1), (), rfl, trivial, ⟨I, J, ⟨hI, fr_I, kp0_11_I, dn_I, (fun σ A => cmA_fr hQ hLp0 hKp0 (fun _ _ => rfl) (fun _ _ => rfl) rfl A), dj_J⟩, by rw [ht]; exact hP⟩⟩, hS.F ht⟩) hS.2.2 dX7_reach_28
  · have t5 := tq_ne (k := z2.toInt) (q := (0)) c5 rfl (by decide +kernel)
    have i5 := imz2 t5
    refine lv_iload_n hx hb dX7_reach_8 rfl (lv_at hl 2 rfl) ?_
    refine lv_iload_n hx hb dX7_reach_9 rfl (lv_at hl 3 rfl) ?_
    refine ro_i (va_runS (As := [.int p2, .int p3]) (rest := []) ⟨hx, hb, hml, hown, hts⟩ (s_X7_areSteps l dC dI cs L K G Q hQ x0 m0 tx tm H.size I J hI p2 p3) (va_cwS 2 hts (gS pq1422 pq1423 pq81 pq1424) rfl rfl rfl (by decide +kernel) ⟨(by rw [hR]; exact (Nat.le_of_ble_eq_true rfl)), (by rw [hR]; exact (Nat.le_of_ble_eq_true rfl))⟩) (sP_S hP hD hK hN) rfl rfl hl.1 rfl (lv_room (Nat.le_of_ble_eq_true rfl)) dX7_reach_10 ⟨(by rw [hR]; exact (Nat.le_of_ble_eq_true rfl)), (by rw [hR]; exact (Nat.le_of_ble_eq_true rfl))⟩) hS hP (fun z10 H locs hz10 hP hS => ?_)
    obtain ⟨bz10, imz10, xpz10⟩ := hz10
    refine lv_if_eq (tgt := 27) hx hb dX7_reach_13 (by decide) (fun c13 => ?_) (fun c13 => ?_)
    · have t13 := tq_eq (k := z10.toInt) (q := (0)) c13 rfl (by decide +kernel)
      refine lv_iconst (v := (-1)) hx hb dX7_reach_27 (by decide +kernel) ?_
      subst hR; subst hQz
      exact W.iret (v := (-1)) hx hb hr (fun t ht hW => ⟨⟨(-1), (), rfl, trivial, ⟨I, J, ⟨hI, fr_I, kp0_11_I, dn_I, (fun σ A => cmA_fr hQ hLp0 hKp0 (fun _ _ => rfl) (fun _ _ => rfl) rfl A), dj_J⟩, by rw [ht]; exact hP⟩⟩, hS.F ht⟩) hS.2.2 dX7_reach_28
    · have t13 := tq_ne (k := z10.toInt) (q := (0)) c13 rfl (by decide +kernel)
      have i13 := imz10 t13
      refine lv_iload hx hb dX7_reach_16 (lv_at hl 4 rfl) ?_
      refine lv_i2l hx hb dX7_reach_18 rfl ?_
      refine lv_topl (fun z18 ez18 => ?_)
      have bz18 := tq_i2l (k := p4.toInt) ez18 rfl
      refine lv_lconst (v := 0) hx hb dX7_reach_19 (by decide +kernel) ?_
      refine lv_lconst (v := 1) hx hb dX7_reach_20 (by decide +kernel) ?_
      refine ro_i (va_runS (As := [.long z18, .long 0, .long 1]) (rest := []) ⟨hx, hb, hml, hown, hts⟩ (s_X7_in l dC dI cs L K Q H.size I J z18 0 1) (va_cwS 3 hts (gS pq1234 pq1235 pq81 pq1236) rfl rfl rfl (by decide +kernel) ⟨(by rw [hR]; exact (Nat.le_of_ble_eq_true rfl)), (by rw [hR]; exact (Nat.le_of_ble_eq_true rfl))⟩) (sP_S hP hD hK hN) rfl rfl hl.1 rfl (lv_room (Nat.le_of_ble_eq_true rfl)) dX7_reach_21 ⟨(by rw [hR]; exact (Nat.le_of_ble_eq_true rfl)), (by rw [hR]; exact (Nat.le_of_ble_eq_true rfl))⟩) hS hP (fun z21 H locs hz21 hP hS => ?_)
      have csl21_0 : (0 : Int64).toInt = 0 := by decide +kernel
      have csl21_1 : (1 : Int64).toInt = 1 := by decide +kernel
      obtain ⟨bz21, imz21, xpz21⟩ := hz21
      refine lv_if_ne (tgt := 29) hx hb dX7_reach_24 (by decide) (fun c24 => ?_) (fun c24 => ?_)
      · have t24 := tq_ne (k := z21.toInt) (q := (0)) c24 rfl (by decide +kernel)
        have i24 := imz21 t24
        refine lv_aload_n hx hb dX7_reach_29 rfl (lv_at hl 0 rfl) ?_
        refine sw_v (Z := (fun I1 J1 => Iv L K x0 m0 tx tm I1 ∧ I1 = I ∧ (∀ c : Fx, okF c → rI Q I p0 c → rJ Q J p0 c → ldA Q J1 p0 c) ∧ (∀ b, ¬ (K b = 25) → J1 b = J b))) (va_runV (As := []) (rest := []) ⟨hx, hb, hml, hown, hts⟩ (s_X7_laysAll l dC dI cs L K G Q hQ x0 m0 tx tm H.size I J hI p0 hLp0 hKp0) (cwV 0 hts (gV pq1427 pq1429 pq40 pq81 pq1430) rfl rfl rfl (by decide +kernel) ⟨(by rw [hR]; exact (Nat.le_of_ble_eq_true rfl)), (by rw [hR]; exact (Nat.le_of_ble_eq_true rfl))⟩) (sP_V hP hD hK hN hLp0 hKp0 rfl rfl) rfl rfl hl.1 rfl (lv_room (Nat.le_of_ble_eq_true rfl)) dX7_reach_30 ⟨(by rw [hR]; exact (Nat.le_of_ble_eq_true rfl)), (by rw [hR]; exact (Nat.le_of_ble_eq_true rfl))⟩) hS hAL hA (fun Iz30 Jz30 H locs hz30 hIz30 hP hS => ?_)
        obtain ⟨hIz30, sm30, jz30, djc30⟩ := hIz30
        have dj_Jz30 : (∀ b, ¬ (K b = 25) → Jz30 b = J b) := fun b hc => (djc30 b (fun z => hc (by omega))).trans (dj_J b hc)
        obtain rfl : I = Iz30 := sm30.symm
        refine lv_aload_n hx hb dX7_reach_33 rfl (lv_at hl 0 rfl) ?_
        refine lv_iload_n hx hb dX7_reach_34 rfl (lv_at hl 1 rfl) ?_
        refine lv_iload_n hx hb dX7_reach_35 rfl (lv_at hl 2 rfl) ?_
        refine lv_iload_n hx hb dX7_reach_36 rfl (lv_at hl 3 rfl) ?_
        refine sw_ir (Z := (fun u => (fun I1 J1 => Iv L K x0 m0 tx tm I1 ∧ (∀ b, ¬ (K b = 7) → I1 b = I b) ∧ I1 p0 11 = I p0 11 ∧ slR (I ((Q p0 0).getD 0)) p1.toInt.toNat u p2 p3 ∧ (∀ b, K b = 0 ∨ K b = 1 ∨ K b = 3 ∨ K b = 6 → I1 b = I b) ∧ J1 = Jz30))) (va_runV (As := [.int p1, .int p2, .int p3]) (rest := []) ⟨hx, hb, hml, hown, hts⟩ (s_X7_slides l dC dI cs L K G Q hQ x0 m0 tx tm H.size I Jz30 hI p0 hLp0 hKp0 p1 ⟨by omega, by omega⟩ p2 ⟨by omega, by omega⟩ p3 ⟨by omega, by omega⟩) (cwV 3 hts (gV pq1435 pq1437 pq42 pq81 pq1438) rfl rfl rfl (by decide +kernel) ⟨(by rw [hR]; exact (Nat.le_of_ble_eq_true rfl)), (by rw [hR]; exact (Nat.le_of_ble_eq_true rfl))⟩) (sP_V hP hD hK hN hLp0 hKp0 rfl rfl) rfl rfl hl.1 rfl (lv_room (Nat.le_of_ble_eq_true rfl)) dX7_reach_37 ⟨(by rw [hR]; exact (Nat.le_of_ble_eq_true rfl)), (by rw [hR]; exact (Nat.le_of_ble_eq_true rfl))⟩) hS hAL hA (fun z37 Iz37 Jz37 H locs hz37 hIz37 hP hS => ?_)
        obtain ⟨hIz37, frc37, kc37_0_11, zr37, dnc37, djc37⟩ := hIz37
        obtain rfl : Jz30 = Jz37 := djc37.symm
        have dn_Iz37 : (∀ b, K b = 0 ∨ K b = 1 ∨ K b = 3 ∨ K b = 6 → Iz37 b = I b) := fun b hc => (dnc37 b (by omega)).trans (dn_I b hc)
        have kp0_11_Iz37 : Iz37 p0 11 = I p0 11 := kc37_0_11.trans kp0_11_I
        have fr_Iz37 : ∀ b, ¬ (K b = 7) → Iz37 b = I b := fun b q => (frc37 b (fun z => q (by omega))).trans (fr_I b q)
        obtain ⟨bz37, xpz37⟩ := hz37
        refine lv_istore (lv' := [(5, .int z37), (0, .ref p0), (1, .int p1), (2, .int p2), (3, .int p3), (4, .int p4)]) hx hb dX7_reach_40 hl (by decide) rfl (fun ls hl => ?_)
        refine lv_iload hx hb dX7_reach_42 (lv_at hl 5 rfl) ?_
        refine lv_if_ne (tgt := 52) hx hb dX7_reach_44 (by decide) (fun c44 => ?_) (fun c44 => ?_)
        · have t44 := tq_ne (k := p4.toInt) (q := (0)) c44 rfl (by decide +kernel)
          refine lv_aload_n hx hb dX7_reach_52 rfl (lv_at hl 1 rfl) ?_
          refine p_get hx hb hts inX7 hown hK hP hLp0 hKp0 rfl rfl 18 (by decide) (hts _ pq1133) rfl dX7_reach_53 ?_
          refine lv_topi (fun z53 ez53 => ?_)
          subst hR; subst hQz
          exact W.iret (v := z53) hx hb hr (fun t ht hW => ⟨⟨z53, (), rfl, trivial, ⟨Iz37, Jz30, ⟨hIz37, fr_Iz37, kp0_11_Iz37, dn_Iz37, (fun σ A => cmA_fr hQ hLp0 hKp0 (fun b hb => fr_Iz37 b (by omega)) (fun b hb => dj_Jz30 b (by omega)) kp0_11_Iz37 A), dj_Jz30⟩, by rw [ht]; exact hP⟩⟩, hS.F ht⟩) hS.2.2 dX7_reach_56
        · have t44 := tq_eq (k := p4.toInt) (q := (0)) c44 rfl (by decide +kernel)
          refine lv_iload hx hb dX7_reach_47 (lv_at hl 0 rfl) ?_
          refine lv_goto (tgt := 56) hx hb dX7_reach_49 (by decide) ?_
          subst hR; subst hQz
          exact W.iret (v := z37) hx hb hr (fun t ht hW => ⟨⟨z37, (), rfl, trivial, ⟨Iz37, Jz30, ⟨hIz37, fr_Iz37, kp0_11_Iz37, dn_Iz37, (fun σ A => cmA_fr hQ hLp0 hKp0 (fun b hb => fr_Iz37 b (by omega)) (fun b hb => dj_Jz30 b (by omega)) kp0_11_Iz37 A), dj_Jz30⟩, by rw [ht]; exact hP⟩⟩, hS.F ht⟩) hS.2.2 dX7_reach_56
      · have t24 := tq_eq (k := z21.toInt) (q := (0)) c24 rfl (by decide +kernel)
        refine lv_iconst (v := (-1)) hx hb dX7_reach_27 (by decide +kernel) ?_
        subst hR; subst hQz
        exact W.iret (v := (-1)) hx hb hr (fun t ht hW => ⟨⟨(-1), (), rfl, trivial, ⟨I, J, ⟨hI, fr_I, kp0_11_I, dn_I, (fun σ A => cmA_fr hQ hLp0 hKp0 (fun _ _ => rfl) (fun _ _ => rfl) rfl A), dj_J⟩, by rw [ht]; exact hP⟩⟩, hS.F ht⟩) hS.2.2 dX7_reach_28

set_option maxHeartbeats 4000000 in
set_option maxRecDepth 100000 in
theorem s_X7_ray (l : Launch) (dC : Nat → ClassId) (dI : Nat → Nat → Nat) (cs : Nat → ClassId) (L : List Nat) (K G : Nat → Nat) (Q : Nat → Nat → Option Nat) (hQ : Sv L K G Q) (x0 m0 : Nat) (tx : GT) (tm : GT × Int) (sz : Nat) (I : Nat → Nat → Int32) (J : Nat → Nat → Int64) (hI : Iv L K x0 m0 tx tm I) (p0 : Nat) (hLp0 : p0 ∈ L) (hKp0 : K p0 = 7) (p1 : Int32) (p2 : Int32) (p3 : Int32) (p4 : Int32) : Met l yX7_ray (.code yX7_ray cX7_ray 9 (some .int) :: pw) ({ frames := 4, cells := 0, slots := 0, locals := 99 }) (sP (dC, dI) cs [.ref p0, .int p1, .int p2, .int p3, .int p4] sz L K I J Q) (va_Qi (fun (r : Int32) (_ : Unit) => (∀ σ : Sx, okF σ.1 → cmA Q I J p0 σ → ryR σ p1 p2 p3 p4 r)) (fun _ _ => True) (fun _ => False)) 0 0 (fun _ => False) := by
  refine Met.ofW (cc := cX7_ray) (maxL := 9) (ret := (some .int)) (by decide +kernel) rfl ?_
  intro p e s m args below meth c s₁ B hml hv
  obtain ⟨rfl, hsz, hP, hK, hD0, hN⟩ := hv
  have hx := B.exec
  have hb := B.bytes
  have hr := B.returns
  have hts := fun w (h : w ∈ pw) => atoms_spec (ws := Cond.code yX7_ray cX7_ray 9 (some .int) :: pw) B.pre w (List.mem_cons_of_mem _ h)
  have hown : s.vm.findClass RX7 = some m.cls := findClass_of_methodNamed B.named
  have hlocks := B.notSynchronized
  subst hsz
  have hBB : 999 ≤ tm.2 ∧ tm.2 ≤ 6000000 := hI.2.2.2.2.1
  have hD := hD0
  obtain ⟨H, hHe⟩ : ∃ H : Heap, H = s.heap := ⟨_, rfl⟩
  have hS : va_S (fun _ => False) s.heap H [] := by rw [hHe]; exact va_S.rf
  rw [← hHe] at hP
  have hl := lv_entry ([.ref p0, .int p1, .int p2, .int p3, .int p4]) (n := 9) (Nat.le_of_ble_eq_true rfl)
  rw [lg_entry_eq]
  generalize (lg_sl ([.ref p0, .int p1, .int p2, .int p3, .int p4]) ++ List.replicate (9 - (lg_sl ([.ref p0, .int p1, .int p2, .int p3, .int p4])).length) Slot.unset).toArray = ls at hl ⊢
  have hl : lv_has ls 9 [(0, .ref p0), (1, .int p1), (2, .int p2), (3, .int p3), (4, .int p4)] := hl
  rw [← hHe]
  refine namedW (fun R Qz hR hQz => ?_)
  refine lv_iload_n hx hb dX7_ray_0 rfl (lv_at hl 1 rfl) ?_
  refine lv_i2l hx hb dX7_ray_1 rfl ?_
  refine lv_topl (fun z1 ez1 => ?_)
  have bz1 := tq_i2l (k := p1.toInt) ez1 rfl
  refine lv_ldc2 hx hb hown (hts _ pq1646) dX7_ray_2 ?_
  refine lv_ldc2 hx hb hown (hts _ pq1647) dX7_ray_5 ?_
  refine ro_i (va_runS (As := [.long z1, .long (-9999), .long 9999]) (rest := []) ⟨hx, hb, hml, hown, hts⟩ (s_X7_in l dC dI cs L K Q H.size I J z1 (-9999) 9999) (va_cwS 3 hts (gS pq1234 pq1235 pq81 pq1236) rfl rfl rfl (by decide +kernel) ⟨(by rw [hR]; exact (Nat.le_of_ble_eq_true rfl)), (by rw [hR]; exact (Nat.le_of_ble_eq_true rfl))⟩) (sP_S hP hD hK hN) rfl rfl hl.1 rfl (lv_room (Nat.le_of_ble_eq_true rfl)) dX7_ray_8 ⟨(by rw [hR]; exact (Nat.le_of_ble_eq_true rfl)), (by rw [hR]; exact (Nat.le_of_ble_eq_true rfl))⟩) hS hP (fun z8 H locs hz8 hP hS => ?_)
  have csl8_m9999 : ((-9999) : Int64).toInt = (-9999) := by decide +kernel
  have csl8_9999 : (9999 : Int64).toInt = 9999 := by decide +kernel
  obtain ⟨bz8, imz8, xpz8⟩ := hz8
  refine lv_if_eq (tgt := 57) hx hb dX7_ray_11 (by decide) (fun c11 => ?_) (fun c11 => ?_)
  · have t11 := tq_eq (k := z8.toInt) (q := (0)) c11 rfl (by decide +kernel)
    refine lv_iconst (v := (-1)) hx hb dX7_ray_57 (by decide +kernel) ?_
    subst hR; subst hQz
    exact W.iret (v := (-1)) hx hb hr (fun t ht hW => ⟨⟨(-1), (), rfl, (fun σ ok h => by exact ⟨fun w => by (obtain ⟨⟨⟨_, _⟩, _, _⟩, ⟨_, _⟩, _, _⟩ := w); first | exact absurd ⟨by omega, by omega⟩ (xpz8 t11) | exact absurd ⟨by omega, by omega⟩ (xpz22 t25) | exact absurd ⟨by omega, by omega⟩ (xpz36 t39) | exact absurd ⟨by omega, by omega⟩ (xpz51 t54), fun _ => by decide +kernel⟩), trivial⟩, hS.F ht⟩) hS.2.2 dX7_ray_58
  · have t11 := tq_ne (k := z8.toInt) (q := (0)) c11 rfl (by decide +kernel)
    have i11 := imz8 t11
    refine lv_iload_n hx hb dX7_ray_14 rfl (lv_at hl 2 rfl) ?_
    refine lv_i2l hx hb dX7_ray_15 rfl ?_
    refine lv_topl (fun z15 ez15 => ?_)
    have bz15 := tq_i2l (k := p2.toInt) ez15 rfl
    refine lv_ldc2 hx hb hown (hts _ pq1646) dX7_ray_16 ?_
    refine lv_ldc2 hx hb hown (hts _ pq1647) dX7_ray_19 ?_
    refine ro_i (va_runS (As := [.long z15, .long (-9999), .long 9999]) (rest := []) ⟨hx, hb, hml, hown, hts⟩ (s_X7_in l dC dI cs L K Q H.size I J z15 (-9999) 9999) (va_cwS 3 hts (gS pq1234 pq1235 pq81 pq1236) rfl rfl rfl (by decide +kernel) ⟨(by rw [hR]; exact (Nat.le_of_ble_eq_true rfl)), (by rw [hR]; exact (Nat.le_of_ble_eq_true rfl))⟩) (sP_S hP hD hK hN) rfl rfl hl.1 rfl (lv_room (Nat.le_of_ble_eq_true rfl)) dX7_ray_22 ⟨(by rw [hR]; exact (Nat.le_of_ble_eq_true rfl)), (by rw [hR]; exact (Nat.le_of_ble_eq_true rfl))⟩) hS hP (fun z22 H locs hz22 hP hS => ?_)
    have csl22_m9999 : ((-9999) : Int64).toInt = (-9999) := by decide +kernel
    have csl22_9999 : (9999 : Int64).toInt = 9999 := by decide +kernel
    obtain ⟨bz22, imz22, xpz22⟩ := hz22
    refine lv_if_eq (tgt := 57) hx hb dX7_ray_25 (by decide) (fun c25 => ?_) (fun c25 => ?_)
    · have t25 := tq_eq (k := z22.toInt) (q := (0)) c25 rfl (by decide +kernel)
      refine lv_iconst (v := (-1)) hx hb dX7_ray_57 (by decide +kernel) ?_
      subst hR; subst hQz
      exact W.iret (v := (-1)) hx hb hr (fun t ht hW => ⟨⟨(-1), (), rfl, (fun σ ok h => by exact ⟨fun w => by (obtain ⟨⟨⟨_, _⟩, _, _⟩, ⟨_, _⟩, _, _⟩ := w); first | exact absurd ⟨by omega, by omega⟩ (xpz8 t11) | exact absurd ⟨by omega, by omega⟩ (xpz22 t25) | exact absurd ⟨by omega, by omega⟩ (xpz36 t39) | exact absurd ⟨by omega, by omega⟩ (xpz51 t54), fun _ => by decide +kernel⟩), trivial⟩, hS.F ht⟩) hS.2.2 dX7_ray_58
    · have t25 := tq_ne (k := z22.toInt) (q := (0)) c25 rfl (by decide +kernel)
      have i25 := imz22 t25
      refine lv_iload_n hx hb dX7_ray_28 rfl (lv_at hl 3 rfl) ?_
      refine lv_i2l hx hb dX7_ray_29 rfl ?_
      refine lv_topl (fun z29 ez29 => ?_)
      have bz29 := tq_i2l (k := p3.toInt) ez29 rfl
      refine lv_ldc2 hx hb hown (hts _ pq1648) dX7_ray_30 ?_
      refine lv_ldc2 hx hb hown (hts _ pq1620) dX7_ray_33 ?_
      refine ro_i (va_runS (As := [.long z29, .long (-300), .long 300]) (rest := []) ⟨hx, hb, hml, hown, hts⟩ (s_X7_in l dC dI cs L K Q H.size I J z29 (-300) 300) (va_cwS 3 hts (gS pq1234 pq1235 pq81 pq1236) rfl rfl rfl (by decide +kernel) ⟨(by rw [hR]; exact (Nat.le_of_ble_eq_true rfl)), (by rw [hR]; exact (Nat.le_of_ble_eq_true rfl))⟩) (sP_S hP hD hK hN) rfl rfl hl.1 rfl (lv_room (Nat.le_of_ble_eq_true rfl)) dX7_ray_36 ⟨(by rw [hR]; exact (Nat.le_of_ble_eq_true rfl)), (by rw [hR]; exact (Nat.le_of_ble_eq_true rfl))⟩) hS hP (fun z36 H locs hz36 hP hS => ?_)
      have csl36_m300 : ((-300) : Int64).toInt = (-300) := by decide +kernel
      have csl36_300 : (300 : Int64).toInt = 300 := by decide +kernel
      obtain ⟨bz36, imz36, xpz36⟩ := hz36
      refine lv_if_eq (tgt := 57) hx hb dX7_ray_39 (by decide) (fun c39 => ?_) (fun c39 => ?_)
      · have t39 := tq_eq (k := z36.toInt) (q := (0)) c39 rfl (by decide +kernel)
        refine lv_iconst (v := (-1)) hx hb dX7_ray_57 (by decide +kernel) ?_
        subst hR; subst hQz
        exact W.iret (v := (-1)) hx hb hr (fun t ht hW => ⟨⟨(-1), (), rfl, (fun σ ok h => by exact ⟨fun w => by (obtain ⟨⟨⟨_, _⟩, _, _⟩, ⟨_, _⟩, _, _⟩ := w); first | exact absurd ⟨by omega, by omega⟩ (xpz8 t11) | exact absurd ⟨by omega, by omega⟩ (xpz22 t25) | exact absurd ⟨by omega, by omega⟩ (xpz36 t39) | exact absurd ⟨by omega, by omega⟩ (xpz51 t54), fun _ => by decide +kernel⟩), trivial⟩, hS.F ht⟩) hS.2.2 dX7_ray_58
      · have t39 := tq_ne (k := z36.toInt) (q := (0)) c39 rfl (by decide +kernel)
        have i39 := imz36 t39
        refine lv_iload hx hb dX7_ray_42 (lv_at hl 4 rfl) ?_
        refine lv_i2l hx hb dX7_ray_44 rfl ?_
        refine lv_topl (fun z44 ez44 => ?_)
        have bz44 := tq_i2l (k := p4.toInt) ez44 rfl
        refine lv_ldc2 hx hb hown (hts _ pq1648) dX7_ray_45 ?_
        refine lv_ldc2 hx hb hown (hts _ pq1620) dX7_ray_48 ?_
        refine ro_i (va_runS (As := [.long z44, .long (-300), .long 300]) (rest := []) ⟨hx, hb, hml, hown, hts⟩ (s_X7_in l dC dI cs L K Q H.size I J z44 (-300) 300) (va_cwS 3 hts (gS pq1234 pq1235 pq81 pq1236) rfl rfl rfl (by decide +kernel) ⟨(by rw [hR]; exact (Nat.le_of_ble_eq_true rfl)), (by rw [hR]; exact (Nat.le_of_ble_eq_true rfl))⟩) (sP_S hP hD hK hN) rfl rfl hl.1 rfl (lv_room (Nat.le_of_ble_eq_true rfl)) dX7_ray_51 ⟨(by rw [hR]; exact (Nat.le_of_ble_eq_true rfl)), (by rw [hR]; exact (Nat.le_of_ble_eq_true rfl))⟩) hS hP (fun z51 H locs hz51 hP hS => ?_)
        have csl51_m300 : ((-300) : Int64).toInt = (-300) := by decide +kernel
        have csl51_300 : (300 : Int64).toInt = 300 := by decide +kernel
        obtain ⟨bz51, imz51, xpz51⟩ := hz51
        refine lv_if_ne (tgt := 59) hx hb dX7_ray_54 (by decide) (fun c54 => ?_) (fun c54 => ?_)
        · have t54 := tq_ne (k := z51.toInt) (q := (0)) c54 rfl (by decide +kernel)
          have i54 := imz51 t54
          refine lv_iload_n hx hb dX7_ray_59 rfl (lv_at hl 3 rfl) ?_
          refine lv_iload hx hb dX7_ray_60 (lv_at hl 4 rfl) ?_
          refine ro_i (va_runS (As := [.int p3, .int p4]) (rest := []) ⟨hx, hb, hml, hown, hts⟩ (s_X7_steps l dC dI cs L K G Q hQ x0 m0 tx tm H.size I J hI p3 ⟨by omega, by omega⟩ p4 ⟨by omega, by omega⟩) (va_cwS 2 hts (gS pq1439 pq1440 pq81 pq1441) rfl rfl rfl (by decide +kernel) ⟨(by rw [hR]; exact (Nat.le_of_ble_eq_true rfl)), (by rw [hR]; exact (Nat.le_of_ble_eq_true rfl))⟩) (sP_S hP hD hK hN) rfl rfl hl.1 rfl (lv_room (Nat.le_of_ble_eq_true rfl)) dX7_ray_62 ⟨(by rw [hR]; exact (Nat.le_of_ble_eq_true rfl)), (by rw [hR]; exact (Nat.le_of_ble_eq_true rfl))⟩) hS hP (fun z62 H locs hz62 hP hS => ?_)
          obtain ⟨bz62, fez62⟩ := hz62
          refine lv_istore (lv' := [(5, .int z62), (0, .ref p0), (1, .int p1), (2, .int p2), (3, .int p3), (4, .int p4)]) hx hb dX7_ray_65 hl (by decide) rfl (fun ls hl => ?_)
          refine lv_iconst (v := 0) hx hb dX7_ray_67 (by decide +kernel) ?_
          refine lv_istore (lv' := [(6, .int 0), (5, .int z62), (0, .ref p0), (1, .int p1), (2, .int p2), (3, .int p3), (4, .int p4)]) hx hb dX7_ray_68 hl (by decide) rfl (fun ls hl => ?_)
          have key70 := blocks (fun n => ∀ (v70_6 : Int32) (H : Heap) (lo : List Loc) (ls : Array Slot), (302 - v70_6.toInt).toNat = n → ((0) ≤ v70_6.toInt ∧ v70_6.toInt ≤ 301) → (∀ σ : Sx, okF σ.1 → cmA Q I J p0 σ → ∀ (j : Int) (q : Nat), 0 ≤ j → j < v70_6.toInt → ¬ ryP σ p1 p2 p3 p4 j q) → va_P (dC, dI) vwCl (Wd cs L K I J Q) H → va_S (fun _ => False) s.heap H lo → lv_has ls 9 [(0, .ref p0), (1, .int p1), (2, .int p2), (3, .int p3), (4, .int p4), (5, .int z62), (6, .int v70_6)] → W p l e R s m (([.ref p0, .int p1, .int p2, .int p3, .int p4] : List Value).toArray) below meth c H lo 0 0 Qz (F0 m 70 ls [])) (by
            intro n ih70
            intro v70_6 H lo ls hmu70 bv70_6 g70 hP hS hl
            refine lv_iload hx hb dX7_ray_70 (lv_at hl 6 rfl) ?_
            refine lv_iload hx hb dX7_ray_72 (lv_at hl 5 rfl) ?_
            refine lv_icmp_gt (tgt := 150) hx hb dX7_ray_74 (by decide) (fun c74 => ?_) (fun c74 => ?_)
            · have t74 := tq_lt (k := z62.toInt) (q := v70_6.toInt) c74 rfl rfl
              refine lv_bipush (v := (-2)) hx hb dX7_ray_150 (by decide +kernel) ?_
              subst hR; subst hQz
              exact W.iret (v := (-2)) hx hb hr (fun t ht hW => ⟨⟨(-2), (), rfl, (fun σ ok h => by have s62 := (congrArg Int32.toInt fez62).trans (stF_i (x := p3) (y := p4) ⟨by omega, by omega⟩ ⟨by omega, by omega⟩); exact ⟨fun _ => Or.inr ⟨fun j q a b => g70 σ ok h j q a (by omega), by decide +kernel⟩, fun q => absurd ⟨⟨⟨by omega, by omega⟩, by omega, by omega⟩, ⟨by omega, by omega⟩, by omega, by omega⟩ q⟩), trivial⟩, hS.F ht⟩) hS.2.2 dX7_ray_152
            · have t74 := tq_nlt (k := z62.toInt) (q := v70_6.toInt) c74 rfl rfl
              refine lv_aload_n hx hb dX7_ray_77 rfl (lv_at hl 0 rfl) ?_
              refine lv_iload_n hx hb dX7_ray_78 rfl (lv_at hl 1 rfl) ?_
              refine lv_iload hx hb dX7_ray_79 (lv_at hl 6 rfl) ?_
              refine lv_iload_n hx hb dX7_ray_81 rfl (lv_at hl 3 rfl) ?_
              refine lv_iload hx hb dX7_ray_82 (lv_at hl 5 rfl) ?_
              refine ro_i (va_runS (As := [.int v70_6, .int p3, .int z62]) (rest := [.int p1, .ref p0]) ⟨hx, hb, hml, hown, hts⟩ (s_X7_by l dC dI cs L K G Q hQ x0 m0 tx tm H.size I J hI v70_6 p3 z62 ⟨by omega, by omega⟩) (va_cwS 3 hts (gS pq1470 pq1471 pq81 pq1472) rfl rfl rfl (by decide +kernel) ⟨(by rw [hR]; exact (Nat.le_of_ble_eq_true rfl)), (by rw [hR]; exact (Nat.le_of_ble_eq_true rfl))⟩) (sP_S hP hD hK hN) rfl rfl hl.1 rfl (lv_room (Nat.le_of_ble_eq_true rfl)) dX7_ray_84 ⟨(by rw [hR]; exact (Nat.le_of_ble_eq_true rfl)), (by rw [hR]; exact (Nat.le_of_ble_eq_true rfl))⟩) hS hP (fun z84 H locs hz84 hP hS => ?_)
              obtain ⟨bz84, fez84⟩ := hz84
              refine lv_iadd hx hb dX7_ray_87 ?_
              refine lv_topi (fun z87 ez87 => ?_)
              have bz87 := tq_add (k := p1.toInt) (q := z84.toInt) ez87 rfl rfl (by omega) (by omega)
              refine lv_iload_n hx hb dX7_ray_88 rfl (lv_at hl 2 rfl) ?_
              refine lv_iload hx hb dX7_ray_89 (lv_at hl 6 rfl) ?_
              refine lv_iload hx hb dX7_ray_91 (lv_at hl 4 rfl) ?_
              refine lv_iload hx hb dX7_ray_93 (lv_at hl 5 rfl) ?_
              refine ro_i (va_runS (As := [.int v70_6, .int p4, .int z62]) (rest := [.int p2, .int z87, .ref p0]) ⟨hx, hb, hml, hown, hts⟩ (s_X7_by l dC dI cs L K G Q hQ x0 m0 tx tm H.size I J hI v70_6 p4 z62 ⟨by omega, by omega⟩) (va_cwS 3 hts (gS pq1470 pq1471 pq81 pq1472) rfl rfl rfl (by decide +kernel) ⟨(by rw [hR]; exact (Nat.le_of_ble_eq_true rfl)), (by rw [hR]; exact (Nat.le_of_ble_eq_true rfl))⟩) (sP_S hP hD hK hN) rfl rfl hl.1 rfl (lv_room (Nat.le_of_ble_eq_true rfl)) dX7_ray_95 ⟨(by rw [hR]; exact (Nat.le_of_ble_eq_true rfl)), (by rw [hR]; exact (Nat.le_of_ble_eq_true rfl))⟩) hS hP (fun z95 H locs hz95 hP hS => ?_)
              obtain ⟨bz95, fez95⟩ := hz95
              refine lv_iadd hx hb dX7_ray_98 ?_
              refine lv_topi (fun z98 ez98 => ?_)
              have bz98 := tq_add (k := p2.toInt) (q := z95.toInt) ez98 rfl rfl (by omega) (by omega)
              refine ro_i (va_runV (As := [.int z87, .int z98]) (rest := []) ⟨hx, hb, hml, hown, hts⟩ (s_X7_bodiesAt l dC dI cs L K G Q hQ x0 m0 tx tm H.size I J hI p0 hLp0 hKp0 z87 z98) (cwV 2 hts (gV pq1612 pq1614 pq67 pq81 pq1615) rfl rfl rfl (by decide +kernel) ⟨(by rw [hR]; exact (Nat.le_of_ble_eq_true rfl)), (by rw [hR]; exact (Nat.le_of_ble_eq_true rfl))⟩) (sP_V hP hD hK hN hLp0 hKp0 rfl rfl) rfl rfl hl.1 rfl (lv_room (Nat.le_of_ble_eq_true rfl)) dX7_ray_99 ⟨(by rw [hR]; exact (Nat.le_of_ble_eq_true rfl)), (by rw [hR]; exact (Nat.le_of_ble_eq_true rfl))⟩) hS hP (fun z99 H locs hz99 hP hS => ?_)
              have xpz99 := hz99
              refine lv_istore (lv' := [(7, .int z99), (0, .ref p0), (1, .int p1), (2, .int p2), (3, .int p3), (4, .int p4), (5, .int z62), (6, .int v70_6)]) hx hb dX7_ray_102 hl (by decide) rfl (fun ls hl => ?_)
              refine lv_iconst (v := 0) hx hb dX7_ray_104 (by decide +kernel) ?_
              refine lv_istore (lv' := [(8, .int 0), (7, .int z99), (0, .ref p0), (1, .int p1), (2, .int p2), (3, .int p3), (4, .int p4), (5, .int z62), (6, .int v70_6)]) hx hb dX7_ray_105 hl (by decide) rfl (fun ls hl => ?_)
              have key107 := blocks (fun n => ∀ (v107_8 : Int32) (H : Heap) (lo : List Loc) (ls : Array Slot), (11 - v107_8.toInt).toNat = n → ((0) ≤ v107_8.toInt ∧ v107_8.toInt ≤ 10) → (∀ σ : Sx, okF σ.1 → cmA Q I J p0 σ → ∀ q : Nat, q < v107_8.toInt.toNat → ¬ ryP σ p1 p2 p3 p4 v70_6.toInt q) → va_P (dC, dI) vwCl (Wd cs L K I J Q) H → va_S (fun _ => False) s.heap H lo → lv_has ls 9 [(0, .ref p0), (1, .int p1), (2, .int p2), (3, .int p3), (4, .int p4), (5, .int z62), (6, .int v70_6), (7, .int z99), (8, .int v107_8)] → W p l e R s m (([.ref p0, .int p1, .int p2, .int p3, .int p4] : List Value).toArray) below meth c H lo 0 0 Qz (F0 m 107 ls [])) (by
                intro n ih107
                intro v107_8 H lo ls hmu107 bv107_8 g107 hP hS hl
                refine lv_iload hx hb dX7_ray_107 (lv_at hl 8 rfl) ?_
                refine lv_aload_n hx hb dX7_ray_109 rfl (lv_at hl 0 rfl) ?_
                obtain ⟨y110, ey110, hLy110, hKy110⟩ := oQ_7_0 (Sv_at hQ hLp0 hKp0)
                refine p_get (v := .ref y110) hx hb hts inX7 hown hK hP hLp0 hKp0 rfl rfl 0 (by decide) (hts _ pq1115) (congrArg (fun q => some (va_rf q)) ey110) dX7_ray_110 ?_
                refine lv_iconst (v := 1) hx hb dX7_ray_113 (by decide +kernel) ?_
                refine p_iald hx hb hK hP 8 hLy110 hKy110 rfl rfl (in_d (by decide +kernel)) dX7_ray_114 ?_
                refine lv_topi (fun z114 ez114 => ?_)
                have bz114 := rng1 (oR_18 (i := (1 : Int32)) (k := (1)) (by decide +kernel) (Iv_at hI hLy110 hKy110))
                rw [← ez114] at bz114
                refine lv_icmp_ge (tgt := 144) hx hb dX7_ray_115 (by decide) (fun c115 => ?_) (fun c115 => ?_)
                · have t115 := tq_le (k := z114.toInt) (q := v107_8.toInt) c115 rfl rfl
                  obtain ⟨z144, ez144⟩ : ∃ y : Int32, y = v70_6 + 1 := ⟨_, rfl⟩
                  refine lv_iinc (v := z144) (lv' := [(6, .int z144), (0, .ref p0), (1, .int p1), (2, .int p2), (3, .int p3), (4, .int p4), (5, .int z62), (7, .int z99), (8, .int v107_8)]) hx hb dX7_ray_144 hl (k := 6) rfl (by rw [ez144]; rfl) (by decide) rfl (fun ls hl => ?_)
                  have bz144 := tq_add (k := v70_6.toInt) (q := 1) ez144 rfl (by decide +kernel) (by omega) (by omega)
                  refine lv_goto (tgt := 70) hx hb dX7_ray_147 (by decide) ?_
                  exact ih70 _ (by omega) z144 _ _ _ rfl ⟨by omega, by omega⟩ (fun σ ok h => by have en := congrArg Int32.toInt (ez114.trans (show I y110 (1 : Int32).toNatClampNeg = σ.1.1 1 by rw [show y110 = a0 Q p0 0 from (gd_of ey110).symm, show (1 : Int32).toNatClampNeg = 1 from by decide +kernel]; exact cm_1 h)); intro j q a b; rcases Int.lt_or_le j v70_6.toInt with w | w; (exact g70 σ ok h j q a w); (obtain rfl : j = v70_6.toInt := by omega); exact fun e => g107 σ ok h q (by have k := e.1; omega) e) hP hS (lv_sub hl [1, 2, 3, 4, 5, 6, 0] rfl)
                · have t115 := tq_nle (k := z114.toInt) (q := v107_8.toInt) c115 rfl rfl
                  refine lv_iload hx hb dX7_ray_118 (lv_at hl 7 rfl) ?_
                  refine lv_iload hx hb dX7_ray_120 (lv_at hl 8 rfl) ?_
                  refine lv_ishr hx hb dX7_ray_122 ?_
                  refine lv_topi (fun z122 ez122 => ?_)
                  refine lv_iconst (v := 1) hx hb dX7_ray_123 (by decide +kernel) ?_
                  refine lv_iand hx hb dX7_ray_124 ?_
                  refine lv_topi (fun z124 ez124 => ?_)
                  have bz124 := tq_and 1 ez124 (by decide +kernel) (by decide)
                  refine lv_iconst (v := 1) hx hb dX7_ray_125 (by decide +kernel) ?_
                  refine lv_icmp_ne (tgt := 138) hx hb dX7_ray_126 (by decide) (fun c126 => ?_) (fun c126 => ?_)
                  · have t126 := tq_ne (k := z124.toInt) (q := (1)) c126 rfl (by decide +kernel)
                    obtain ⟨z138, ez138⟩ : ∃ y : Int32, y = v107_8 + 1 := ⟨_, rfl⟩
                    refine lv_iinc (v := z138) (lv' := [(8, .int z138), (0, .ref p0), (1, .int p1), (2, .int p2), (3, .int p3), (4, .int p4), (5, .int z62), (6, .int v70_6), (7, .int z99)]) hx hb dX7_ray_138 hl (k := 8) rfl (by rw [ez138]; rfl) (by decide) rfl (fun ls hl => ?_)
                    have bz138 := tq_add (k := v107_8.toInt) (q := 1) ez138 rfl (by decide +kernel) (by omega) (by omega)
                    refine lv_goto (tgt := 107) hx hb dX7_ray_141 (by decide) ?_
                    exact ih107 _ (by omega) z138 _ _ _ rfl ⟨by omega, by omega⟩ (fun σ ok h => by have en := congrArg Int32.toInt (ez114.trans (show I y110 (1 : Int32).toNatClampNeg = σ.1.1 1 by rw [show y110 = a0 Q p0 0 from (gd_of ey110).symm, show (1 : Int32).toNatClampNeg = 1 from by decide +kernel]; exact cm_1 h)); have s62 := (congrArg Int32.toInt fez62).trans (stF_i (x := p3) (y := p4) ⟨by omega, by omega⟩ ⟨by omega, by omega⟩); have b84 := (congrArg Int32.toInt fez84).trans (byF_i3 (k := v70_6) (d := p3) (n := z62) ⟨by omega, by omega⟩ ⟨by omega, by omega⟩ ⟨by omega, by omega⟩); have b95 := (congrArg Int32.toInt fez95).trans (byF_i3 (k := v70_6) (d := p4) (n := z62) ⟨by omega, by omega⟩ ⟨by omega, by omega⟩ ⟨by omega, by omega⟩); have e87 := ry_of (show z87.toInt = p1.toInt + byI v70_6.toInt p3.toInt (stI p3.toInt p4.toInt) by rw [bz87, b84, s62]); have e98 := ry_of (show z98.toInt = p2.toInt + byI v70_6.toInt p4.toInt (stI p3.toInt p4.toInt) by rw [bz98, b95, s62]); have w := xpz99 σ.1 ok (cmA_rI h) (cmA_rJ h) v107_8.toInt.toNat; rw [e87, e98] at w; have hh := hb_shr ez122 ez124 ⟨by omega, by omega⟩; intro q b; rcases Nat.lt_or_ge q v107_8.toInt.toNat with k | k; (exact g107 σ ok h q k); (obtain rfl : q = v107_8.toInt.toNat := by omega); exact fun e => t126 (hh.1.mpr (w.mpr e))) hP hS (lv_sub hl [1, 2, 3, 4, 5, 6, 7, 8, 0] rfl)
                  · have t126 := tq_eq (k := z124.toInt) (q := (1)) c126 rfl (by decide +kernel)
                    refine lv_bipush (v := 100) hx hb dX7_ray_129 (by decide +kernel) ?_
                    refine lv_iload hx hb dX7_ray_131 (lv_at hl 6 rfl) ?_
                    refine lv_imul hx hb dX7_ray_133 ?_
                    refine lv_topi (fun z133 ez133 => ?_)
                    have bz133 := tq_mul (k := (100)) (q := v70_6.toInt) ez133 (by decide +kernel) rfl (by omega) (by omega)
                    refine lv_iload hx hb dX7_ray_134 (lv_at hl 8 rfl) ?_
                    refine lv_iadd hx hb dX7_ray_136 ?_
                    refine lv_topi (fun z136 ez136 => ?_)
                    have bz136 := tq_add (k := z133.toInt) (q := v107_8.toInt) ez136 rfl rfl (by omega) (by omega)
                    subst hR; subst hQz
                    exact W.iret (v := z136) hx hb hr (fun t ht hW => ⟨⟨z136, (), rfl, (fun σ ok h => by have en := congrArg Int32.toInt (ez114.trans (show I y110 (1 : Int32).toNatClampNeg = σ.1.1 1 by rw [show y110 = a0 Q p0 0 from (gd_of ey110).symm, show (1 : Int32).toNatClampNeg = 1 from by decide +kernel]; exact cm_1 h)); have s62 := (congrArg Int32.toInt fez62).trans (stF_i (x := p3) (y := p4) ⟨by omega, by omega⟩ ⟨by omega, by omega⟩); have b84 := (congrArg Int32.toInt fez84).trans (byF_i3 (k := v70_6) (d := p3) (n := z62) ⟨by omega, by omega⟩ ⟨by omega, by omega⟩ ⟨by omega, by omega⟩); have b95 := (congrArg Int32.toInt fez95).trans (byF_i3 (k := v70_6) (d := p4) (n := z62) ⟨by omega, by omega⟩ ⟨by omega, by omega⟩ ⟨by omega, by omega⟩); have e87 := ry_of (show z87.toInt = p1.toInt + byI v70_6.toInt p3.toInt (stI p3.toInt p4.toInt) by rw [bz87, b84, s62]); have e98 := ry_of (show z98.toInt = p2.toInt + byI v70_6.toInt p4.toInt (stI p3.toInt p4.toInt) by rw [bz98, b95, s62]); have w := xpz99 σ.1 ok (cmA_rI h) (cmA_rJ h) v107_8.toInt.toNat; rw [e87, e98] at w; have hh := hb_shr ez122 ez124 ⟨by omega, by omega⟩; exact ⟨fun _ => Or.inl ⟨v70_6.toInt, v107_8.toInt.toNat, ⟨by omega, by omega⟩, w.mp (hh.1.mp t126), fun j q a b => g70 σ ok h j q a b, fun q b => g107 σ ok h q b, by omega⟩, fun q => absurd ⟨⟨⟨by omega, by omega⟩, by omega, by omega⟩, ⟨by omega, by omega⟩, by omega, by omega⟩ q⟩), trivial⟩, hS.F ht⟩) hS.2.2 dX7_ray_137)
              exact key107 _ 0 _ _ _ rfl ⟨by decide +kernel, by decide +kernel⟩ (fun σ ok h q b => absurd b (by rw [show (0 : Int32).toInt.toNat = 0 from by decide +kernel]; omega)) hP hS (lv_sub hl [2, 3, 4, 5, 6, 7, 8, 1, 0] rfl))
          exact key70 _ 0 _ _ _ rfl ⟨by decide +kernel, by decide +kernel⟩ (fun σ ok h j q a b => absurd b (by rw [show (0 : Int32).toInt = 0 from by decide +kernel]; omega)) hP hS (lv_sub hl [2, 3, 4, 5, 6, 1, 0] rfl)
        · have t54 := tq_eq (k := z51.toInt) (q := (0)) c54 rfl (by decide +kernel)
          refine lv_iconst (v := (-1)) hx hb dX7_ray_57 (by decide +kernel) ?_
          subst hR; subst hQz
          exact W.iret (v := (-1)) hx hb hr (fun t ht hW => ⟨⟨(-1), (), rfl, (fun σ ok h => by exact ⟨fun w => by (obtain ⟨⟨⟨_, _⟩, _, _⟩, ⟨_, _⟩, _, _⟩ := w); first | exact absurd ⟨by omega, by omega⟩ (xpz8 t11) | exact absurd ⟨by omega, by omega⟩ (xpz22 t25) | exact absurd ⟨by omega, by omega⟩ (xpz36 t39) | exact absurd ⟨by omega, by omega⟩ (xpz51 t54), fun _ => by decide +kernel⟩), trivial⟩, hS.F ht⟩) hS.2.2 dX7_ray_58

set_option maxHeartbeats 4000000 in
set_option maxRecDepth 100000 in
theorem s_X7_hasBox (l : Launch) (dC : Nat → ClassId) (dI : Nat → Nat → Nat) (cs : Nat → ClassId) (L : List Nat) (K G : Nat → Nat) (Q : Nat → Nat → Option Nat) (hQ : Sv L K G Q) (x0 m0 : Nat) (tx : GT) (tm : GT × Int) (sz : Nat) (I : Nat → Nat → Int32) (J : Nat → Nat → Int64) (hI : Iv L K x0 m0 tx tm I) (p0 : Nat) (hLp0 : p0 ∈ L) (hKp0 : K p0 = 7) (p1 : Int32) (bp1 : (0) ≤ p1.toInt ∧ p1.toInt ≤ 9) : Met l yX7_hasBox (.code yX7_hasBox cX7_hasBox 3 (some .boolean) :: pw) ({ frames := 3, cells := 0, slots := 0, locals := 72 }) (sP (dC, dI) cs [.ref p0, .int p1] sz L K I J Q) (va_Qi (fun (r : Int32) (u : Int32) => u = r ∧ ((0) ≤ r.toInt ∧ r.toInt ≤ 1)) (fun u t => sB (dC, dI) cs L K Q (fun I1 J1 => Iv L K x0 m0 tx tm I1 ∧ (∀ b, ¬ (K b = 26 ∨ K b = 29) → I1 b = I b) ∧ (∀ c : Fx, okF c → rI Q I p0 c → rJ Q J p0 c → p1.toInt.toNat < (c.1 1).toInt.toNat → rcI (atD c p1.toInt.toNat) u.toInt ((I1 (a0 Q p0 25) 0).toInt, (I1 (a0 Q p0 25) 1).toInt, (I1 (a0 Q p0 25) 2).toInt, (I1 (a0 Q p0 25) 3).toInt)) ∧ (∀ b, K b = 0 ∨ K b = 1 ∨ K b = 3 ∨ K b = 6 → I1 b = I b) ∧ J1 = J) t) (fun q => q ∈ L ∨ sz ≤ q)) 0 0 (fun q => q ∈ L ∨ sz ≤ q) := by
  refine Met.ofW (cc := cX7_hasBox) (maxL := 3) (ret := (some .boolean)) (by decide +kernel) rfl ?_
  intro p e s m args below meth c s₁ B hml hv
  obtain ⟨rfl, hsz, hP, hK, hD0, hN⟩ := hv
  have hx := B.exec
  have hb := B.bytes
  have hr := B.returns
  have hts := fun w (h : w ∈ pw) => atoms_spec (ws := Cond.code yX7_hasBox cX7_hasBox 3 (some .boolean) :: pw) B.pre w (List.mem_cons_of_mem _ h)
  have hown : s.vm.findClass RX7 = some m.cls := findClass_of_methodNamed B.named
  have hlocks := B.notSynchronized
  subst hsz
  have hBB : 999 ≤ tm.2 ∧ tm.2 ≤ 6000000 := hI.2.2.2.2.1
  have dn_I : (∀ b, K b = 0 ∨ K b = 1 ∨ K b = 3 ∨ K b = 6 → I b = I b) := fun _ _ => rfl
  have dj_J : J = J := rfl
  have fr_I : ∀ b, ¬ (K b = 26 ∨ K b = 29) → I b = I b := fun _ _ => rfl
  obtain ⟨A, hAe⟩ : ∃ A : Nat → Prop, A = (fun q => q ∈ L ∨ s.heap.size ≤ q) := ⟨_, rfl⟩
  rw [← hAe]
  have hAL : ∀ q, q ∈ L → A q := fun q h => by rw [hAe]; exact Or.inl h
  have hA : ∀ q, s.heap.size ≤ q → A q := fun q h => by rw [hAe]; exact Or.inr h
  have hD : ∀ F, va_D A (va_pl L F) := fun F => (hD0 F).weaken (fun k q hk _ => hAL _ (pl_mem hk))
  obtain ⟨H, hHe⟩ : ∃ H : Heap, H = s.heap := ⟨_, rfl⟩
  have hS : va_S A s.heap H [] := by rw [hHe]; exact va_S.rf
  rw [← hHe] at hP
  have hl := lv_entry ([.ref p0, .int p1]) (n := 3) (Nat.le_of_ble_eq_true rfl)
  rw [lg_entry_eq]
  generalize (lg_sl ([.ref p0, .int p1]) ++ List.replicate (3 - (lg_sl ([.ref p0, .int p1])).length) Slot.unset).toArray = ls at hl ⊢
  have hl : lv_has ls 3 [(0, .ref p0), (1, .int p1)] := hl
  rw [← hHe]
  refine namedW (fun R Qz hR hQz => ?_)
  refine lv_aload_n hx hb dX7_hasBox_0 rfl (lv_at hl 0 rfl) ?_
  refine lv_iload_n hx hb dX7_hasBox_1 rfl (lv_at hl 1 rfl) ?_
  refine ro_i (va_runV (As := [.int p1]) (rest := []) ⟨hx, hb, hml, hown, hts⟩ (s_X7_maskOf l dC dI cs L K G Q hQ x0 m0 tx tm H.size I J hI p0 hLp0 hKp0 p1 ⟨by omega, by omega⟩) (cwV 1 hts (gV pq1431 pq1433 pq41 pq81 pq1434) rfl rfl rfl (by decide +kernel) ⟨(by rw [hR]; exact (Nat.le_of_ble_eq_true rfl)), (by rw [hR]; exact (Nat.le_of_ble_eq_true rfl))⟩) (sP_V hP hD hK hN hLp0 hKp0 rfl rfl) rfl rfl hl.1 rfl (lv_room (Nat.le_of_ble_eq_true rfl)) dX7_hasBox_2 ⟨(by rw [hR]; exact (Nat.le_of_ble_eq_true rfl)), (by rw [hR]; exact (Nat.le_of_ble_eq_true rfl))⟩) hS hP (fun z2 H locs hz2 hP hS => ?_)
  obtain ⟨bz2, fez2⟩ := hz2
  refine lv_istore_n (lv' := [(2, .int z2), (0, .ref p0), (1, .int p1)]) hx hb dX7_hasBox_5 rfl hl (by decide) rfl (fun ls hl => ?_)
  refine lv_aload_n hx hb dX7_hasBox_6 rfl (lv_at hl 1 rfl) ?_
  refine lv_iload_n hx hb dX7_hasBox_7 rfl (lv_at hl 0 rfl) ?_
  refine sw_ir (Z := (fun u => (fun I1 J1 => Iv L K x0 m0 tx tm I1 ∧ (∀ b, ¬ (K b = 26) → I1 b = I b) ∧ rcI (hs (rW Q I p0 z2.toInt.toNat) (rH Q I p0 z2.toInt.toNat) (rF Q J p0 z2.toInt.toNat)) u.toInt ((I1 (a0 Q p0 20) 0).toInt, (I1 (a0 Q p0 20) 1).toInt, (I1 (a0 Q p0 20) 2).toInt, (I1 (a0 Q p0 20) 3).toInt) ∧ (∀ b, K b = 0 ∨ K b = 1 ∨ K b = 3 ∨ K b = 6 → I1 b = I b) ∧ J1 = J))) (va_runV (As := [.int z2]) (rest := []) ⟨hx, hb, hml, hown, hts⟩ (s_X7_reaches l dC dI cs L K G Q hQ x0 m0 tx tm H.size I J hI p0 hLp0 hKp0 z2 ⟨by omega, by omega⟩) (cwV 1 hts (gV pq1506 pq1508 pq53 pq81 pq1509) rfl rfl rfl (by decide +kernel) ⟨(by rw [hR]; exact (Nat.le_of_ble_eq_true rfl)), (by rw [hR]; exact (Nat.le_of_ble_eq_true rfl))⟩) (sP_V hP hD hK hN hLp0 hKp0 rfl rfl) rfl rfl hl.1 rfl (lv_room (Nat.le_of_ble_eq_true rfl)) dX7_hasBox_8 ⟨(by rw [hR]; exact (Nat.le_of_ble_eq_true rfl)), (by rw [hR]; exact (Nat.le_of_ble_eq_true rfl))⟩) hS hAL hA (fun z8 Iz8 Jz8 H locs hz8 hIz8 hP hS => ?_)
  obtain ⟨hIz8, frc8, fz8, dnc8, djc8⟩ := hIz8
  obtain rfl : J = Jz8 := djc8.symm
  have dn_Iz8 : (∀ b, K b = 0 ∨ K b = 1 ∨ K b = 3 ∨ K b = 6 → Iz8 b = I b) := fun b hc => (dnc8 b (by omega)).trans (dn_I b hc)
  have fr_Iz8 : ∀ b, ¬ (K b = 26 ∨ K b = 29) → Iz8 b = I b := fun b q => (frc8 b (fun z => q (by omega))).trans (fr_I b q)
  have bz8 := hz8
  refine lv_if_ne (tgt := 16) hx hb dX7_hasBox_11 (by decide) (fun c11 => ?_) (fun c11 => ?_)
  · have t11 := tq_ne (k := z8.toInt) (q := (0)) c11 rfl (by decide +kernel)
    refine lv_aload_n hx hb dX7_hasBox_16 rfl (lv_at hl 1 rfl) ?_
    obtain ⟨y17, ey17, hLy17, hKy17⟩ := oQ_7_25 (Sv_at hQ hLp0 hKp0)
    refine p_get (v := .ref y17) hx hb hts inX7 hown hK hP hLp0 hKp0 rfl rfl 25 (by decide) (hts _ pq1140) (congrArg (fun q => some (va_rf q)) ey17) dX7_hasBox_17 ?_
    refine lv_iconst (v := 0) hx hb dX7_hasBox_20 (by decide +kernel) ?_
    refine lv_aload_n hx hb dX7_hasBox_21 rfl (lv_at hl 1 rfl) ?_
    refine lv_iload_n hx hb dX7_hasBox_22 rfl (lv_at hl 2 rfl) ?_
    refine lv_iconst (v := 1) hx hb dX7_hasBox_23 (by decide +kernel) ?_
    refine ro_i (va_runV (As := [.int p1, .int 1]) (rest := [.int 0, .ref y17]) ⟨hx, hb, hml, hown, hts⟩ (s_X7_of l dC dI cs L K G Q hQ x0 m0 tx tm H.size Iz8 J hIz8 p0 hLp0 hKp0 p1 ⟨by omega, by omega⟩ 1 ⟨by decide +kernel, by decide +kernel⟩) (cwV 2 hts (gV pq1320 pq1322 pq25 pq81 pq1323) rfl rfl rfl (by decide +kernel) ⟨(by rw [hR]; exact (Nat.le_of_ble_eq_true rfl)), (by rw [hR]; exact (Nat.le_of_ble_eq_true rfl))⟩) (sP_V hP hD hK hN hLp0 hKp0 rfl rfl) rfl rfl hl.1 rfl (lv_room (Nat.le_of_ble_eq_true rfl)) dX7_hasBox_24 ⟨(by rw [hR]; exact (Nat.le_of_ble_eq_true rfl)), (by rw [hR]; exact (Nat.le_of_ble_eq_true rfl))⟩) hS hP (fun z24 H locs hz24 hP hS => ?_)
    have cst24_1 : (1 : Int32).toInt = 1 := by decide +kernel
    obtain ⟨fez24, xpz24⟩ := hz24
    have bz24 := xpz24.2.1 rfl
    refine lv_aload_n hx hb dX7_hasBox_27 rfl (lv_at hl 1 rfl) ?_
    refine lv_iload_n hx hb dX7_hasBox_28 rfl (lv_at hl 0 rfl) ?_
    refine lv_iload_n hx hb dX7_hasBox_29 rfl (lv_at hl 2 rfl) ?_
    refine ro_i (va_runV (As := [.int z2, .int p1]) (rest := [.int z24, .int 0, .ref y17]) ⟨hx, hb, hml, hown, hts⟩ (s_X7_leftOf l dC dI cs L K G Q hQ x0 m0 tx tm H.size Iz8 J hIz8 p0 hLp0 hKp0 z2 ⟨by omega, by omega⟩ p1 ⟨by omega, by omega⟩) (cwV 2 hts (gV pq1510 pq1512 pq54 pq81 pq1513) rfl rfl rfl (by decide +kernel) ⟨(by rw [hR]; exact (Nat.le_of_ble_eq_true rfl)), (by rw [hR]; exact (Nat.le_of_ble_eq_true rfl))⟩) (sP_V hP hD hK hN hLp0 hKp0 rfl rfl) rfl rfl hl.1 rfl (lv_room (Nat.le_of_ble_eq_true rfl)) dX7_hasBox_30 ⟨(by rw [hR]; exact (Nat.le_of_ble_eq_true rfl)), (by rw [hR]; exact (Nat.le_of_ble_eq_true rfl))⟩) hS hP (fun z30 H locs hz30 hP hS => ?_)
    obtain ⟨bz30, xpz30⟩ := hz30
    refine lv_iadd hx hb dX7_hasBox_33 ?_
    refine lv_topi (fun z33 ez33 => ?_)
    have bz33 := tq_add (k := z24.toInt) (q := z30.toInt) ez33 rfl rfl (by omega) (by omega)
    refine p_iast hx hb hK hP hD hS 19 hLy17 hKy17 rfl (fun _ => rfl) rfl (in_d (by decide +kernel)) dX7_hasBox_34 (fun H locs hP hS => ?_)
    obtain ⟨Iz34, hP, hIz34, qIz34⟩ : ∃ Iz34, va_P (dC, dI) vwCl (Wd cs L K Iz34 J Q) H ∧ Iv L K x0 m0 tx tm Iz34 ∧ Iz34 = va_up Iz8 y17 (upd (Iz8 y17) (0 : Int32).toNatClampNeg z33) := ⟨_, hP, Iv_put hIz8 hKy17 (oP_29 (Iv_at hIz8 hLy17 hKy17) ⟨by omega, by omega⟩) (Or.inl (by decide)) (Or.inl (by decide)), rfl⟩
    have dn_Iz34 : (∀ b, K b = 0 ∨ K b = 1 ∨ K b = 3 ∨ K b = 6 → Iz34 b = I b) := fun b hc => (congrFun qIz34 b).trans ((va_up_ne _ _ (fun z => by have q := hKy17; rw [← z] at q; omega)).trans (dn_Iz8 b hc))
    have fr_Iz34 : ∀ b, ¬ (K b = 26 ∨ K b = 29) → Iz34 b = I b := fun b q => (congrFun qIz34 b).trans ((va_up_ne _ _ (fun z => q (by rw [z]; have := hKy17; omega))).trans (fr_Iz8 b q))
    refine lv_aload_n hx hb dX7_hasBox_35 rfl (lv_at hl 1 rfl) ?_
    refine p_get (v := .ref y17) hx hb hts inX7 hown hK hP hLp0 hKp0 rfl rfl 25 (by decide) (hts _ pq1140) (congrArg (fun q => some (va_rf q)) ey17) dX7_hasBox_36 ?_
    refine lv_iconst (v := 1) hx hb dX7_hasBox_39 (by decide +kernel) ?_
    refine lv_aload_n hx hb dX7_hasBox_40 rfl (lv_at hl 1 rfl) ?_
    refine lv_iload_n hx hb dX7_hasBox_41 rfl (lv_at hl 2 rfl) ?_
    refine lv_iconst (v := 2) hx hb dX7_hasBox_42 (by decide +kernel) ?_
    refine ro_i (va_runV (As := [.int p1, .int 2]) (rest := [.int 1, .ref y17]) ⟨hx, hb, hml, hown, hts⟩ (s_X7_of l dC dI cs L K G Q hQ x0 m0 tx tm H.size Iz34 J hIz34 p0 hLp0 hKp0 p1 ⟨by omega, by omega⟩ 2 ⟨by decide +kernel, by decide +kernel⟩) (cwV 2 hts (gV pq1320 pq1322 pq25 pq81 pq1323) rfl rfl rfl (by decide +kernel) ⟨(by rw [hR]; exact (Nat.le_of_ble_eq_true rfl)), (by rw [hR]; exact (Nat.le_of_ble_eq_true rfl))⟩) (sP_V hP hD hK hN hLp0 hKp0 rfl rfl) rfl rfl hl.1 rfl (lv_room (Nat.le_of_ble_eq_true rfl)) dX7_hasBox_43 ⟨(by rw [hR]; exact (Nat.le_of_ble_eq_true rfl)), (by rw [hR]; exact (Nat.le_of_ble_eq_true rfl))⟩) hS hP (fun z43 H locs hz43 hP hS => ?_)
    have cst43_2 : (2 : Int32).toInt = 2 := by decide +kernel
    obtain ⟨fez43, xpz43⟩ := hz43
    have bz43 := xpz43.2.2.1 rfl
    refine lv_aload_n hx hb dX7_hasBox_46 rfl (lv_at hl 1 rfl) ?_
    refine lv_iload_n hx hb dX7_hasBox_47 rfl (lv_at hl 0 rfl) ?_
    refine lv_iload_n hx hb dX7_hasBox_48 rfl (lv_at hl 2 rfl) ?_
    refine ro_i (va_runV (As := [.int z2, .int p1]) (rest := [.int z43, .int 1, .ref y17]) ⟨hx, hb, hml, hown, hts⟩ (s_X7_aboveOf l dC dI cs L K G Q hQ x0 m0 tx tm H.size Iz34 J hIz34 p0 hLp0 hKp0 z2 ⟨by omega, by omega⟩ p1 ⟨by omega, by omega⟩) (cwV 2 hts (gV pq1514 pq1516 pq55 pq81 pq1517) rfl rfl rfl (by decide +kernel) ⟨(by rw [hR]; exact (Nat.le_of_ble_eq_true rfl)), (by rw [hR]; exact (Nat.le_of_ble_eq_true rfl))⟩) (sP_V hP hD hK hN hLp0 hKp0 rfl rfl) rfl rfl hl.1 rfl (lv_room (Nat.le_of_ble_eq_true rfl)) dX7_hasBox_49 ⟨(by rw [hR]; exact (Nat.le_of_ble_eq_true rfl)), (by rw [hR]; exact (Nat.le_of_ble_eq_true rfl))⟩) hS hP (fun z49 H locs hz49 hP hS => ?_)
    obtain ⟨bz49, xpz49⟩ := hz49
    refine lv_iadd hx hb dX7_hasBox_52 ?_
    refine lv_topi (fun z52 ez52 => ?_)
    have bz52 := tq_add (k := z43.toInt) (q := z49.toInt) ez52 rfl rfl (by omega) (by omega)
    refine p_iast hx hb hK hP hD hS 19 hLy17 hKy17 rfl (fun _ => rfl) rfl (in_d (by decide +kernel)) dX7_hasBox_53 (fun H locs hP hS => ?_)
    obtain ⟨Iz53, hP, hIz53, qIz53⟩ : ∃ Iz53, va_P (dC, dI) vwCl (Wd cs L K Iz53 J Q) H ∧ Iv L K x0 m0 tx tm Iz53 ∧ Iz53 = va_up Iz34 y17 (upd (Iz34 y17) (1 : Int32).toNatClampNeg z52) := ⟨_, hP, Iv_put hIz34 hKy17 (oP_29 (Iv_at hIz34 hLy17 hKy17) ⟨by omega, by omega⟩) (Or.inl (by decide)) (Or.inl (by decide)), rfl⟩
    have dn_Iz53 : (∀ b, K b = 0 ∨ K b = 1 ∨ K b = 3 ∨ K b = 6 → Iz53 b = I b) := fun b hc => (congrFun qIz53 b).trans ((va_up_ne _ _ (fun z => by have q := hKy17; rw [← z] at q; omega)).trans (dn_Iz34 b hc))
    have fr_Iz53 : ∀ b, ¬ (K b = 26 ∨ K b = 29) → Iz53 b = I b := fun b q => (congrFun qIz53 b).trans ((va_up_ne _ _ (fun z => q (by rw [z]; have := hKy17; omega))).trans (fr_Iz34 b q))
    refine lv_aload_n hx hb dX7_hasBox_54 rfl (lv_at hl 1 rfl) ?_
    refine p_get (v := .ref y17) hx hb hts inX7 hown hK hP hLp0 hKp0 rfl rfl 25 (by decide) (hts _ pq1140) (congrArg (fun q => some (va_rf q)) ey17) dX7_hasBox_55 ?_
    refine lv_iconst (v := 2) hx hb dX7_hasBox_58 (by decide +kernel) ?_
    refine lv_aload_n hx hb dX7_hasBox_59 rfl (lv_at hl 1 rfl) ?_
    refine p_get (v := .ref y17) hx hb hts inX7 hown hK hP hLp0 hKp0 rfl rfl 25 (by decide) (hts _ pq1140) (congrArg (fun q => some (va_rf q)) ey17) dX7_hasBox_60 ?_
    refine lv_iconst (v := 0) hx hb dX7_hasBox_63 (by decide +kernel) ?_
    refine p_iald hx hb hK hP 19 hLy17 hKy17 rfl rfl (in_d (by decide +kernel)) dX7_hasBox_64 ?_
    refine lv_topi (fun z64 ez64 => ?_)
    have bz64 := oR_29 (i := (0 : Int32)) (Iv_at hIz53 hLy17 hKy17)
    rw [← ez64] at bz64
    have c64 := congrArg Int32.toInt (show z64 = z33 from by rw [ez64, qIz53, va_up_self, qIz34, va_up_self]; rfl)
    refine lv_aload_n hx hb dX7_hasBox_65 rfl (lv_at hl 1 rfl) ?_
    obtain ⟨y66, ey66, hLy66, hKy66⟩ := oQ_7_20 (Sv_at hQ hLp0 hKp0)
    refine p_get (v := .ref y66) hx hb hts inX7 hown hK hP hLp0 hKp0 rfl rfl 20 (by decide) (hts _ pq1135) (congrArg (fun q => some (va_rf q)) ey66) dX7_hasBox_66 ?_
    refine lv_iconst (v := 2) hx hb dX7_hasBox_69 (by decide +kernel) ?_
    refine p_iald hx hb hK hP 16 hLy66 hKy66 rfl rfl (in_d (by decide +kernel)) dX7_hasBox_70 ?_
    refine lv_topi (fun z70 ez70 => ?_)
    have bz70 := oR_26 (i := (2 : Int32)) (k := (2)) (by decide +kernel) (Iv_at hIz53 hLy66 hKy66)
    rw [← ez70] at bz70
    refine lv_iadd hx hb dX7_hasBox_71 ?_
    refine lv_topi (fun z71 ez71 => ?_)
    have bz71 := tq_add (k := z64.toInt) (q := z70.toInt) ez71 rfl rfl (by omega) (by omega)
    refine lv_aload_n hx hb dX7_hasBox_72 rfl (lv_at hl 1 rfl) ?_
    refine p_get (v := .ref y66) hx hb hts inX7 hown hK hP hLp0 hKp0 rfl rfl 20 (by decide) (hts _ pq1135) (congrArg (fun q => some (va_rf q)) ey66) dX7_hasBox_73 ?_
    refine lv_iconst (v := 0) hx hb dX7_hasBox_76 (by decide +kernel) ?_
    refine p_iald hx hb hK hP 16 hLy66 hKy66 rfl rfl (in_d (by decide +kernel)) dX7_hasBox_77 ?_
    refine lv_topi (fun z77 ez77 => ?_)
    have bz77 := oR_26 (i := (0 : Int32)) (k := (0)) (by decide +kernel) (Iv_at hIz53 hLy66 hKy66)
    rw [← ez77] at bz77
    refine lv_isub hx hb dX7_hasBox_78 ?_
    refine lv_topi (fun z78 ez78 => ?_)
    have bz78 := tq_sub (k := z71.toInt) (q := z77.toInt) ez78 rfl rfl (by omega) (by omega)
    refine p_iast hx hb hK hP hD hS 19 hLy17 hKy17 rfl (fun _ => rfl) rfl (in_d (by decide +kernel)) dX7_hasBox_79 (fun H locs hP hS => ?_)
    obtain ⟨Iz79, hP, hIz79, qIz79⟩ : ∃ Iz79, va_P (dC, dI) vwCl (Wd cs L K Iz79 J Q) H ∧ Iv L K x0 m0 tx tm Iz79 ∧ Iz79 = va_up Iz53 y17 (upd (Iz53 y17) (2 : Int32).toNatClampNeg z78) := ⟨_, hP, Iv_put hIz53 hKy17 (oP_29 (Iv_at hIz53 hLy17 hKy17) ⟨by omega, by omega⟩) (Or.inl (by decide)) (Or.inl (by decide)), rfl⟩
    have dn_Iz79 : (∀ b, K b = 0 ∨ K b = 1 ∨ K b = 3 ∨ K b = 6 → Iz79 b = I b) := fun b hc => (congrFun qIz79 b).trans ((va_up_ne _ _ (fun z => by have q := hKy17; rw [← z] at q; omega)).trans (dn_Iz53 b hc))
    have fr_Iz79 : ∀ b, ¬ (K b = 26 ∨ K b = 29) → Iz79 b = I b := fun b q => (congrFun qIz79 b).trans ((va_up_ne _ _ (fun z => q (by rw [z]; have := hKy17; omega))).trans (fr_Iz53 b q))
    refine lv_aload_n hx hb dX7_hasBox_80 rfl (lv_at hl 1 rfl) ?_
    refine p_get (v := .ref y17) hx hb hts inX7 hown hK hP hLp0 hKp0 rfl rfl 25 (by decide) (hts _ pq1140) (congrArg (fun q => some (va_rf q)) ey17) dX7_hasBox_81 ?_
    refine lv_iconst (v := 3) hx hb dX7_hasBox_84 (by decide +kernel) ?_
    refine lv_aload_n hx hb dX7_hasBox_85 rfl (lv_at hl 1 rfl) ?_
    refine p_get (v := .ref y17) hx hb hts inX7 hown hK hP hLp0 hKp0 rfl rfl 25 (by decide) (hts _ pq1140) (congrArg (fun q => some (va_rf q)) ey17) dX7_hasBox_86 ?_
    refine lv_iconst (v := 1) hx hb dX7_hasBox_89 (by decide +kernel) ?_
    refine p_iald hx hb hK hP 19 hLy17 hKy17 rfl rfl (in_d (by decide +kernel)) dX7_hasBox_90 ?_
    refine lv_topi (fun z90 ez90 => ?_)
    have bz90 := oR_29 (i := (1 : Int32)) (Iv_at hIz79 hLy17 hKy17)
    rw [← ez90] at bz90
    have c90 := congrArg Int32.toInt (show z90 = z52 from by rw [ez90, qIz79, va_up_self, qIz53, va_up_self]; rfl)
    refine lv_aload_n hx hb dX7_hasBox_91 rfl (lv_at hl 1 rfl) ?_
    refine p_get (v := .ref y66) hx hb hts inX7 hown hK hP hLp0 hKp0 rfl rfl 20 (by decide) (hts _ pq1135) (congrArg (fun q => some (va_rf q)) ey66) dX7_hasBox_92 ?_
    refine lv_iconst (v := 3) hx hb dX7_hasBox_95 (by decide +kernel) ?_
    refine p_iald hx hb hK hP 16 hLy66 hKy66 rfl rfl (in_d (by decide +kernel)) dX7_hasBox_96 ?_
    refine lv_topi (fun z96 ez96 => ?_)
    have bz96 := oR_26 (i := (3 : Int32)) (k := (3)) (by decide +kernel) (Iv_at hIz79 hLy66 hKy66)
    rw [← ez96] at bz96
    refine lv_iadd hx hb dX7_hasBox_97 ?_
    refine lv_topi (fun z97 ez97 => ?_)
    have bz97 := tq_add (k := z90.toInt) (q := z96.toInt) ez97 rfl rfl (by omega) (by omega)
    refine lv_aload_n hx hb dX7_hasBox_98 rfl (lv_at hl 1 rfl) ?_
    refine p_get (v := .ref y66) hx hb hts inX7 hown hK hP hLp0 hKp0 rfl rfl 20 (by decide) (hts _ pq1135) (congrArg (fun q => some (va_rf q)) ey66) dX7_hasBox_99 ?_
    refine lv_iconst (v := 1) hx hb dX7_hasBox_102 (by decide +kernel) ?_
    refine p_iald hx hb hK hP 16 hLy66 hKy66 rfl rfl (in_d (by decide +kernel)) dX7_hasBox_103 ?_
    refine lv_topi (fun z103 ez103 => ?_)
    have bz103 := oR_26 (i := (1 : Int32)) (k := (1)) (by decide +kernel) (Iv_at hIz79 hLy66 hKy66)
    rw [← ez103] at bz103
    refine lv_isub hx hb dX7_hasBox_104 ?_
    refine lv_topi (fun z104 ez104 => ?_)
    have bz104 := tq_sub (k := z97.toInt) (q := z103.toInt) ez104 rfl rfl (by omega) (by omega)
    refine p_iast hx hb hK hP hD hS 19 hLy17 hKy17 rfl (fun _ => rfl) rfl (in_d (by decide +kernel)) dX7_hasBox_105 (fun H locs hP hS => ?_)
    obtain ⟨Iz105, hP, hIz105, qIz105⟩ : ∃ Iz105, va_P (dC, dI) vwCl (Wd cs L K Iz105 J Q) H ∧ Iv L K x0 m0 tx tm Iz105 ∧ Iz105 = va_up Iz79 y17 (upd (Iz79 y17) (3 : Int32).toNatClampNeg z104) := ⟨_, hP, Iv_put hIz79 hKy17 (oP_29 (Iv_at hIz79 hLy17 hKy17) ⟨by omega, by omega⟩) (Or.inl (by decide)) (Or.inl (by decide)), rfl⟩
    have dn_Iz105 : (∀ b, K b = 0 ∨ K b = 1 ∨ K b = 3 ∨ K b = 6 → Iz105 b = I b) := fun b hc => (congrFun qIz105 b).trans ((va_up_ne _ _ (fun z => by have q := hKy17; rw [← z] at q; omega)).trans (dn_Iz79 b hc))
    have fr_Iz105 : ∀ b, ¬ (K b = 26 ∨ K b = 29) → Iz105 b = I b := fun b q => (congrFun qIz105 b).trans ((va_up_ne _ _ (fun z => q (by rw [z]; have := hKy17; omega))).trans (fr_Iz79 b q))
    refine lv_iconst (v := 1) hx hb dX7_hasBox_106 (by decide +kernel) ?_
    subst hR; subst hQz
    exact W.zret (v := 1) hx hb hr (by decide +kernel) (fun t ht hW => ⟨⟨1, 1, rfl, ⟨rfl, ⟨by decide +kernel, by decide +kernel⟩⟩, ⟨Iz105, J, ⟨hIz105, fr_Iz105, (fun c ok h hj hN => by have em : z2 = c.1 (19 + 8 * p1.toInt.toNat) := (show z2 = I (a0 Q p0 0) (19 + 8 * p1.toInt.toNat) from fez2).trans (h _ (by omega)); have eD : ∀ x y, hs (rW Q I p0 z2.toInt.toNat) (rH Q I p0 z2.toInt.toNat) (rF Q J p0 z2.toInt.toNat) x y = hs (bw_ c p1.toInt.toNat).toInt (bh_ c p1.toInt.toNat).toInt (mo c.2 (c.1 (19 + 8 * p1.toInt.toNat)).toInt.toNat) x y := (fun x y => by unfold bw_ bh_; rw [← em]; exact hs_congr (congrArg Int32.toInt (h _ (by omega))) (congrArg Int32.toInt (h _ (by omega))) (fun k hk => hj _ (by omega)) x y); have h8 := rI_fr (I1 := Iz8) hQ hLp0 hKp0 (fun b q => fr_Iz8 b (by omega)) h; have h34 := rI_fr (I1 := Iz34) hQ hLp0 hKp0 (fun b q => fr_Iz34 b (by omega)) h; have e := exD_at eD (fz8.2 t11); have x24 : z24.toInt = bX c p1.toInt.toNat := congrArg Int32.toInt ((show z24 = Iz8 (a0 Q p0 0) (19 + 8 * p1.toInt.toNat + 1) from fez24).trans (h8 _ (by omega))); have x43 : z43.toInt = bY c p1.toInt.toNat := congrArg Int32.toInt ((show z43 = Iz34 (a0 Q p0 0) (19 + 8 * p1.toInt.toNat + 2) from fez43).trans (h34 _ (by omega))); have x30 := xpz30 c ok h8 hN; have x49 := xpz49 c ok h34 hN; have ew : c.1 (3 + z2.toInt.toNat) = bw_ c p1.toInt.toNat := (by unfold bw_; rw [← em]); have eh : c.1 (11 + z2.toInt.toNat) = bh_ c p1.toInt.toNat := (by unfold bh_; rw [← em]); rw [ew] at x30; rw [eh] at x49; rw [show a0 Q p0 20 = y66 from gd_of ey66] at x30 x49 e; have n34 : Iz34 y66 = Iz8 y66 := (congrFun qIz34 y66).trans (va_up_ne _ _ (fun z => by have q := hKy17; rw [← z] at q; omega)); have n53 : Iz53 y66 = Iz8 y66 := ((congrFun qIz53 y66).trans (va_up_ne _ _ (fun z => by have q := hKy17; rw [← z] at q; omega))).trans n34; have n79 : Iz79 y66 = Iz8 y66 := ((congrFun qIz79 y66).trans (va_up_ne _ _ (fun z => by have q := hKy17; rw [← z] at q; omega))).trans n53; rw [n34] at x49; have c0 : Iz105 y17 0 = z33 := (by rw [qIz105, va_up_self, qIz79, va_up_self, qIz53, va_up_self, qIz34, va_up_self]; rfl); have c1 : Iz105 y17 1 = z52 := (by rw [qIz105, va_up_self, qIz79, va_up_self, qIz53, va_up_self]; rfl); have c2 : Iz105 y17 2 = z78 := (by rw [qIz105, va_up_self, qIz79, va_up_self]; rfl); have c3 : Iz105 y17 3 = z104 := (by rw [qIz105, va_up_self]; rfl); have v70 : z70.toInt = (Iz8 y66 2).toInt := congrArg Int32.toInt ((show z70 = Iz53 y66 2 from ez70).trans (by rw [n53])); have v77 : z77.toInt = (Iz8 y66 0).toInt := congrArg Int32.toInt ((show z77 = Iz53 y66 0 from ez77).trans (by rw [n53])); have v96 : z96.toInt = (Iz8 y66 3).toInt := congrArg Int32.toInt ((show z96 = Iz79 y66 3 from ez96).trans (by rw [n79])); have v103 : z103.toInt = (Iz8 y66 1).toInt := congrArg Int32.toInt ((show z103 = Iz79 y66 1 from ez103).trans (by rw [n79])); refine ⟨fun q => absurd q (by decide +kernel), fun _ => ?_⟩; rw [show a0 Q p0 25 = y17 from gd_of ey17, c0, c1, c2, c3]; have g0 := bz33; rw [x24, x30] at g0; have g1 := bz52; rw [x43, x49] at g1; have g2 := bz78; rw [bz71, c64, g0, v70, v77] at g2; have g3 := bz104; rw [bz97, c90, g1, v96, v103] at g3; rw [g0, g1, g2, g3]; exact e), dn_Iz105, dj_J⟩, by rw [ht]; exact hP⟩⟩, hS.F ht⟩) hS.2.2 dX7_hasBox_107
  · have t11 := tq_eq (k := z8.toInt) (q := (0)) c11 rfl (by decide +kernel)
    refine lv_iconst (v := 0) hx hb dX7_hasBox_14 (by decide +kernel) ?_
    subst hR; subst hQz
    exact W.zret (v := 0) hx hb hr (by decide +kernel) (fun t ht hW => ⟨⟨0, 0, rfl, ⟨rfl, ⟨by decide +kernel, by decide +kernel⟩⟩, ⟨Iz8, J, ⟨hIz8, fr_Iz8, (fun c ok h hj hN => by have em : z2 = c.1 (19 + 8 * p1.toInt.toNat) := (show z2 = I (a0 Q p0 0) (19 + 8 * p1.toInt.toNat) from fez2).trans (h _ (by omega)); have eD : ∀ x y, hs (rW Q I p0 z2.toInt.toNat) (rH Q I p0 z2.toInt.toNat) (rF Q J p0 z2.toInt.toNat) x y = hs (bw_ c p1.toInt.toNat).toInt (bh_ c p1.toInt.toNat).toInt (mo c.2 (c.1 (19 + 8 * p1.toInt.toNat)).toInt.toNat) x y := (fun x y => by unfold bw_ bh_; rw [← em]; exact hs_congr (congrArg Int32.toInt (h _ (by omega))) (congrArg Int32.toInt (h _ (by omega))) (fun k hk => hj _ (by omega)) x y); exact ⟨fun _ x y => by (unfold atD; rw [shp_fl, ← eD]; exact (fz8.1 t11) _ _), fun q => absurd (by decide +kernel) q⟩), dn_Iz8, dj_J⟩, by rw [ht]; exact hP⟩⟩, hS.F ht⟩) hS.2.2 dX7_hasBox_15

set_option maxHeartbeats 4000000 in
set_option maxRecDepth 100000 in
theorem s_X7_boxesMeet (l : Launch) (dC : Nat → ClassId) (dI : Nat → Nat → Nat) (cs : Nat → ClassId) (L : List Nat) (K G : Nat → Nat) (Q : Nat → Nat → Option Nat) (hQ : Sv L K G Q) (x0 m0 : Nat) (tx : GT) (tm : GT × Int) (sz : Nat) (I : Nat → Nat → Int32) (J : Nat → Nat → Int64) (hI : Iv L K x0 m0 tx tm I) (p0 : Nat) (hLp0 : p0 ∈ L) (hKp0 : K p0 = 7) (p1 : Int32) (bp1 : (0) ≤ p1.toInt ∧ p1.toInt ≤ 9) (p2 : Int32) (bp2 : (0) ≤ p2.toInt ∧ p2.toInt ≤ 9) : Met l yX7_boxesMeet (.code yX7_boxesMeet cX7_boxesMeet 7 (some .boolean) :: pw) ({ frames := 4, cells := 0, slots := 0, locals := 94 }) (sP (dC, dI) cs [.ref p0, .int p1, .int p2] sz L K I J Q) (va_Qi (fun (r : Int32) (_ : Unit) => ((0) ≤ r.toInt ∧ r.toInt ≤ 1) ∧ (∀ c : Fx, okF c → rI Q I p0 c → rJ Q J p0 c → p1.toInt.toNat < (c.1 1).toInt.toNat → p2.toInt.toNat < (c.1 1).toInt.toNat → (¬ r.toInt = 0 ↔ boxM c p1.toInt.toNat p2.toInt.toNat))) (fun _ t => sB (dC, dI) cs L K Q (fun I1 J1 => Iv L K x0 m0 tx tm I1 ∧ (∀ b, ¬ (K b = 26 ∨ K b = 29) → I1 b = I b) ∧ (∀ b, K b = 0 ∨ K b = 1 ∨ K b = 3 ∨ K b = 6 → I1 b = I b) ∧ J1 = J) t) (fun q => q ∈ L ∨ sz ≤ q)) 0 0 (fun q => q ∈ L ∨ sz ≤ q) := by
  refine Met.ofW (cc := cX7_boxesMeet) (maxL := 7) (ret := (some .boolean)) (by decide +kernel) rfl ?_
  intro p e s m args below meth c s₁ B hml hv
  obtain ⟨rfl, hsz, hP, hK, hD0, hN⟩ := hv
  have hx := B.exec
  have hb := B.bytes
  have hr := B.returns
  have hts := fun w (h : w ∈ pw) => atoms_spec (ws := Cond.code yX7_boxesMeet cX7_boxesMeet 7 (some .boolean) :: pw) B.pre w (List.mem_cons_of_mem _ h)
  have hown : s.vm.findClass RX7 = some m.cls := findClass_of_methodNamed B.named
  have hlocks := B.notSynchronized
  subst hsz
  have hBB : 999 ≤ tm.2 ∧ tm.2 ≤ 6000000 := hI.2.2.2.2.1
  have dn_I : (∀ b, K b = 0 ∨ K b = 1 ∨ K b = 3 ∨ K b = 6 → I b = I b) := fun _ _ => rfl
  have dj_J : J = J := rfl
  have fr_I : ∀ b, ¬ (K b = 26 ∨ K b = 29) → I b = I b := fun _ _ => rfl
  obtain ⟨A, hAe⟩ : ∃ A : Nat → Prop, A = (fun q => q ∈ L ∨ s.heap.size ≤ q) := ⟨_, rfl⟩
  rw [← hAe]
  have hAL : ∀ q, q ∈ L → A q := fun q h => by rw [hAe]; exact Or.inl h
  have hA : ∀ q, s.heap.size ≤ q → A q := fun q h => by rw [hAe]; exact Or.inr h
  have hD : ∀ F, va_D A (va_pl L F) := fun F => (hD0 F).weaken (fun k q hk _ => hAL _ (pl_mem hk))
  obtain ⟨H, hHe⟩ : ∃ H : Heap, H = s.heap := ⟨_, rfl⟩
  have hS : va_S A s.heap H [] := by rw [hHe]; exact va_S.rf
  rw [← hHe] at hP
  have hl := lv_entry ([.ref p0, .int p1, .int p2]) (n := 7) (Nat.le_of_ble_eq_true rfl)
  rw [lg_entry_eq]
  generalize (lg_sl ([.ref p0, .int p1, .int p2]) ++ List.replicate (7 - (lg_sl ([.ref p0, .int p1, .int p2])).length) Slot.unset).toArray = ls at hl ⊢
  have hl : lv_has ls 7 [(0, .ref p0), (1, .int p1), (2, .int p2)] := hl
  rw [← hHe]
  refine namedW (fun R Qz hR hQz => ?_)
  refine lv_aload_n hx hb dX7_boxesMeet_0 rfl (lv_at hl 0 rfl) ?_
  refine lv_iload_n hx hb dX7_boxesMeet_1 rfl (lv_at hl 1 rfl) ?_
  refine sw_ir (Z := (fun u => (fun I1 J1 => Iv L K x0 m0 tx tm I1 ∧ (∀ b, ¬ (K b = 26 ∨ K b = 29) → I1 b = I b) ∧ (∀ c : Fx, okF c → rI Q I p0 c → rJ Q J p0 c → p1.toInt.toNat < (c.1 1).toInt.toNat → rcI (atD c p1.toInt.toNat) u.toInt ((I1 (a0 Q p0 25) 0).toInt, (I1 (a0 Q p0 25) 1).toInt, (I1 (a0 Q p0 25) 2).toInt, (I1 (a0 Q p0 25) 3).toInt)) ∧ (∀ b, K b = 0 ∨ K b = 1 ∨ K b = 3 ∨ K b = 6 → I1 b = I b) ∧ J1 = J))) (va_runV (As := [.int p1]) (rest := []) ⟨hx, hb, hml, hown, hts⟩ (s_X7_hasBox l dC dI cs L K G Q hQ x0 m0 tx tm H.size I J hI p0 hLp0 hKp0 p1 ⟨by omega, by omega⟩) (cwV 1 hts (gV pq1600 pq1602 pq66 pq81 pq1603) rfl rfl rfl (by decide +kernel) ⟨(by rw [hR]; exact (Nat.le_of_ble_eq_true rfl)), (by rw [hR]; exact (Nat.le_of_ble_eq_true rfl))⟩) (sP_V hP hD hK hN hLp0 hKp0 rfl rfl) rfl rfl hl.1 rfl (lv_room (Nat.le_of_ble_eq_true rfl)) dX7_boxesMeet_2 ⟨(by rw [hR]; exact (Nat.le_of_ble_eq_true rfl)), (by rw [hR]; exact (Nat.le_of_ble_eq_true rfl))⟩) hS hAL hA (fun z2 Iz2 Jz2 H locs hz2 hIz2 hP hS => ?_)
  obtain ⟨hIz2, frc2, fz2, dnc2, djc2⟩ := hIz2
  obtain rfl : J = Jz2 := djc2.symm
  have dn_Iz2 : (∀ b, K b = 0 ∨ K b = 1 ∨ K b = 3 ∨ K b = 6 → Iz2 b = I b) := fun b hc => (dnc2 b (by omega)).trans (dn_I b hc)
  have fr_Iz2 : ∀ b, ¬ (K b = 26 ∨ K b = 29) → Iz2 b = I b := fun b q => (frc2 b (fun z => q (by omega))).trans (fr_I b q)
  have bz2 := hz2
  refine lv_if_ne (tgt := 10) hx hb dX7_boxesMeet_5 (by decide) (fun c5 => ?_) (fun c5 => ?_)
  · have t5 := tq_ne (k := z2.toInt) (q := (0)) c5 rfl (by decide +kernel)
    refine lv_aload_n hx hb dX7_boxesMeet_10 rfl (lv_at hl 0 rfl) ?_
    obtain ⟨y11, ey11, hLy11, hKy11⟩ := oQ_7_25 (Sv_at hQ hLp0 hKp0)
    refine p_get (v := .ref y11) hx hb hts inX7 hown hK hP hLp0 hKp0 rfl rfl 25 (by decide) (hts _ pq1140) (congrArg (fun q => some (va_rf q)) ey11) dX7_boxesMeet_11 ?_
    refine lv_iconst (v := 0) hx hb dX7_boxesMeet_14 (by decide +kernel) ?_
    refine p_iald hx hb hK hP 19 hLy11 hKy11 rfl rfl (in_d (by decide +kernel)) dX7_boxesMeet_15 ?_
    refine lv_topi (fun z15 ez15 => ?_)
    have bz15 := oR_29 (i := (0 : Int32)) (Iv_at hIz2 hLy11 hKy11)
    rw [← ez15] at bz15
    refine lv_istore_n (lv' := [(3, .int z15), (0, .ref p0), (1, .int p1), (2, .int p2)]) hx hb dX7_boxesMeet_16 rfl hl (by decide) rfl (fun ls hl => ?_)
    refine lv_aload_n hx hb dX7_boxesMeet_17 rfl (lv_at hl 1 rfl) ?_
    refine p_get (v := .ref y11) hx hb hts inX7 hown hK hP hLp0 hKp0 rfl rfl 25 (by decide) (hts _ pq1140) (congrArg (fun q => some (va_rf q)) ey11) dX7_boxesMeet_18 ?_
    refine lv_iconst (v := 1) hx hb dX7_boxesMeet_21 (by decide +kernel) ?_
    refine p_iald hx hb hK hP 19 hLy11 hKy11 rfl rfl (in_d (by decide +kernel)) dX7_boxesMeet_22 ?_
    refine lv_topi (fun z22 ez22 => ?_)
    have bz22 := oR_29 (i := (1 : Int32)) (Iv_at hIz2 hLy11 hKy11)
    rw [← ez22] at bz22
    refine lv_istore (lv' := [(4, .int z22), (3, .int z15), (0, .ref p0), (1, .int p1), (2, .int p2)]) hx hb dX7_boxesMeet_23 hl (by decide) rfl (fun ls hl => ?_)
    refine lv_aload_n hx hb dX7_boxesMeet_25 rfl (lv_at hl 2 rfl) ?_
    refine p_get (v := .ref y11) hx hb hts inX7 hown hK hP hLp0 hKp0 rfl rfl 25 (by decide) (hts _ pq1140) (congrArg (fun q => some (va_rf q)) ey11) dX7_boxesMeet_26 ?_
    refine lv_iconst (v := 2) hx hb dX7_boxesMeet_29 (by decide +kernel) ?_
    refine p_iald hx hb hK hP 19 hLy11 hKy11 rfl rfl (in_d (by decide +kernel)) dX7_boxesMeet_30 ?_
    refine lv_topi (fun z30 ez30 => ?_)
    have bz30 := oR_29 (i := (2 : Int32)) (Iv_at hIz2 hLy11 hKy11)
    rw [← ez30] at bz30
    refine lv_istore (lv' := [(5, .int z30), (4, .int z22), (3, .int z15), (0, .ref p0), (1, .int p1), (2, .int p2)]) hx hb dX7_boxesMeet_31 hl (by decide) rfl (fun ls hl => ?_)
    refine lv_aload_n hx hb dX7_boxesMeet_33 rfl (lv_at hl 3 rfl) ?_
    refine p_get (v := .ref y11) hx hb hts inX7 hown hK hP hLp0 hKp0 rfl rfl 25 (by decide) (hts _ pq1140) (congrArg (fun q => some (va_rf q)) ey11) dX7_boxesMeet_34 ?_
    refine lv_iconst (v := 3) hx hb dX7_boxesMeet_37 (by decide +kernel) ?_
    refine p_iald hx hb hK hP 19 hLy11 hKy11 rfl rfl (in_d (by decide +kernel)) dX7_boxesMeet_38 ?_
    refine lv_topi (fun z38 ez38 => ?_)
    have bz38 := oR_29 (i := (3 : Int32)) (Iv_at hIz2 hLy11 hKy11)
    rw [← ez38] at bz38
    refine lv_istore (lv' := [(6, .int z38), (5, .int z30), (4, .int z22), (3, .int z15), (0, .ref p0), (1, .int p1), (2, .int p2)]) hx hb dX7_boxesMeet_39 hl (by decide) rfl (fun ls hl => ?_)
    refine lv_aload_n hx hb dX7_boxesMeet_41 rfl (lv_at hl 4 rfl) ?_
    refine lv_iload_n hx hb dX7_boxesMeet_42 rfl (lv_at hl 6 rfl) ?_
    refine sw_ir (Z := (fun u => (fun I1 J1 => Iv L K x0 m0 tx tm I1 ∧ (∀ b, ¬ (K b = 26 ∨ K b = 29) → I1 b = Iz2 b) ∧ (∀ c : Fx, okF c → rI Q Iz2 p0 c → rJ Q J p0 c → p2.toInt.toNat < (c.1 1).toInt.toNat → rcI (atD c p2.toInt.toNat) u.toInt ((I1 (a0 Q p0 25) 0).toInt, (I1 (a0 Q p0 25) 1).toInt, (I1 (a0 Q p0 25) 2).toInt, (I1 (a0 Q p0 25) 3).toInt)) ∧ (∀ b, K b = 0 ∨ K b = 1 ∨ K b = 3 ∨ K b = 6 → I1 b = Iz2 b) ∧ J1 = J))) (va_runV (As := [.int p2]) (rest := []) ⟨hx, hb, hml, hown, hts⟩ (s_X7_hasBox l dC dI cs L K G Q hQ x0 m0 tx tm H.size Iz2 J hIz2 p0 hLp0 hKp0 p2 ⟨by omega, by omega⟩) (cwV 1 hts (gV pq1600 pq1602 pq66 pq81 pq1603) rfl rfl rfl (by decide +kernel) ⟨(by rw [hR]; exact (Nat.le_of_ble_eq_true rfl)), (by rw [hR]; exact (Nat.le_of_ble_eq_true rfl))⟩) (sP_V hP hD hK hN hLp0 hKp0 rfl rfl) rfl rfl hl.1 rfl (lv_room (Nat.le_of_ble_eq_true rfl)) dX7_boxesMeet_43 ⟨(by rw [hR]; exact (Nat.le_of_ble_eq_true rfl)), (by rw [hR]; exact (Nat.le_of_ble_eq_true rfl))⟩) hS hAL hA (fun z43 Iz43 Jz43 H locs hz43 hIz43 hP hS => ?_)
    obtain ⟨hIz43, frc43, fz43, dnc43, djc43⟩ := hIz43
    obtain rfl : J = Jz43 := djc43.symm
    have dn_Iz43 : (∀ b, K b = 0 ∨ K b = 1 ∨ K b = 3 ∨ K b = 6 → Iz43 b = I b) := fun b hc => (dnc43 b (by omega)).trans (dn_Iz2 b hc)
    have fr_Iz43 : ∀ b, ¬ (K b = 26 ∨ K b = 29) → Iz43 b = I b := fun b q => (frc43 b (fun z => q (by omega))).trans (fr_Iz2 b q)
    have bz43 := hz43
    refine lv_if_eq (tgt := 96) hx hb dX7_boxesMeet_46 (by decide) (fun c46 => ?_) (fun c46 => ?_)
    · have t46 := tq_eq (k := z43.toInt) (q := (0)) c46 rfl (by decide +kernel)
      refine lv_iconst (v := 0) hx hb dX7_boxesMeet_96 (by decide +kernel) ?_
      subst hR; subst hQz
      exact W.zret (v := 0) hx hb hr (by decide +kernel) (fun t ht hW => ⟨⟨0, (), rfl, ⟨⟨by decide +kernel, by decide +kernel⟩, (fun c ok h hj ha hb => by have b2 := fz2 c ok h hj ha; refine ⟨fun q => absurd (by decide +kernel) q, fun q => ?_⟩; first | exact absurd q (boxM_no ok ha hb (Or.inl (b2.1 t5))) | (have b43 := fz43 c ok (rI_fr (I1 := Iz2) hQ hLp0 hKp0 (fun b q => fr_Iz2 b (by omega)) h) hj hb; exact absurd q (boxM_no ok ha hb (Or.inr (b43.1 t46)))) | (have b43 := fz43 c ok (rI_fr (I1 := Iz2) hQ hLp0 hKp0 (fun b q => fr_Iz2 b (by omega)) h) hj hb; rw [show a0 Q p0 25 = y11 from gd_of ey11] at b2 b43; have m : boxM c p1.toInt.toNat p2.toInt.toNat ↔ ((Iz43 y11 0).toInt ≤ (Iz2 y11 2).toInt ∧ (Iz2 y11 0).toInt ≤ (Iz43 y11 2).toInt) ∧ (Iz43 y11 1).toInt ≤ (Iz2 y11 3).toInt ∧ (Iz2 y11 1).toInt ≤ (Iz43 y11 3).toInt := boxM_ex ok ha hb (b2.2 t5) (b43.2 t46); have k := m.mp q; have v86 : z86.toInt = (Iz43 y11 3).toInt := congrArg Int32.toInt (show z86 = Iz43 y11 3 from ez86); have v22 : z22.toInt = (Iz2 y11 1).toInt := congrArg Int32.toInt (show z22 = Iz2 y11 1 from ez22); omega) | (have b43 := fz43 c ok (rI_fr (I1 := Iz2) hQ hLp0 hKp0 (fun b q => fr_Iz2 b (by omega)) h) hj hb; rw [show a0 Q p0 25 = y11 from gd_of ey11] at b2 b43; have m : boxM c p1.toInt.toNat p2.toInt.toNat ↔ ((Iz43 y11 0).toInt ≤ (Iz2 y11 2).toInt ∧ (Iz2 y11 0).toInt ≤ (Iz43 y11 2).toInt) ∧ (Iz43 y11 1).toInt ≤ (Iz2 y11 3).toInt ∧ (Iz2 y11 1).toInt ≤ (Iz43 y11 3).toInt := boxM_ex ok ha hb (b2.2 t5) (b43.2 t46); have k := m.mp q; have v75 : z75.toInt = (Iz43 y11 1).toInt := congrArg Int32.toInt (show z75 = Iz43 y11 1 from ez75); have v38 : z38.toInt = (Iz2 y11 3).toInt := congrArg Int32.toInt (show z38 = Iz2 y11 3 from ez38); omega) | (have b43 := fz43 c ok (rI_fr (I1 := Iz2) hQ hLp0 hKp0 (fun b q => fr_Iz2 b (by omega)) h) hj hb; rw [show a0 Q p0 25 = y11 from gd_of ey11] at b2 b43; have m : boxM c p1.toInt.toNat p2.toInt.toNat ↔ ((Iz43 y11 0).toInt ≤ (Iz2 y11 2).toInt ∧ (Iz2 y11 0).toInt ≤ (Iz43 y11 2).toInt) ∧ (Iz43 y11 1).toInt ≤ (Iz2 y11 3).toInt ∧ (Iz2 y11 1).toInt ≤ (Iz43 y11 3).toInt := boxM_ex ok ha hb (b2.2 t5) (b43.2 t46); have k := m.mp q; have v65 : z65.toInt = (Iz43 y11 2).toInt := congrArg Int32.toInt (show z65 = Iz43 y11 2 from ez65); have v15 : z15.toInt = (Iz2 y11 0).toInt := congrArg Int32.toInt (show z15 = Iz2 y11 0 from ez15); omega) | (have b43 := fz43 c ok (rI_fr (I1 := Iz2) hQ hLp0 hKp0 (fun b q => fr_Iz2 b (by omega)) h) hj hb; rw [show a0 Q p0 25 = y11 from gd_of ey11] at b2 b43; have m : boxM c p1.toInt.toNat p2.toInt.toNat ↔ ((Iz43 y11 0).toInt ≤ (Iz2 y11 2).toInt ∧ (Iz2 y11 0).toInt ≤ (Iz43 y11 2).toInt) ∧ (Iz43 y11 1).toInt ≤ (Iz2 y11 3).toInt ∧ (Iz2 y11 1).toInt ≤ (Iz43 y11 3).toInt := boxM_ex ok ha hb (b2.2 t5) (b43.2 t46); have k := m.mp q; have v54 : z54.toInt = (Iz43 y11 0).toInt := congrArg Int32.toInt (show z54 = Iz43 y11 0 from ez54); have v30 : z30.toInt = (Iz2 y11 2).toInt := congrArg Int32.toInt (show z30 = Iz2 y11 2 from ez30); omega))⟩, ⟨Iz43, J, ⟨hIz43, fr_Iz43, dn_Iz43, dj_J⟩, by rw [ht]; exact hP⟩⟩, hS.F ht⟩) hS.2.2 dX7_boxesMeet_97
    · have t46 := tq_ne (k := z43.toInt) (q := (0)) c46 rfl (by decide +kernel)
      refine lv_aload_n hx hb dX7_boxesMeet_49 rfl (lv_at hl 4 rfl) ?_
      refine p_get (v := .ref y11) hx hb hts inX7 hown hK hP hLp0 hKp0 rfl rfl 25 (by decide) (hts _ pq1140) (congrArg (fun q => some (va_rf q)) ey11) dX7_boxesMeet_50 ?_
      refine lv_iconst (v := 0) hx hb dX7_boxesMeet_53 (by decide +kernel) ?_
      refine p_iald hx hb hK hP 19 hLy11 hKy11 rfl rfl (in_d (by decide +kernel)) dX7_boxesMeet_54 ?_
      refine lv_topi (fun z54 ez54 => ?_)
      have bz54 := oR_29 (i := (0 : Int32)) (Iv_at hIz43 hLy11 hKy11)
      rw [← ez54] at bz54
      refine lv_iload hx hb dX7_boxesMeet_55 (lv_at hl 1 rfl) ?_
      refine lv_icmp_gt (tgt := 96) hx hb dX7_boxesMeet_57 (by decide) (fun c57 => ?_) (fun c57 => ?_)
      · have t57 := tq_lt (k := z30.toInt) (q := z54.toInt) c57 rfl rfl
        refine lv_iconst (v := 0) hx hb dX7_boxesMeet_96 (by decide +kernel) ?_
        subst hR; subst hQz
        exact W.zret (v := 0) hx hb hr (by decide +kernel) (fun t ht hW => ⟨⟨0, (), rfl, ⟨⟨by decide +kernel, by decide +kernel⟩, (fun c ok h hj ha hb => by have b2 := fz2 c ok h hj ha; refine ⟨fun q => absurd (by decide +kernel) q, fun q => ?_⟩; first | exact absurd q (boxM_no ok ha hb (Or.inl (b2.1 t5))) | (have b43 := fz43 c ok (rI_fr (I1 := Iz2) hQ hLp0 hKp0 (fun b q => fr_Iz2 b (by omega)) h) hj hb; exact absurd q (boxM_no ok ha hb (Or.inr (b43.1 t46)))) | (have b43 := fz43 c ok (rI_fr (I1 := Iz2) hQ hLp0 hKp0 (fun b q => fr_Iz2 b (by omega)) h) hj hb; rw [show a0 Q p0 25 = y11 from gd_of ey11] at b2 b43; have m : boxM c p1.toInt.toNat p2.toInt.toNat ↔ ((Iz43 y11 0).toInt ≤ (Iz2 y11 2).toInt ∧ (Iz2 y11 0).toInt ≤ (Iz43 y11 2).toInt) ∧ (Iz43 y11 1).toInt ≤ (Iz2 y11 3).toInt ∧ (Iz2 y11 1).toInt ≤ (Iz43 y11 3).toInt := boxM_ex ok ha hb (b2.2 t5) (b43.2 t46); have k := m.mp q; have v86 : z86.toInt = (Iz43 y11 3).toInt := congrArg Int32.toInt (show z86 = Iz43 y11 3 from ez86); have v22 : z22.toInt = (Iz2 y11 1).toInt := congrArg Int32.toInt (show z22 = Iz2 y11 1 from ez22); omega) | (have b43 := fz43 c ok (rI_fr (I1 := Iz2) hQ hLp0 hKp0 (fun b q => fr_Iz2 b (by omega)) h) hj hb; rw [show a0 Q p0 25 = y11 from gd_of ey11] at b2 b43; have m : boxM c p1.toInt.toNat p2.toInt.toNat ↔ ((Iz43 y11 0).toInt ≤ (Iz2 y11 2).toInt ∧ (Iz2 y11 0).toInt ≤ (Iz43 y11 2).toInt) ∧ (Iz43 y11 1).toInt ≤ (Iz2 y11 3).toInt ∧ (Iz2 y11 1).toInt ≤ (Iz43 y11 3).toInt := boxM_ex ok ha hb (b2.2 t5) (b43.2 t46); have k := m.mp q; have v75 : z75.toInt = (Iz43 y11 1).toInt := congrArg Int32.toInt (show z75 = Iz43 y11 1 from ez75); have v38 : z38.toInt = (Iz2 y11 3).toInt := congrArg Int32.toInt (show z38 = Iz2 y11 3 from ez38); omega) | (have b43 := fz43 c ok (rI_fr (I1 := Iz2) hQ hLp0 hKp0 (fun b q => fr_Iz2 b (by omega)) h) hj hb; rw [show a0 Q p0 25 = y11 from gd_of ey11] at b2 b43; have m : boxM c p1.toInt.toNat p2.toInt.toNat ↔ ((Iz43 y11 0).toInt ≤ (Iz2 y11 2).toInt ∧ (Iz2 y11 0).toInt ≤ (Iz43 y11 2).toInt) ∧ (Iz43 y11 1).toInt ≤ (Iz2 y11 3).toInt ∧ (Iz2 y11 1).toInt ≤ (Iz43 y11 3).toInt := boxM_ex ok ha hb (b2.2 t5) (b43.2 t46); have k := m.mp q; have v65 : z65.toInt = (Iz43 y11 2).toInt := congrArg Int32.toInt (show z65 = Iz43 y11 2 from ez65); have v15 : z15.toInt = (Iz2 y11 0).toInt := congrArg Int32.toInt (show z15 = Iz2 y11 0 from ez15); omega) | (have b43 := fz43 c ok (rI_fr (I1 := Iz2) hQ hLp0 hKp0 (fun b q => fr_Iz2 b (by omega)) h) hj hb; rw [show a0 Q p0 25 = y11 from gd_of ey11] at b2 b43; have m : boxM c p1.toInt.toNat p2.toInt.toNat ↔ ((Iz43 y11 0).toInt ≤ (Iz2 y11 2).toInt ∧ (Iz2 y11 0).toInt ≤ (Iz43 y11 2).toInt) ∧ (Iz43 y11 1).toInt ≤ (Iz2 y11 3).toInt ∧ (Iz2 y11 1).toInt ≤ (Iz43 y11 3).toInt := boxM_ex ok ha hb (b2.2 t5) (b43.2 t46); have k := m.mp q; have v54 : z54.toInt = (Iz43 y11 0).toInt := congrArg Int32.toInt (show z54 = Iz43 y11 0 from ez54); have v30 : z30.toInt = (Iz2 y11 2).toInt := congrArg Int32.toInt (show z30 = Iz2 y11 2 from ez30); omega))⟩, ⟨Iz43, J, ⟨hIz43, fr_Iz43, dn_Iz43, dj_J⟩, by rw [ht]; exact hP⟩⟩, hS.F ht⟩) hS.2.2 dX7_boxesMeet_97
      · have t57 := tq_nlt (k := z30.toInt) (q := z54.toInt) c57 rfl rfl
        refine lv_aload_n hx hb dX7_boxesMeet_60 rfl (lv_at hl 4 rfl) ?_
        refine p_get (v := .ref y11) hx hb hts inX7 hown hK hP hLp0 hKp0 rfl rfl 25 (by decide) (hts _ pq1140) (congrArg (fun q => some (va_rf q)) ey11) dX7_boxesMeet_61 ?_
        refine lv_iconst (v := 2) hx hb dX7_boxesMeet_64 (by decide +kernel) ?_
        refine p_iald hx hb hK hP 19 hLy11 hKy11 rfl rfl (in_d (by decide +kernel)) dX7_boxesMeet_65 ?_
        refine lv_topi (fun z65 ez65 => ?_)
        have bz65 := oR_29 (i := (2 : Int32)) (Iv_at hIz43 hLy11 hKy11)
        rw [← ez65] at bz65
        refine lv_iload_n hx hb dX7_boxesMeet_66 rfl (lv_at hl 3 rfl) ?_
        refine lv_icmp_lt (tgt := 96) hx hb dX7_boxesMeet_67 (by decide) (fun c67 => ?_) (fun c67 => ?_)
        · have t67 := tq_lt (k := z65.toInt) (q := z15.toInt) c67 rfl rfl
          refine lv_iconst (v := 0) hx hb dX7_boxesMeet_96 (by decide +kernel) ?_
          subst hR; subst hQz
          exact W.zret (v := 0) hx hb hr (by decide +kernel) (fun t ht hW => ⟨⟨0, (), rfl, ⟨⟨by decide +kernel, by decide +kernel⟩, (fun c ok h hj ha hb => by have b2 := fz2 c ok h hj ha; refine ⟨fun q => absurd (by decide +kernel) q, fun q => ?_⟩; first | exact absurd q (boxM_no ok ha hb (Or.inl (b2.1 t5))) | (have b43 := fz43 c ok (rI_fr (I1 := Iz2) hQ hLp0 hKp0 (fun b q => fr_Iz2 b (by omega)) h) hj hb; exact absurd q (boxM_no ok ha hb (Or.inr (b43.1 t46)))) | (have b43 := fz43 c ok (rI_fr (I1 := Iz2) hQ hLp0 hKp0 (fun b q => fr_Iz2 b (by omega)) h) hj hb; rw [show a0 Q p0 25 = y11 from gd_of ey11] at b2 b43; have m : boxM c p1.toInt.toNat p2.toInt.toNat ↔ ((Iz43 y11 0).toInt ≤ (Iz2 y11 2).toInt ∧ (Iz2 y11 0).toInt ≤ (Iz43 y11 2).toInt) ∧ (Iz43 y11 1).toInt ≤ (Iz2 y11 3).toInt ∧ (Iz2 y11 1).toInt ≤ (Iz43 y11 3).toInt := boxM_ex ok ha hb (b2.2 t5) (b43.2 t46); have k := m.mp q; have v86 : z86.toInt = (Iz43 y11 3).toInt := congrArg Int32.toInt (show z86 = Iz43 y11 3 from ez86); have v22 : z22.toInt = (Iz2 y11 1).toInt := congrArg Int32.toInt (show z22 = Iz2 y11 1 from ez22); omega) | (have b43 := fz43 c ok (rI_fr (I1 := Iz2) hQ hLp0 hKp0 (fun b q => fr_Iz2 b (by omega)) h) hj hb; rw [show a0 Q p0 25 = y11 from gd_of ey11] at b2 b43; have m : boxM c p1.toInt.toNat p2.toInt.toNat ↔ ((Iz43 y11 0).toInt ≤ (Iz2 y11 2).toInt ∧ (Iz2 y11 0).toInt ≤ (Iz43 y11 2).toInt) ∧ (Iz43 y11 1).toInt ≤ (Iz2 y11 3).toInt ∧ (Iz2 y11 1).toInt ≤ (Iz43 y11 3).toInt := boxM_ex ok ha hb (b2.2 t5) (b43.2 t46); have k := m.mp q; have v75 : z75.toInt = (Iz43 y11 1).toInt := congrArg Int32.toInt (show z75 = Iz43 y11 1 from ez75); have v38 : z38.toInt = (Iz2 y11 3).toInt := congrArg Int32.toInt (show z38 = Iz2 y11 3 from ez38); omega) | (have b43 := fz43 c ok (rI_fr (I1 := Iz2) hQ hLp0 hKp0 (fun b q => fr_Iz2 b (by omega)) h) hj hb; rw [show a0 Q p0 25 = y11 from gd_of ey11] at b2 b43; have m : boxM c p1.toInt.toNat p2.toInt.toNat ↔ ((Iz43 y11 0).toInt ≤ (Iz2 y11 2).toInt ∧ (Iz2 y11 0).toInt ≤ (Iz43 y11 2).toInt) ∧ (Iz43 y11 1).toInt ≤ (Iz2 y11 3).toInt ∧ (Iz2 y11 1).toInt ≤ (Iz43 y11 3).toInt := boxM_ex ok ha hb (b2.2 t5) (b43.2 t46); have k := m.mp q; have v65 : z65.toInt = (Iz43 y11 2).toInt := congrArg Int32.toInt (show z65 = Iz43 y11 2 from ez65); have v15 : z15.toInt = (Iz2 y11 0).toInt := congrArg Int32.toInt (show z15 = Iz2 y11 0 from ez15); omega) | (have b43 := fz43 c ok (rI_fr (I1 := Iz2) hQ hLp0 hKp0 (fun b q => fr_Iz2 b (by omega)) h) hj hb; rw [show a0 Q p0 25 = y11 from gd_of ey11] at b2 b43; have m : boxM c p1.toInt.toNat p2.toInt.toNat ↔ ((Iz43 y11 0).toInt ≤ (Iz2 y11 2).toInt ∧ (Iz2 y11 0).toInt ≤ (Iz43 y11 2).toInt) ∧ (Iz43 y11 1).toInt ≤ (Iz2 y11 3).toInt ∧ (Iz2 y11 1).toInt ≤ (Iz43 y11 3).toInt := boxM_ex ok ha hb (b2.2 t5) (b43.2 t46); have k := m.mp q; have v54 : z54.toInt = (Iz43 y11 0).toInt := congrArg Int32.toInt (show z54 = Iz43 y11 0 from ez54); have v30 : z30.toInt = (Iz2 y11 2).toInt := congrArg Int32.toInt (show z30 = Iz2 y11 2 from ez30); omega))⟩, ⟨Iz43, J, ⟨hIz43, fr_Iz43, dn_Iz43, dj_J⟩, by rw [ht]; exact hP⟩⟩, hS.F ht⟩) hS.2.2 dX7_boxesMeet_97
        · have t67 := tq_nlt (k := z65.toInt) (q := z15.toInt) c67 rfl rfl
          refine lv_aload_n hx hb dX7_boxesMeet_70 rfl (lv_at hl 4 rfl) ?_
          refine p_get (v := .ref y11) hx hb hts inX7 hown hK hP hLp0 hKp0 rfl rfl 25 (by decide) (hts _ pq1140) (congrArg (fun q => some (va_rf q)) ey11) dX7_boxesMeet_71 ?_
          refine lv_iconst (v := 1) hx hb dX7_boxesMeet_74 (by decide +kernel) ?_
          refine p_iald hx hb hK hP 19 hLy11 hKy11 rfl rfl (in_d (by decide +kernel)) dX7_boxesMeet_75 ?_
          refine lv_topi (fun z75 ez75 => ?_)
          have bz75 := oR_29 (i := (1 : Int32)) (Iv_at hIz43 hLy11 hKy11)
          rw [← ez75] at bz75
          refine lv_iload hx hb dX7_boxesMeet_76 (lv_at hl 0 rfl) ?_
          refine lv_icmp_gt (tgt := 96) hx hb dX7_boxesMeet_78 (by decide) (fun c78 => ?_) (fun c78 => ?_)
          · have t78 := tq_lt (k := z38.toInt) (q := z75.toInt) c78 rfl rfl
            refine lv_iconst (v := 0) hx hb dX7_boxesMeet_96 (by decide +kernel) ?_
            subst hR; subst hQz
            exact W.zret (v := 0) hx hb hr (by decide +kernel) (fun t ht hW => ⟨⟨0, (), rfl, ⟨⟨by decide +kernel, by decide +kernel⟩, (fun c ok h hj ha hb => by have b2 := fz2 c ok h hj ha; refine ⟨fun q => absurd (by decide +kernel) q, fun q => ?_⟩; first | exact absurd q (boxM_no ok ha hb (Or.inl (b2.1 t5))) | (have b43 := fz43 c ok (rI_fr (I1 := Iz2) hQ hLp0 hKp0 (fun b q => fr_Iz2 b (by omega)) h) hj hb; exact absurd q (boxM_no ok ha hb (Or.inr (b43.1 t46)))) | (have b43 := fz43 c ok (rI_fr (I1 := Iz2) hQ hLp0 hKp0 (fun b q => fr_Iz2 b (by omega)) h) hj hb; rw [show a0 Q p0 25 = y11 from gd_of ey11] at b2 b43; have m : boxM c p1.toInt.toNat p2.toInt.toNat ↔ ((Iz43 y11 0).toInt ≤ (Iz2 y11 2).toInt ∧ (Iz2 y11 0).toInt ≤ (Iz43 y11 2).toInt) ∧ (Iz43 y11 1).toInt ≤ (Iz2 y11 3).toInt ∧ (Iz2 y11 1).toInt ≤ (Iz43 y11 3).toInt := boxM_ex ok ha hb (b2.2 t5) (b43.2 t46); have k := m.mp q; have v86 : z86.toInt = (Iz43 y11 3).toInt := congrArg Int32.toInt (show z86 = Iz43 y11 3 from ez86); have v22 : z22.toInt = (Iz2 y11 1).toInt := congrArg Int32.toInt (show z22 = Iz2 y11 1 from ez22); omega) | (have b43 := fz43 c ok (rI_fr (I1 := Iz2) hQ hLp0 hKp0 (fun b q => fr_Iz2 b (by omega)) h) hj hb; rw [show a0 Q p0 25 = y11 from gd_of ey11] at b2 b43; have m : boxM c p1.toInt.toNat p2.toInt.toNat ↔ ((Iz43 y11 0).toInt ≤ (Iz2 y11 2).toInt ∧ (Iz2 y11 0).toInt ≤ (Iz43 y11 2).toInt) ∧ (Iz43 y11 1).toInt ≤ (Iz2 y11 3).toInt ∧ (Iz2 y11 1).toInt ≤ (Iz43 y11 3).toInt := boxM_ex ok ha hb (b2.2 t5) (b43.2 t46); have k := m.mp q; have v75 : z75.toInt = (Iz43 y11 1).toInt := congrArg Int32.toInt (show z75 = Iz43 y11 1 from ez75); have v38 : z38.toInt = (Iz2 y11 3).toInt := congrArg Int32.toInt (show z38 = Iz2 y11 3 from ez38); omega) | (have b43 := fz43 c ok (rI_fr (I1 := Iz2) hQ hLp0 hKp0 (fun b q => fr_Iz2 b (by omega)) h) hj hb; rw [show a0 Q p0 25 = y11 from gd_of ey11] at b2 b43; have m : boxM c p1.toInt.toNat p2.toInt.toNat ↔ ((Iz43 y11 0).toInt ≤ (Iz2 y11 2).toInt ∧ (Iz2 y11 0).toInt ≤ (Iz43 y11 2).toInt) ∧ (Iz43 y11 1).toInt ≤ (Iz2 y11 3).toInt ∧ (Iz2 y11 1).toInt ≤ (Iz43 y11 3).toInt := boxM_ex ok ha hb (b2.2 t5) (b43.2 t46); have k := m.mp q; have v65 : z65.toInt = (Iz43 y11 2).toInt := congrArg Int32.toInt (show z65 = Iz43 y11 2 from ez65); have v15 : z15.toInt = (Iz2 y11 0).toInt := congrArg Int32.toInt (show z15 = Iz2 y11 0 from ez15); omega) | (have b43 := fz43 c ok (rI_fr (I1 := Iz2) hQ hLp0 hKp0 (fun b q => fr_Iz2 b (by omega)) h) hj hb; rw [show a0 Q p0 25 = y11 from gd_of ey11] at b2 b43; have m : boxM c p1.toInt.toNat p2.toInt.toNat ↔ ((Iz43 y11 0).toInt ≤ (Iz2 y11 2).toInt ∧ (Iz2 y11 0).toInt ≤ (Iz43 y11 2).toInt) ∧ (Iz43 y11 1).toInt ≤ (Iz2 y11 3).toInt ∧ (Iz2 y11 1).toInt ≤ (Iz43 y11 3).toInt := boxM_ex ok ha hb (b2.2 t5) (b43.2 t46); have k := m.mp q; have v54 : z54.toInt = (Iz43 y11 0).toInt := congrArg Int32.toInt (show z54 = Iz43 y11 0 from ez54); have v30 : z30.toInt = (Iz2 y11 2).toInt := congrArg Int32.toInt (show z30 = Iz2 y11 2 from ez30); omega))⟩, ⟨Iz43, J, ⟨hIz43, fr_Iz43, dn_Iz43, dj_J⟩, by rw [ht]; exact hP⟩⟩, hS.F ht⟩) hS.2.2 dX7_boxesMeet_97
          · have t78 := tq_nlt (k := z38.toInt) (q := z75.toInt) c78 rfl rfl
            refine lv_aload_n hx hb dX7_boxesMeet_81 rfl (lv_at hl 4 rfl) ?_
            refine p_get (v := .ref y11) hx hb hts inX7 hown hK hP hLp0 hKp0 rfl rfl 25 (by decide) (hts _ pq1140) (congrArg (fun q => some (va_rf q)) ey11) dX7_boxesMeet_82 ?_
            refine lv_iconst (v := 3) hx hb dX7_boxesMeet_85 (by decide +kernel) ?_
            refine p_iald hx hb hK hP 19 hLy11 hKy11 rfl rfl (in_d (by decide +kernel)) dX7_boxesMeet_86 ?_
            refine lv_topi (fun z86 ez86 => ?_)
            have bz86 := oR_29 (i := (3 : Int32)) (Iv_at hIz43 hLy11 hKy11)
            rw [← ez86] at bz86
            refine lv_iload hx hb dX7_boxesMeet_87 (lv_at hl 2 rfl) ?_
            refine lv_icmp_lt (tgt := 96) hx hb dX7_boxesMeet_89 (by decide) (fun c89 => ?_) (fun c89 => ?_)
            · have t89 := tq_lt (k := z86.toInt) (q := z22.toInt) c89 rfl rfl
              refine lv_iconst (v := 0) hx hb dX7_boxesMeet_96 (by decide +kernel) ?_
              subst hR; subst hQz
              exact W.zret (v := 0) hx hb hr (by decide +kernel) (fun t ht hW => ⟨⟨0, (), rfl, ⟨⟨by decide +kernel, by decide +kernel⟩, (fun c ok h hj ha hb => by have b2 := fz2 c ok h hj ha; refine ⟨fun q => absurd (by decide +kernel) q, fun q => ?_⟩; first | exact absurd q (boxM_no ok ha hb (Or.inl (b2.1 t5))) | (have b43 := fz43 c ok (rI_fr (I1 := Iz2) hQ hLp0 hKp0 (fun b q => fr_Iz2 b (by omega)) h) hj hb; exact absurd q (boxM_no ok ha hb (Or.inr (b43.1 t46)))) | (have b43 := fz43 c ok (rI_fr (I1 := Iz2) hQ hLp0 hKp0 (fun b q => fr_Iz2 b (by omega)) h) hj hb; rw [show a0 Q p0 25 = y11 from gd_of ey11] at b2 b43; have m : boxM c p1.toInt.toNat p2.toInt.toNat ↔ ((Iz43 y11 0).toInt ≤ (Iz2 y11 2).toInt ∧ (Iz2 y11 0).toInt ≤ (Iz43 y11 2).toInt) ∧ (Iz43 y11 1).toInt ≤ (Iz2 y11 3).toInt ∧ (Iz2 y11 1).toInt ≤ (Iz43 y11 3).toInt := boxM_ex ok ha hb (b2.2 t5) (b43.2 t46); have k := m.mp q; have v86 : z86.toInt = (Iz43 y11 3).toInt := congrArg Int32.toInt (show z86 = Iz43 y11 3 from ez86); have v22 : z22.toInt = (Iz2 y11 1).toInt := congrArg Int32.toInt (show z22 = Iz2 y11 1 from ez22); omega) | (have b43 := fz43 c ok (rI_fr (I1 := Iz2) hQ hLp0 hKp0 (fun b q => fr_Iz2 b (by omega)) h) hj hb; rw [show a0 Q p0 25 = y11 from gd_of ey11] at b2 b43; have m : boxM c p1.toInt.toNat p2.toInt.toNat ↔ ((Iz43 y11 0).toInt ≤ (Iz2 y11 2).toInt ∧ (Iz2 y11 0).toInt ≤ (Iz43 y11 2).toInt) ∧ (Iz43 y11 1).toInt ≤ (Iz2 y11 3).toInt ∧ (Iz2 y11 1).toInt ≤ (Iz43 y11 3).toInt := boxM_ex ok ha hb (b2.2 t5) (b43.2 t46); have k := m.mp q; have v75 : z75.toInt = (Iz43 y11 1).toInt := congrArg Int32.toInt (show z75 = Iz43 y11 1 from ez75); have v38 : z38.toInt = (Iz2 y11 3).toInt := congrArg Int32.toInt (show z38 = Iz2 y11 3 from ez38); omega) | (have b43 := fz43 c ok (rI_fr (I1 := Iz2) hQ hLp0 hKp0 (fun b q => fr_Iz2 b (by omega)) h) hj hb; rw [show a0 Q p0 25 = y11 from gd_of ey11] at b2 b43; have m : boxM c p1.toInt.toNat p2.toInt.toNat ↔ ((Iz43 y11 0).toInt ≤ (Iz2 y11 2).toInt ∧ (Iz2 y11 0).toInt ≤ (Iz43 y11 2).toInt) ∧ (Iz43 y11 1).toInt ≤ (Iz2 y11 3).toInt ∧ (Iz2 y11 1).toInt ≤ (Iz43 y11 3).toInt := boxM_ex ok ha hb (b2.2 t5) (b43.2 t46); have k := m.mp q; have v65 : z65.toInt = (Iz43 y11 2).toInt := congrArg Int32.toInt (show z65 = Iz43 y11 2 from ez65); have v15 : z15.toInt = (Iz2 y11 0).toInt := congrArg Int32.toInt (show z15 = Iz2 y11 0 from ez15); omega) | (have b43 := fz43 c ok (rI_fr (I1 := Iz2) hQ hLp0 hKp0 (fun b q => fr_Iz2 b (by omega)) h) hj hb; rw [show a0 Q p0 25 = y11 from gd_of ey11] at b2 b43; have m : boxM c p1.toInt.toNat p2.toInt.toNat ↔ ((Iz43 y11 0).toInt ≤ (Iz2 y11 2).toInt ∧ (Iz2 y11 0).toInt ≤ (Iz43 y11 2).toInt) ∧ (Iz43 y11 1).toInt ≤ (Iz2 y11 3).toInt ∧ (Iz2 y11 1).toInt ≤ (Iz43 y11 3).toInt := boxM_ex ok ha hb (b2.2 t5) (b43.2 t46); have k := m.mp q; have v54 : z54.toInt = (Iz43 y11 0).toInt := congrArg Int32.toInt (show z54 = Iz43 y11 0 from ez54); have v30 : z30.toInt = (Iz2 y11 2).toInt := congrArg Int32.toInt (show z30 = Iz2 y11 2 from ez30); omega))⟩, ⟨Iz43, J, ⟨hIz43, fr_Iz43, dn_Iz43, dj_J⟩, by rw [ht]; exact hP⟩⟩, hS.F ht⟩) hS.2.2 dX7_boxesMeet_97
            · have t89 := tq_nlt (k := z86.toInt) (q := z22.toInt) c89 rfl rfl
              refine lv_iconst (v := 1) hx hb dX7_boxesMeet_92 (by decide +kernel) ?_
              refine lv_goto (tgt := 97) hx hb dX7_boxesMeet_93 (by decide) ?_
              subst hR; subst hQz
              exact W.zret (v := 1) hx hb hr (by decide +kernel) (fun t ht hW => ⟨⟨1, (), rfl, ⟨⟨by decide +kernel, by decide +kernel⟩, (fun c ok h hj ha hb => by have b2 := fz2 c ok h hj ha; have b43 := fz43 c ok (rI_fr (I1 := Iz2) hQ hLp0 hKp0 (fun b q => fr_Iz2 b (by omega)) h) hj hb; rw [show a0 Q p0 25 = y11 from gd_of ey11] at b2 b43; have m : boxM c p1.toInt.toNat p2.toInt.toNat ↔ ((Iz43 y11 0).toInt ≤ (Iz2 y11 2).toInt ∧ (Iz2 y11 0).toInt ≤ (Iz43 y11 2).toInt) ∧ (Iz43 y11 1).toInt ≤ (Iz2 y11 3).toInt ∧ (Iz2 y11 1).toInt ≤ (Iz43 y11 3).toInt := boxM_ex ok ha hb (b2.2 t5) (b43.2 t46); have v15 : z15.toInt = (Iz2 y11 0).toInt := congrArg Int32.toInt (show z15 = Iz2 y11 0 from ez15); have v22 : z22.toInt = (Iz2 y11 1).toInt := congrArg Int32.toInt (show z22 = Iz2 y11 1 from ez22); have v30 : z30.toInt = (Iz2 y11 2).toInt := congrArg Int32.toInt (show z30 = Iz2 y11 2 from ez30); have v38 : z38.toInt = (Iz2 y11 3).toInt := congrArg Int32.toInt (show z38 = Iz2 y11 3 from ez38); have v54 : z54.toInt = (Iz43 y11 0).toInt := congrArg Int32.toInt (show z54 = Iz43 y11 0 from ez54); have v65 : z65.toInt = (Iz43 y11 2).toInt := congrArg Int32.toInt (show z65 = Iz43 y11 2 from ez65); have v75 : z75.toInt = (Iz43 y11 1).toInt := congrArg Int32.toInt (show z75 = Iz43 y11 1 from ez75); have v86 : z86.toInt = (Iz43 y11 3).toInt := congrArg Int32.toInt (show z86 = Iz43 y11 3 from ez86); exact ⟨fun _ => m.mpr ⟨⟨by omega, by omega⟩, by omega, by omega⟩, fun _ => by decide +kernel⟩)⟩, ⟨Iz43, J, ⟨hIz43, fr_Iz43, dn_Iz43, dj_J⟩, by rw [ht]; exact hP⟩⟩, hS.F ht⟩) hS.2.2 dX7_boxesMeet_97
  · have t5 := tq_eq (k := z2.toInt) (q := (0)) c5 rfl (by decide +kernel)
    refine lv_iconst (v := 0) hx hb dX7_boxesMeet_8 (by decide +kernel) ?_
    subst hR; subst hQz
    exact W.zret (v := 0) hx hb hr (by decide +kernel) (fun t ht hW => ⟨⟨0, (), rfl, ⟨⟨by decide +kernel, by decide +kernel⟩, (fun c ok h hj ha hb => by have b2 := fz2 c ok h hj ha; refine ⟨fun q => absurd (by decide +kernel) q, fun q => ?_⟩; first | exact absurd q (boxM_no ok ha hb (Or.inl (b2.1 t5))) | (have b43 := fz43 c ok (rI_fr (I1 := Iz2) hQ hLp0 hKp0 (fun b q => fr_Iz2 b (by omega)) h) hj hb; exact absurd q (boxM_no ok ha hb (Or.inr (b43.1 t46)))) | (have b43 := fz43 c ok (rI_fr (I1 := Iz2) hQ hLp0 hKp0 (fun b q => fr_Iz2 b (by omega)) h) hj hb; rw [show a0 Q p0 25 = y11 from gd_of ey11] at b2 b43; have m : boxM c p1.toInt.toNat p2.toInt.toNat ↔ ((Iz43 y11 0).toInt ≤ (Iz2 y11 2).toInt ∧ (Iz2 y11 0).toInt ≤ (Iz43 y11 2).toInt) ∧ (Iz43 y11 1).toInt ≤ (Iz2 y11 3).toInt ∧ (Iz2 y11 1).toInt ≤ (Iz43 y11 3).toInt := boxM_ex ok ha hb (b2.2 t5) (b43.2 t46); have k := m.mp q; have v86 : z86.toInt = (Iz43 y11 3).toInt := congrArg Int32.toInt (show z86 = Iz43 y11 3 from ez86); have v22 : z22.toInt = (Iz2 y11 1).toInt := congrArg Int32.toInt (show z22 = Iz2 y11 1 from ez22); omega) | (have b43 := fz43 c ok (rI_fr (I1 := Iz2) hQ hLp0 hKp0 (fun b q => fr_Iz2 b (by omega)) h) hj hb; rw [show a0 Q p0 25 = y11 from gd_of ey11] at b2 b43; have m : boxM c p1.toInt.toNat p2.toInt.toNat ↔ ((Iz43 y11 0).toInt ≤ (Iz2 y11 2).toInt ∧ (Iz2 y11 0).toInt ≤ (Iz43 y11 2).toInt) ∧ (Iz43 y11 1).toInt ≤ (Iz2 y11 3).toInt ∧ (Iz2 y11 1).toInt ≤ (Iz43 y11 3).toInt := boxM_ex ok ha hb (b2.2 t5) (b43.2 t46); have k := m.mp q; have v75 : z75.toInt = (Iz43 y11 1).toInt := congrArg Int32.toInt (show z75 = Iz43 y11 1 from ez75); have v38 : z38.toInt = (Iz2 y11 3).toInt := congrArg Int32.toInt (show z38 = Iz2 y11 3 from ez38); omega) | (have b43 := fz43 c ok (rI_fr (I1 := Iz2) hQ hLp0 hKp0 (fun b q => fr_Iz2 b (by omega)) h) hj hb; rw [show a0 Q p0 25 = y11 from gd_of ey11] at b2 b43; have m : boxM c p1.toInt.toNat p2.toInt.toNat ↔ ((Iz43 y11 0).toInt ≤ (Iz2 y11 2).toInt ∧ (Iz2 y11 0).toInt ≤ (Iz43 y11 2).toInt) ∧ (Iz43 y11 1).toInt ≤ (Iz2 y11 3).toInt ∧ (Iz2 y11 1).toInt ≤ (Iz43 y11 3).toInt := boxM_ex ok ha hb (b2.2 t5) (b43.2 t46); have k := m.mp q; have v65 : z65.toInt = (Iz43 y11 2).toInt := congrArg Int32.toInt (show z65 = Iz43 y11 2 from ez65); have v15 : z15.toInt = (Iz2 y11 0).toInt := congrArg Int32.toInt (show z15 = Iz2 y11 0 from ez15); omega) | (have b43 := fz43 c ok (rI_fr (I1 := Iz2) hQ hLp0 hKp0 (fun b q => fr_Iz2 b (by omega)) h) hj hb; rw [show a0 Q p0 25 = y11 from gd_of ey11] at b2 b43; have m : boxM c p1.toInt.toNat p2.toInt.toNat ↔ ((Iz43 y11 0).toInt ≤ (Iz2 y11 2).toInt ∧ (Iz2 y11 0).toInt ≤ (Iz43 y11 2).toInt) ∧ (Iz43 y11 1).toInt ≤ (Iz2 y11 3).toInt ∧ (Iz2 y11 1).toInt ≤ (Iz43 y11 3).toInt := boxM_ex ok ha hb (b2.2 t5) (b43.2 t46); have k := m.mp q; have v54 : z54.toInt = (Iz43 y11 0).toInt := congrArg Int32.toInt (show z54 = Iz43 y11 0 from ez54); have v30 : z30.toInt = (Iz2 y11 2).toInt := congrArg Int32.toInt (show z30 = Iz2 y11 2 from ez30); omega))⟩, ⟨Iz2, J, ⟨hIz2, fr_Iz2, dn_Iz2, dj_J⟩, by rw [ht]; exact hP⟩⟩, hS.F ht⟩) hS.2.2 dX7_boxesMeet_9

set_option maxHeartbeats 4000000 in
set_option maxRecDepth 100000 in
theorem s_X7_sieve (l : Launch) (dC : Nat → ClassId) (dI : Nat → Nat → Nat) (cs : Nat → ClassId) (L : List Nat) (K G : Nat → Nat) (Q : Nat → Nat → Option Nat) (hQ : Sv L K G Q) (x0 m0 : Nat) (tx : GT) (tm : GT × Int) (sz : Nat) (I : Nat → Nat → Int32) (J : Nat → Nat → Int64) (hI : Iv L K x0 m0 tx tm I) (p0 : Nat) (hLp0 : p0 ∈ L) (hKp0 : K p0 = 7) (p1 : Int32) : Met l yX7_sieve (.code yX7_sieve cX7_sieve 5 (some .int) :: pw) ({ frames := 5, cells := 0, slots := 0, locals := 120 }) (sP (dC, dI) cs [.ref p0, .int p1] sz L K I J Q) (va_Qi (fun (r : Int32) (_ : Unit) => (∀ σ : Sx, okF σ.1 → cmA Q I J p0 σ → r = svR σ p1)) (fun _ t => sB (dC, dI) cs L K Q (fun I1 J1 => Iv L K x0 m0 tx tm I1 ∧ (∀ b, ¬ (K b = 26 ∨ K b = 29) → I1 b = I b) ∧ I1 p0 11 = I p0 11 ∧ (∀ b, K b = 0 ∨ K b = 1 ∨ K b = 3 ∨ K b = 6 → I1 b = I b) ∧ (∀ σ : Sx, cmA Q I J p0 σ → cmA Q I1 J1 p0 σ) ∧ (∀ b, ¬ (K b = 25) → J1 b = J b)) t) (fun q => q ∈ L ∨ sz ≤ q)) 0 0 (fun q => q ∈ L ∨ sz ≤ q) := by
  refine Met.ofW (cc := cX7_sieve) (maxL := 5) (ret := (some .int)) (by decide +kernel) rfl ?_
  intro p e s m args below meth c s₁ B hml hv
  obtain ⟨rfl, hsz, hP, hK, hD0, hN⟩ := hv
  have hx := B.exec
  have hb := B.bytes
  have hr := B.returns
  have hts := fun w (h : w ∈ pw) => atoms_spec (ws := Cond.code yX7_sieve cX7_sieve 5 (some .int) :: pw) B.pre w (List.mem_cons_of_mem _ h)
  have hown : s.vm.findClass RX7 = some m.cls := findClass_of_methodNamed B.named
  have hlocks := B.notSynchronized
  subst hsz
  have hBB : 999 ≤ tm.2 ∧ tm.2 ≤ 6000000 := hI.2.2.2.2.1
  have dn_I : (∀ b, K b = 0 ∨ K b = 1 ∨ K b = 3 ∨ K b = 6 → I b = I b) := fun _ _ => rfl
  have dj_J : (∀ b, ¬ (K b = 25) → J b = J b) := fun _ _ => rfl
  have kp0_11_I : I p0 11 = I p0 11 := rfl
  have fr_I : ∀ b, ¬ (K b = 26 ∨ K b = 29) → I b = I b := fun _ _ => rfl
  obtain ⟨A, hAe⟩ : ∃ A : Nat → Prop, A = (fun q => q ∈ L ∨ s.heap.size ≤ q) := ⟨_, rfl⟩
  rw [← hAe]
  have hAL : ∀ q, q ∈ L → A q := fun q h => by rw [hAe]; exact Or.inl h
  have hA : ∀ q, s.heap.size ≤ q → A q := fun q h => by rw [hAe]; exact Or.inr h
  have hD : ∀ F, va_D A (va_pl L F) := fun F => (hD0 F).weaken (fun k q hk _ => hAL _ (pl_mem hk))
  obtain ⟨H, hHe⟩ : ∃ H : Heap, H = s.heap := ⟨_, rfl⟩
  have hS : va_S A s.heap H [] := by rw [hHe]; exact va_S.rf
  rw [← hHe] at hP
  have hl := lv_entry ([.ref p0, .int p1]) (n := 5) (Nat.le_of_ble_eq_true rfl)
  rw [lg_entry_eq]
  generalize (lg_sl ([.ref p0, .int p1]) ++ List.replicate (5 - (lg_sl ([.ref p0, .int p1])).length) Slot.unset).toArray = ls at hl ⊢
  have hl : lv_has ls 5 [(0, .ref p0), (1, .int p1)] := hl
  rw [← hHe]
  refine namedW (fun R Qz hR hQz => ?_)
  refine lv_iload_n hx hb dX7_sieve_0 rfl (lv_at hl 1 rfl) ?_
  refine lv_i2l hx hb dX7_sieve_1 rfl ?_
  refine lv_topl (fun z1 ez1 => ?_)
  have bz1 := tq_i2l (k := p1.toInt) ez1 rfl
  refine lv_lconst (v := 0) hx hb dX7_sieve_2 (by decide +kernel) ?_
  refine lv_ldc2 hx hb hown (hts _ pq1595) dX7_sieve_3 ?_
  refine ro_i (va_runS (As := [.long z1, .long 0, .long 2]) (rest := []) ⟨hx, hb, hml, hown, hts⟩ (s_X7_in l dC dI cs L K Q H.size I J z1 0 2) (va_cwS 3 hts (gS pq1234 pq1235 pq81 pq1236) rfl rfl rfl (by decide +kernel) ⟨(by rw [hR]; exact (Nat.le_of_ble_eq_true rfl)), (by rw [hR]; exact (Nat.le_of_ble_eq_true rfl))⟩) (sP_S hP hD hK hN) rfl rfl hl.1 rfl (lv_room (Nat.le_of_ble_eq_true rfl)) dX7_sieve_6 ⟨(by rw [hR]; exact (Nat.le_of_ble_eq_true rfl)), (by rw [hR]; exact (Nat.le_of_ble_eq_true rfl))⟩) hS hP (fun z6 H locs hz6 hP hS => ?_)
  have csl6_0 : (0 : Int64).toInt = 0 := by decide +kernel
  have csl6_2 : (2 : Int64).toInt = 2 := by decide +kernel
  obtain ⟨bz6, imz6, xpz6⟩ := hz6
  refine lv_if_ne (tgt := 14) hx hb dX7_sieve_9 (by decide) (fun c9 => ?_) (fun c9 => ?_)
  · have t9 := tq_ne (k := z6.toInt) (q := (0)) c9 rfl (by decide +kernel)
    have i9 := imz6 t9
    refine lv_aload_n hx hb dX7_sieve_14 rfl (lv_at hl 0 rfl) ?_
    refine sw_v (Z := (fun I1 J1 => Iv L K x0 m0 tx tm I1 ∧ I1 = I ∧ (∀ c : Fx, okF c → rI Q I p0 c → rJ Q J p0 c → ldA Q J1 p0 c) ∧ (∀ b, ¬ (K b = 25) → J1 b = J b))) (va_runV (As := []) (rest := []) ⟨hx, hb, hml, hown, hts⟩ (s_X7_laysAll l dC dI cs L K G Q hQ x0 m0 tx tm H.size I J hI p0 hLp0 hKp0) (cwV 0 hts (gV pq1427 pq1429 pq40 pq81 pq1430) rfl rfl rfl (by decide +kernel) ⟨(by rw [hR]; exact (Nat.le_of_ble_eq_true rfl)), (by rw [hR]; exact (Nat.le_of_ble_eq_true rfl))⟩) (sP_V hP hD hK hN hLp0 hKp0 rfl rfl) rfl rfl hl.1 rfl (lv_room (Nat.le_of_ble_eq_true rfl)) dX7_sieve_15 ⟨(by rw [hR]; exact (Nat.le_of_ble_eq_true rfl)), (by rw [hR]; exact (Nat.le_of_ble_eq_true rfl))⟩) hS hAL hA (fun Iz15 Jz15 H locs hz15 hIz15 hP hS => ?_)
    obtain ⟨hIz15, sm15, jz15, djc15⟩ := hIz15
    have dj_Jz15 : (∀ b, ¬ (K b = 25) → Jz15 b = J b) := fun b hc => (djc15 b (fun z => hc (by omega))).trans (dj_J b hc)
    obtain rfl : I = Iz15 := sm15.symm
    refine lv_iconst (v := 0) hx hb dX7_sieve_18 (by decide +kernel) ?_
    refine lv_istore_n (lv' := [(2, .int 0), (0, .ref p0), (1, .int p1)]) hx hb dX7_sieve_19 rfl hl (by decide) rfl (fun ls hl => ?_)
    refine lv_iconst (v := 0) hx hb dX7_sieve_20 (by decide +kernel) ?_
    refine lv_istore_n (lv' := [(3, .int 0), (2, .int 0), (0, .ref p0), (1, .int p1)]) hx hb dX7_sieve_21 rfl hl (by decide) rfl (fun ls hl => ?_)
    have key22 := blocks (fun n => ∀ (v22_2 : Int32) (v22_3 : Int32) (I22 : Nat → Nat → Int32) (H : Heap) (lo : List Loc) (ls : Array Slot), (11 - v22_3.toInt).toNat = n → ((0) ≤ v22_3.toInt ∧ v22_3.toInt ≤ 10) → Iv L K x0 m0 tx tm I22 → I22 p0 11 = I p0 11 → (∀ b, ¬ (K b = 26 ∨ K b = 29) → I22 b = I b) → (∀ b, K b = 0 ∨ K b = 1 ∨ K b = 3 ∨ K b = 6 → I22 b = I b) → (∀ σ : Sx, okF σ.1 → cmA Q I J p0 σ → svR σ p1 = smL (svT σ p1.toInt) (prI (σ.1.1 1).toInt.toNat v22_3.toInt.toNat ((σ.1.1 1).toInt.toNat - v22_3.toInt.toNat)) v22_2) → va_P (dC, dI) vwCl (Wd cs L K I22 Jz15 Q) H → va_S A s.heap H lo → lv_has ls 5 [(0, .ref p0), (1, .int p1), (2, .int v22_2), (3, .int v22_3)] → W p l e R s m (([.ref p0, .int p1] : List Value).toArray) below meth c H lo 0 0 Qz (F0 m 22 ls [])) (by
      intro n ih22
      intro v22_2 v22_3 I22 H lo ls hmu22 bv22_3 hI22 kp0_11_I22 fr_I22 dn_I22 g22 hP hS hl
      refine lv_iload_n hx hb dX7_sieve_22 rfl (lv_at hl 3 rfl) ?_
      refine lv_aload_n hx hb dX7_sieve_23 rfl (lv_at hl 0 rfl) ?_
      obtain ⟨y24, ey24, hLy24, hKy24⟩ := oQ_7_0 (Sv_at hQ hLp0 hKp0)
      refine p_get (v := .ref y24) hx hb hts inX7 hown hK hP hLp0 hKp0 rfl rfl 0 (by decide) (hts _ pq1115) (congrArg (fun q => some (va_rf q)) ey24) dX7_sieve_24 ?_
      refine lv_iconst (v := 1) hx hb dX7_sieve_27 (by decide +kernel) ?_
      refine p_iald hx hb hK hP 8 hLy24 hKy24 rfl rfl (in_d (by decide +kernel)) dX7_sieve_28 ?_
      refine lv_topi (fun z28 ez28 => ?_)
      have bz28 := rng1 (oR_18 (i := (1 : Int32)) (k := (1)) (by decide +kernel) (Iv_at hI22 hLy24 hKy24))
      rw [← ez28] at bz28
      refine lv_icmp_ge (tgt := 112) hx hb dX7_sieve_29 (by decide) (fun c29 => ?_) (fun c29 => ?_)
      · have t29 := tq_le (k := z28.toInt) (q := v22_3.toInt) c29 rfl rfl
        refine lv_iload_n hx hb dX7_sieve_112 rfl (lv_at hl 2 rfl) ?_
        subst hR; subst hQz
        exact W.iret (v := v22_2) hx hb hr (fun t ht hW => ⟨⟨v22_2, (), rfl, (fun σ ok h => by have h22 := cmA_fr hQ hLp0 hKp0 (fun b hb => fr_I22 b (by omega)) (fun b hb => dj_Jz15 b (by omega)) kp0_11_I22 h; have n28 : z28.toInt = (σ.1.1 1).toInt := congrArg Int32.toInt ((show z28 = I22 y24 1 from ez28).trans ((show I22 y24 1 = I22 (a0 Q p0 0) 1 from (by rw [show a0 Q p0 0 = y24 from gd_of ey24])).trans (cm_1 h22))); rw [g22 σ ok h, prI_end (by omega)]; rfl), ⟨I22, Jz15, ⟨hI22, fr_I22, kp0_11_I22, dn_I22, (fun σ A => cmA_fr hQ hLp0 hKp0 (fun b hb => fr_I22 b (by omega)) (fun b hb => dj_Jz15 b (by omega)) kp0_11_I22 A), dj_Jz15⟩, by rw [ht]; exact hP⟩⟩, hS.F ht⟩) hS.2.2 dX7_sieve_113
      · have t29 := tq_nle (k := z28.toInt) (q := v22_3.toInt) c29 rfl rfl
        refine lv_iload_n hx hb dX7_sieve_32 rfl (lv_at hl 3 rfl) ?_
        refine lv_iconst (v := 1) hx hb dX7_sieve_33 (by decide +kernel) ?_
        refine lv_iadd hx hb dX7_sieve_34 ?_
        refine lv_topi (fun z34 ez34 => ?_)
        have bz34 := tq_add (k := v22_3.toInt) (q := (1)) ez34 rfl (by decide +kernel) (by omega) (by omega)
        refine lv_istore (lv' := [(4, .int z34), (0, .ref p0), (1, .int p1), (2, .int v22_2), (3, .int v22_3)]) hx hb dX7_sieve_35 hl (by decide) rfl (fun ls hl => ?_)
        have key37 := blocks (fun n => ∀ (v37_2 : Int32) (v37_4 : Int32) (I37 : Nat → Nat → Int32) (H : Heap) (lo : List Loc) (ls : Array Slot), (11 - v37_4.toInt).toNat = n → ((1) ≤ v37_4.toInt ∧ v37_4.toInt ≤ 10) → Iv L K x0 m0 tx tm I37 → I37 p0 11 = I p0 11 → (∀ b, ¬ (K b = 26 ∨ K b = 29) → I37 b = I b) → (∀ b, K b = 0 ∨ K b = 1 ∨ K b = 3 ∨ K b = 6 → I37 b = I b) → (∀ σ : Sx, okF σ.1 → cmA Q I J p0 σ → svR σ p1 = smL (svT σ p1.toInt) (prJ (σ.1.1 1).toInt.toNat v22_3.toInt.toNat v37_4.toInt.toNat) v37_2) → va_P (dC, dI) vwCl (Wd cs L K I37 Jz15 Q) H → va_S A s.heap H lo → lv_has ls 5 [(0, .ref p0), (1, .int p1), (2, .int v37_2), (3, .int v22_3), (4, .int v37_4)] → W p l e R s m (([.ref p0, .int p1] : List Value).toArray) below meth c H lo 0 0 Qz (F0 m 37 ls [])) (by
          intro n ih37
          intro v37_2 v37_4 I37 H lo ls hmu37 bv37_4 hI37 kp0_11_I37 fr_I37 dn_I37 g37 hP hS hl
          refine lv_iload hx hb dX7_sieve_37 (lv_at hl 4 rfl) ?_
          refine lv_aload_n hx hb dX7_sieve_39 rfl (lv_at hl 0 rfl) ?_
          refine p_get (v := .ref y24) hx hb hts inX7 hown hK hP hLp0 hKp0 rfl rfl 0 (by decide) (hts _ pq1115) (congrArg (fun q => some (va_rf q)) ey24) dX7_sieve_40 ?_
          refine lv_iconst (v := 1) hx hb dX7_sieve_43 (by decide +kernel) ?_
          refine p_iald hx hb hK hP 8 hLy24 hKy24 rfl rfl (in_d (by decide +kernel)) dX7_sieve_44 ?_
          refine lv_topi (fun z44 ez44 => ?_)
          have bz44 := rng1 (oR_18 (i := (1 : Int32)) (k := (1)) (by decide +kernel) (Iv_at hI37 hLy24 hKy24))
          rw [← ez44] at bz44
          refine lv_icmp_ge (tgt := 106) hx hb dX7_sieve_45 (by decide) (fun c45 => ?_) (fun c45 => ?_)
          · have t45 := tq_le (k := z44.toInt) (q := v37_4.toInt) c45 rfl rfl
            obtain ⟨z106, ez106⟩ : ∃ y : Int32, y = v22_3 + 1 := ⟨_, rfl⟩
            refine lv_iinc (v := z106) (lv' := [(3, .int z106), (0, .ref p0), (1, .int p1), (2, .int v37_2), (4, .int v37_4)]) hx hb dX7_sieve_106 hl (k := 3) rfl (by rw [ez106]; rfl) (by decide) rfl (fun ls hl => ?_)
            have bz106 := tq_add (k := v22_3.toInt) (q := 1) ez106 rfl (by decide +kernel) (by omega) (by omega)
            refine lv_goto (tgt := 22) hx hb dX7_sieve_109 (by decide) ?_
            exact ih22 _ (by omega) v37_2 z106 I37 _ _ _ rfl ⟨by omega, by omega⟩ hI37 kp0_11_I37 fr_I37 dn_I37 (fun σ ok h => by have h37 := cmA_fr hQ hLp0 hKp0 (fun b hb => fr_I37 b (by omega)) (fun b hb => dj_Jz15 b (by omega)) kp0_11_I37 h; have n44 : z44.toInt = (σ.1.1 1).toInt := congrArg Int32.toInt ((show z44 = I37 y24 1 from ez44).trans ((show I37 y24 1 = I37 (a0 Q p0 0) 1 from (by rw [show a0 Q p0 0 = y24 from gd_of ey24])).trans (cm_1 h37))); rw [g37 σ ok h, prJ_end (by omega), show z106.toInt.toNat = v22_3.toInt.toNat + 1 by omega]) hP hS (lv_sub hl [1, 2, 3, 0] rfl)
          · have t45 := tq_nle (k := z44.toInt) (q := v37_4.toInt) c45 rfl rfl
            refine lv_iload_n hx hb dX7_sieve_48 rfl (lv_at hl 2 rfl) ?_
            refine lv_aload_n hx hb dX7_sieve_49 rfl (lv_at hl 0 rfl) ?_
            refine lv_iload_n hx hb dX7_sieve_50 rfl (lv_at hl 3 rfl) ?_
            refine lv_iload hx hb dX7_sieve_51 (lv_at hl 4 rfl) ?_
            refine ro_i (va_runV (As := [.int v22_3, .int v37_4]) (rest := [.int v37_2]) ⟨hx, hb, hml, hown, hts⟩ (s_X7_mayTouch l dC dI cs L K G Q hQ x0 m0 tx tm H.size I37 Jz15 hI37 p0 hLp0 hKp0 v22_3 ⟨by omega, by omega⟩ v37_4 ⟨by omega, by omega⟩) (cwV 2 hts (gV pq1452 pq1454 pq45 pq81 pq1455) rfl rfl rfl (by decide +kernel) ⟨(by rw [hR]; exact (Nat.le_of_ble_eq_true rfl)), (by rw [hR]; exact (Nat.le_of_ble_eq_true rfl))⟩) (sP_V hP hD hK hN hLp0 hKp0 rfl rfl) rfl rfl hl.1 rfl (lv_room (Nat.le_of_ble_eq_true rfl)) dX7_sieve_53 ⟨(by rw [hR]; exact (Nat.le_of_ble_eq_true rfl)), (by rw [hR]; exact (Nat.le_of_ble_eq_true rfl))⟩) hS hP (fun z53 H locs hz53 hP hS => ?_)
            obtain ⟨bz53, xpz53⟩ := hz53
            have j95 : ∀ (w95_1 : Int32) (I95 : Nat → Nat → Int32) (H : Heap) (lo : List Loc) (ls : Array Slot), ((0) ≤ w95_1.toInt ∧ w95_1.toInt ≤ 1) → Iv L K x0 m0 tx tm I95 → I95 p0 11 = I p0 11 → (∀ b, ¬ (K b = 26 ∨ K b = 29) → I95 b = I b) → (∀ b, K b = 0 ∨ K b = 1 ∨ K b = 3 ∨ K b = 6 → I95 b = I b) → (∀ σ : Sx, okF σ.1 → cmA Q I J p0 σ → (¬ w95_1.toInt = 0 ↔ svP σ.1 p1.toInt v22_3.toInt.toNat v37_4.toInt.toNat)) → va_P (dC, dI) vwCl (Wd cs L K I95 Jz15 Q) H → va_S A s.heap H lo → lv_has ls 5 [(0, .ref p0), (1, .int p1), (2, .int v37_2), (3, .int v22_3), (4, .int v37_4)] → W p l e R s m (([.ref p0, .int p1] : List Value).toArray) below meth c H lo 0 0 Qz (F0 m 95 ls [.int w95_1, .int v37_2]) := by
              intro w95_1 I95 H lo ls bw95_1 hI95 kp0_11_I95 fr_I95 dn_I95 hs95 hP hS hl
              refine ro_i (va_runS (As := [.int w95_1]) (rest := [.int v37_2]) ⟨hx, hb, hml, hown, hts⟩ (s_X7_truth l dC dI cs L K Q H.size I95 Jz15 w95_1) (va_cwS 1 hts (gS pq1257 pq1258 pq81 pq1259) rfl rfl rfl (by decide +kernel) ⟨(by rw [hR]; exact (Nat.le_of_ble_eq_true rfl)), (by rw [hR]; exact (Nat.le_of_ble_eq_true rfl))⟩) (sP_S hP hD hK hN) rfl rfl hl.1 rfl (lv_room (Nat.le_of_ble_eq_true rfl)) dX7_sieve_95 ⟨(by rw [hR]; exact (Nat.le_of_ble_eq_true rfl)), (by rw [hR]; exact (Nat.le_of_ble_eq_true rfl))⟩) hS hP (fun z95 H locs hz95 hP hS => ?_)
              obtain ⟨bz95, xpz95⟩ := hz95
              refine lv_iadd hx hb dX7_sieve_98 ?_
              refine lv_topi (fun z98 ez98 => ?_)
              refine lv_istore_n (lv' := [(2, .int z98), (0, .ref p0), (1, .int p1), (3, .int v22_3), (4, .int v37_4)]) hx hb dX7_sieve_99 rfl hl (by decide) rfl (fun ls hl => ?_)
              obtain ⟨z100, ez100⟩ : ∃ y : Int32, y = v37_4 + 1 := ⟨_, rfl⟩
              refine lv_iinc (v := z100) (lv' := [(4, .int z100), (2, .int z98), (0, .ref p0), (1, .int p1), (3, .int v22_3)]) hx hb dX7_sieve_100 hl (k := 4) rfl (by rw [ez100]; rfl) (by decide) rfl (fun ls hl => ?_)
              have bz100 := tq_add (k := v37_4.toInt) (q := 1) ez100 rfl (by decide +kernel) (by omega) (by omega)
              refine lv_goto (tgt := 37) hx hb dX7_sieve_103 (by decide) ?_
              exact ih37 _ (by omega) z98 z100 I95 _ _ _ rfl ⟨by omega, by omega⟩ hI95 kp0_11_I95 fr_I95 dn_I95 (fun σ ok h => by have h37 := cmA_fr hQ hLp0 hKp0 (fun b hb => fr_I37 b (by omega)) (fun b hb => dj_Jz15 b (by omega)) kp0_11_I37 h; have n44 : z44.toInt = (σ.1.1 1).toInt := congrArg Int32.toInt ((show z44 = I37 y24 1 from ez44).trans ((show I37 y24 1 = I37 (a0 Q p0 0) 1 from (by rw [show a0 Q p0 0 = y24 from gd_of ey24])).trans (cm_1 h37))); have w := hs95 σ ok h; rw [g37 σ ok h, prJ_go (by omega), show z100.toInt.toNat = v37_4.toInt.toNat + 1 by omega]; by_cases q : w95_1.toInt = 0; (rw [sm_no (fun k => (w.mpr k) q), show z98 = v37_2 from (by rw [ez98, show z95 = 0 from Int32.toInt_inj.mp ((xpz95.1 q).trans (by decide +kernel)), Int32.add_zero])]); (rw [sm_go (w.mp q), show z98 = v37_2 + 1 from (by rw [ez98, show z95 = 1 from Int32.toInt_inj.mp ((xpz95.2 q).trans (by decide +kernel))])])) hP hS (lv_sub hl [2, 3, 1, 4, 0] rfl)
            have j94 : ∀ (I94 : Nat → Nat → Int32) (H : Heap) (lo : List Loc) (ls : Array Slot), Iv L K x0 m0 tx tm I94 → I94 p0 11 = I p0 11 → (∀ b, ¬ (K b = 26 ∨ K b = 29) → I94 b = I b) → (∀ b, K b = 0 ∨ K b = 1 ∨ K b = 3 ∨ K b = 6 → I94 b = I b) → (∀ σ : Sx, okF σ.1 → cmA Q I J p0 σ → ¬ svP σ.1 p1.toInt v22_3.toInt.toNat v37_4.toInt.toNat) → va_P (dC, dI) vwCl (Wd cs L K I94 Jz15 Q) H → va_S A s.heap H lo → lv_has ls 5 [(0, .ref p0), (1, .int p1), (2, .int v37_2), (3, .int v22_3), (4, .int v37_4)] → W p l e R s m (([.ref p0, .int p1] : List Value).toArray) below meth c H lo 0 0 Qz (F0 m 94 ls [.int v37_2]) := by
              intro I94 H lo ls hI94 kp0_11_I94 fr_I94 dn_I94 h94 hP hS hl
              refine lv_iconst (v := 0) hx hb dX7_sieve_94 (by decide +kernel) ?_
              exact j95 0 I94 _ _ _ ⟨by decide +kernel, by decide +kernel⟩ hI94 kp0_11_I94 fr_I94 dn_I94 (fun σ ok h => ⟨fun q => absurd (by decide +kernel) q, fun q => absurd q (h94 σ ok h)⟩) hP hS (lv_sub hl [0, 1, 2, 3, 4] rfl)
            refine lv_if_eq (tgt := 94) hx hb dX7_sieve_56 (by decide) (fun c56 => ?_) (fun c56 => ?_)
            · have t56 := tq_eq (k := z53.toInt) (q := (0)) c56 rfl (by decide +kernel)
              exact j94 I37 _ _ _ hI37 kp0_11_I37 fr_I37 dn_I37 (fun σ ok h => by have h22 := cmA_fr hQ hLp0 hKp0 (fun b hb => fr_I22 b (by omega)) (fun b hb => dj_Jz15 b (by omega)) kp0_11_I22 h; have n28 : z28.toInt = (σ.1.1 1).toInt := congrArg Int32.toInt ((show z28 = I22 y24 1 from ez28).trans ((show I22 y24 1 = I22 (a0 Q p0 0) 1 from (by rw [show a0 Q p0 0 = y24 from gd_of ey24])).trans (cm_1 h22))); have h37 := cmA_fr hQ hLp0 hKp0 (fun b hb => fr_I37 b (by omega)) (fun b hb => dj_Jz15 b (by omega)) kp0_11_I37 h; have n44 : z44.toInt = (σ.1.1 1).toInt := congrArg Int32.toInt ((show z44 = I37 y24 1 from ez44).trans ((show I37 y24 1 = I37 (a0 Q p0 0) 1 from (by rw [show a0 Q p0 0 = y24 from gd_of ey24])).trans (cm_1 h37))); have ha : v22_3.toInt.toNat < (σ.1.1 1).toInt.toNat := (by omega); have hb : v37_4.toInt.toNat < (σ.1.1 1).toInt.toNat := (by omega); have wm := xpz53 σ.1 (cmA_rI h37); intro q; first | exact wm.mpr q.1 t56 | (have wb := xpz67 σ.1 ok (cmA_rI h37) (cmA_rJ h37) ha hb; exact q.2.elim (fun e => t60 e) (fun e => wb.mpr e.1 t70)) | (have h67 := cmA_fr hQ hLp0 hKp0 (fun b hb => fr_Iz67 b (by omega)) (fun b hb => dj_Jz15 b (by omega)) kp0_11_Iz67 h; have wt := xpz84.2 σ.1 ok (cmA_rI h67) (jz15 σ.1 ok (cmA_rI h) (cmA_rJ h)) ha hb ⟨⟨by omega, by omega⟩, by omega, by omega⟩; exact q.2.elim (fun e => t60 e) (fun e => e.2.elim (fun e2 => t75 e2) (fun e2 => wt.mpr e2 t87)))) hP hS (lv_sub hl [0, 1, 2, 3, 4] rfl)
            · have t56 := tq_ne (k := z53.toInt) (q := (0)) c56 rfl (by decide +kernel)
              refine lv_iload_n hx hb dX7_sieve_59 rfl (lv_at hl 1 rfl) ?_
              have j90 : ∀ (I90 : Nat → Nat → Int32) (H : Heap) (lo : List Loc) (ls : Array Slot), Iv L K x0 m0 tx tm I90 → I90 p0 11 = I p0 11 → (∀ b, ¬ (K b = 26 ∨ K b = 29) → I90 b = I b) → (∀ b, K b = 0 ∨ K b = 1 ∨ K b = 3 ∨ K b = 6 → I90 b = I b) → (∀ σ : Sx, okF σ.1 → cmA Q I J p0 σ → svP σ.1 p1.toInt v22_3.toInt.toNat v37_4.toInt.toNat) → va_P (dC, dI) vwCl (Wd cs L K I90 Jz15 Q) H → va_S A s.heap H lo → lv_has ls 5 [(0, .ref p0), (1, .int p1), (2, .int v37_2), (3, .int v22_3), (4, .int v37_4)] → W p l e R s m (([.ref p0, .int p1] : List Value).toArray) below meth c H lo 0 0 Qz (F0 m 90 ls [.int v37_2]) := by
                intro I90 H lo ls hI90 kp0_11_I90 fr_I90 dn_I90 h90 hP hS hl
                refine lv_iconst (v := 1) hx hb dX7_sieve_90 (by decide +kernel) ?_
                refine lv_goto (tgt := 95) hx hb dX7_sieve_91 (by decide) ?_
                exact j95 1 I90 _ _ _ ⟨by decide +kernel, by decide +kernel⟩ hI90 kp0_11_I90 fr_I90 dn_I90 (fun σ ok h => ⟨fun _ => h90 σ ok h, fun _ => by decide +kernel⟩) hP hS (lv_sub hl [0, 1, 2, 3, 4] rfl)
              refine lv_if_eq (tgt := 90) hx hb dX7_sieve_60 (by decide) (fun c60 => ?_) (fun c60 => ?_)
              · have t60 := tq_eq (k := p1.toInt) (q := (0)) c60 rfl (by decide +kernel)
                exact j90 I37 _ _ _ hI37 kp0_11_I37 fr_I37 dn_I37 (fun σ ok h => by have h22 := cmA_fr hQ hLp0 hKp0 (fun b hb => fr_I22 b (by omega)) (fun b hb => dj_Jz15 b (by omega)) kp0_11_I22 h; have n28 : z28.toInt = (σ.1.1 1).toInt := congrArg Int32.toInt ((show z28 = I22 y24 1 from ez28).trans ((show I22 y24 1 = I22 (a0 Q p0 0) 1 from (by rw [show a0 Q p0 0 = y24 from gd_of ey24])).trans (cm_1 h22))); have h37 := cmA_fr hQ hLp0 hKp0 (fun b hb => fr_I37 b (by omega)) (fun b hb => dj_Jz15 b (by omega)) kp0_11_I37 h; have n44 : z44.toInt = (σ.1.1 1).toInt := congrArg Int32.toInt ((show z44 = I37 y24 1 from ez44).trans ((show I37 y24 1 = I37 (a0 Q p0 0) 1 from (by rw [show a0 Q p0 0 = y24 from gd_of ey24])).trans (cm_1 h37))); have ha : v22_3.toInt.toNat < (σ.1.1 1).toInt.toNat := (by omega); have hb : v37_4.toInt.toNat < (σ.1.1 1).toInt.toNat := (by omega); have wm := xpz53 σ.1 (cmA_rI h37); first | exact ⟨wm.mp t56, Or.inl t60⟩ | (have wb := xpz67 σ.1 ok (cmA_rI h37) (cmA_rJ h37) ha hb; exact ⟨wm.mp t56, Or.inr ⟨wb.mp t70, Or.inl t75⟩⟩) | (have wb := xpz67 σ.1 ok (cmA_rI h37) (cmA_rJ h37) ha hb; have h67 := cmA_fr hQ hLp0 hKp0 (fun b hb => fr_Iz67 b (by omega)) (fun b hb => dj_Jz15 b (by omega)) kp0_11_Iz67 h; have wt := xpz84.2 σ.1 ok (cmA_rI h67) (jz15 σ.1 ok (cmA_rI h) (cmA_rJ h)) ha hb ⟨⟨by omega, by omega⟩, by omega, by omega⟩; exact ⟨wm.mp t56, Or.inr ⟨wb.mp t70, Or.inr (wt.mp t87)⟩⟩)) hP hS (lv_sub hl [0, 1, 2, 3, 4] rfl)
              · have t60 := tq_ne (k := p1.toInt) (q := (0)) c60 rfl (by decide +kernel)
                refine lv_aload_n hx hb dX7_sieve_63 rfl (lv_at hl 0 rfl) ?_
                refine lv_iload_n hx hb dX7_sieve_64 rfl (lv_at hl 3 rfl) ?_
                refine lv_iload hx hb dX7_sieve_65 (lv_at hl 4 rfl) ?_
                refine sw_i (Z := (fun I1 J1 => Iv L K x0 m0 tx tm I1 ∧ (∀ b, ¬ (K b = 26 ∨ K b = 29) → I1 b = I37 b) ∧ (∀ b, K b = 0 ∨ K b = 1 ∨ K b = 3 ∨ K b = 6 → I1 b = I37 b) ∧ J1 = Jz15)) (va_runV (As := [.int v22_3, .int v37_4]) (rest := [.int v37_2]) ⟨hx, hb, hml, hown, hts⟩ (s_X7_boxesMeet l dC dI cs L K G Q hQ x0 m0 tx tm H.size I37 Jz15 hI37 p0 hLp0 hKp0 v22_3 ⟨by omega, by omega⟩ v37_4 ⟨by omega, by omega⟩) (cwV 2 hts (gV pq1596 pq1598 pq65 pq81 pq1599) rfl rfl rfl (by decide +kernel) ⟨(by rw [hR]; exact (Nat.le_of_ble_eq_true rfl)), (by rw [hR]; exact (Nat.le_of_ble_eq_true rfl))⟩) (sP_V hP hD hK hN hLp0 hKp0 rfl rfl) rfl rfl hl.1 rfl (lv_room (Nat.le_of_ble_eq_true rfl)) dX7_sieve_67 ⟨(by rw [hR]; exact (Nat.le_of_ble_eq_true rfl)), (by rw [hR]; exact (Nat.le_of_ble_eq_true rfl))⟩) hS hAL hA (fun z67 Iz67 Jz67 H locs hz67 hIz67 hP hS => ?_)
                obtain ⟨hIz67, frc67, dnc67, djc67⟩ := hIz67
                obtain rfl : Jz15 = Jz67 := djc67.symm
                have dn_Iz67 : (∀ b, K b = 0 ∨ K b = 1 ∨ K b = 3 ∨ K b = 6 → Iz67 b = I b) := fun b hc => (dnc67 b (by omega)).trans (dn_I37 b hc)
                have kp0_11_Iz67 : Iz67 p0 11 = I p0 11 := (congrFun (frc67 p0 (by omega)) 11).trans kp0_11_I37
                have fr_Iz67 : ∀ b, ¬ (K b = 26 ∨ K b = 29) → Iz67 b = I b := fun b q => (frc67 b (fun z => q (by omega))).trans (fr_I37 b q)
                obtain ⟨bz67, xpz67⟩ := hz67
                refine lv_if_eq (tgt := 94) hx hb dX7_sieve_70 (by decide) (fun c70 => ?_) (fun c70 => ?_)
                · have t70 := tq_eq (k := z67.toInt) (q := (0)) c70 rfl (by decide +kernel)
                  exact j94 Iz67 _ _ _ hIz67 kp0_11_Iz67 fr_Iz67 dn_Iz67 (fun σ ok h => by have h22 := cmA_fr hQ hLp0 hKp0 (fun b hb => fr_I22 b (by omega)) (fun b hb => dj_Jz15 b (by omega)) kp0_11_I22 h; have n28 : z28.toInt = (σ.1.1 1).toInt := congrArg Int32.toInt ((show z28 = I22 y24 1 from ez28).trans ((show I22 y24 1 = I22 (a0 Q p0 0) 1 from (by rw [show a0 Q p0 0 = y24 from gd_of ey24])).trans (cm_1 h22))); have h37 := cmA_fr hQ hLp0 hKp0 (fun b hb => fr_I37 b (by omega)) (fun b hb => dj_Jz15 b (by omega)) kp0_11_I37 h; have n44 : z44.toInt = (σ.1.1 1).toInt := congrArg Int32.toInt ((show z44 = I37 y24 1 from ez44).trans ((show I37 y24 1 = I37 (a0 Q p0 0) 1 from (by rw [show a0 Q p0 0 = y24 from gd_of ey24])).trans (cm_1 h37))); have ha : v22_3.toInt.toNat < (σ.1.1 1).toInt.toNat := (by omega); have hb : v37_4.toInt.toNat < (σ.1.1 1).toInt.toNat := (by omega); have wm := xpz53 σ.1 (cmA_rI h37); intro q; first | exact wm.mpr q.1 t56 | (have wb := xpz67 σ.1 ok (cmA_rI h37) (cmA_rJ h37) ha hb; exact q.2.elim (fun e => t60 e) (fun e => wb.mpr e.1 t70)) | (have h67 := cmA_fr hQ hLp0 hKp0 (fun b hb => fr_Iz67 b (by omega)) (fun b hb => dj_Jz15 b (by omega)) kp0_11_Iz67 h; have wt := xpz84.2 σ.1 ok (cmA_rI h67) (jz15 σ.1 ok (cmA_rI h) (cmA_rJ h)) ha hb ⟨⟨by omega, by omega⟩, by omega, by omega⟩; exact q.2.elim (fun e => t60 e) (fun e => e.2.elim (fun e2 => t75 e2) (fun e2 => wt.mpr e2 t87)))) hP hS (lv_sub hl [0, 1, 2, 3, 4] rfl)
                · have t70 := tq_ne (k := z67.toInt) (q := (0)) c70 rfl (by decide +kernel)
                  refine lv_iload_n hx hb dX7_sieve_73 rfl (lv_at hl 1 rfl) ?_
                  refine lv_iconst (v := 1) hx hb dX7_sieve_74 (by decide +kernel) ?_
                  refine lv_icmp_eq (tgt := 90) hx hb dX7_sieve_75 (by decide) (fun c75 => ?_) (fun c75 => ?_)
                  · have t75 := tq_eq (k := p1.toInt) (q := (1)) c75 rfl (by decide +kernel)
                    exact j90 Iz67 _ _ _ hIz67 kp0_11_Iz67 fr_Iz67 dn_Iz67 (fun σ ok h => by have h22 := cmA_fr hQ hLp0 hKp0 (fun b hb => fr_I22 b (by omega)) (fun b hb => dj_Jz15 b (by omega)) kp0_11_I22 h; have n28 : z28.toInt = (σ.1.1 1).toInt := congrArg Int32.toInt ((show z28 = I22 y24 1 from ez28).trans ((show I22 y24 1 = I22 (a0 Q p0 0) 1 from (by rw [show a0 Q p0 0 = y24 from gd_of ey24])).trans (cm_1 h22))); have h37 := cmA_fr hQ hLp0 hKp0 (fun b hb => fr_I37 b (by omega)) (fun b hb => dj_Jz15 b (by omega)) kp0_11_I37 h; have n44 : z44.toInt = (σ.1.1 1).toInt := congrArg Int32.toInt ((show z44 = I37 y24 1 from ez44).trans ((show I37 y24 1 = I37 (a0 Q p0 0) 1 from (by rw [show a0 Q p0 0 = y24 from gd_of ey24])).trans (cm_1 h37))); have ha : v22_3.toInt.toNat < (σ.1.1 1).toInt.toNat := (by omega); have hb : v37_4.toInt.toNat < (σ.1.1 1).toInt.toNat := (by omega); have wm := xpz53 σ.1 (cmA_rI h37); first | exact ⟨wm.mp t56, Or.inl t60⟩ | (have wb := xpz67 σ.1 ok (cmA_rI h37) (cmA_rJ h37) ha hb; exact ⟨wm.mp t56, Or.inr ⟨wb.mp t70, Or.inl t75⟩⟩) | (have wb := xpz67 σ.1 ok (cmA_rI h37) (cmA_rJ h37) ha hb; have h67 := cmA_fr hQ hLp0 hKp0 (fun b hb => fr_Iz67 b (by omega)) (fun b hb => dj_Jz15 b (by omega)) kp0_11_Iz67 h; have wt := xpz84.2 σ.1 ok (cmA_rI h67) (jz15 σ.1 ok (cmA_rI h) (cmA_rJ h)) ha hb ⟨⟨by omega, by omega⟩, by omega, by omega⟩; exact ⟨wm.mp t56, Or.inr ⟨wb.mp t70, Or.inr (wt.mp t87)⟩⟩)) hP hS (lv_sub hl [0, 1, 2, 3, 4] rfl)
                  · have t75 := tq_ne (k := p1.toInt) (q := (1)) c75 rfl (by decide +kernel)
                    refine lv_aload_n hx hb dX7_sieve_78 rfl (lv_at hl 0 rfl) ?_
                    refine lv_iload_n hx hb dX7_sieve_79 rfl (lv_at hl 3 rfl) ?_
                    refine lv_iload hx hb dX7_sieve_80 (lv_at hl 4 rfl) ?_
                    refine lv_iconst (v := 0) hx hb dX7_sieve_82 (by decide +kernel) ?_
                    refine lv_iconst (v := 0) hx hb dX7_sieve_83 (by decide +kernel) ?_
                    refine ro_i (va_runV (As := [.int v22_3, .int v37_4, .int 0, .int 0]) (rest := [.int v37_2]) ⟨hx, hb, hml, hown, hts⟩ (s_X7_meets l dC dI cs L K G Q hQ x0 m0 tx tm H.size Iz67 Jz15 hIz67 p0 hLp0 hKp0 v22_3 ⟨by omega, by omega⟩ v37_4 ⟨by omega, by omega⟩ 0 0 ⟨by decide +kernel, by decide +kernel⟩) (cwV 4 hts (gV pq1456 pq1458 pq46 pq81 pq1459) rfl rfl rfl (by decide +kernel) ⟨(by rw [hR]; exact (Nat.le_of_ble_eq_true rfl)), (by rw [hR]; exact (Nat.le_of_ble_eq_true rfl))⟩) (sP_V hP hD hK hN hLp0 hKp0 rfl rfl) rfl rfl hl.1 rfl (lv_room (Nat.le_of_ble_eq_true rfl)) dX7_sieve_84 ⟨(by rw [hR]; exact (Nat.le_of_ble_eq_true rfl)), (by rw [hR]; exact (Nat.le_of_ble_eq_true rfl))⟩) hS hP (fun z84 H locs hz84 hP hS => ?_)
                    have cst84_0 : (0 : Int32).toInt = 0 := by decide +kernel
                    obtain ⟨bz84, xpz84⟩ := hz84
                    try rw [cst84_0] at xpz84
                    refine lv_if_eq (tgt := 94) hx hb dX7_sieve_87 (by decide) (fun c87 => ?_) (fun c87 => ?_)
                    · have t87 := tq_eq (k := z84.toInt) (q := (0)) c87 rfl (by decide +kernel)
                      exact j94 Iz67 _ _ _ hIz67 kp0_11_Iz67 fr_Iz67 dn_Iz67 (fun σ ok h => by have h22 := cmA_fr hQ hLp0 hKp0 (fun b hb => fr_I22 b (by omega)) (fun b hb => dj_Jz15 b (by omega)) kp0_11_I22 h; have n28 : z28.toInt = (σ.1.1 1).toInt := congrArg Int32.toInt ((show z28 = I22 y24 1 from ez28).trans ((show I22 y24 1 = I22 (a0 Q p0 0) 1 from (by rw [show a0 Q p0 0 = y24 from gd_of ey24])).trans (cm_1 h22))); have h37 := cmA_fr hQ hLp0 hKp0 (fun b hb => fr_I37 b (by omega)) (fun b hb => dj_Jz15 b (by omega)) kp0_11_I37 h; have n44 : z44.toInt = (σ.1.1 1).toInt := congrArg Int32.toInt ((show z44 = I37 y24 1 from ez44).trans ((show I37 y24 1 = I37 (a0 Q p0 0) 1 from (by rw [show a0 Q p0 0 = y24 from gd_of ey24])).trans (cm_1 h37))); have ha : v22_3.toInt.toNat < (σ.1.1 1).toInt.toNat := (by omega); have hb : v37_4.toInt.toNat < (σ.1.1 1).toInt.toNat := (by omega); have wm := xpz53 σ.1 (cmA_rI h37); intro q; first | exact wm.mpr q.1 t56 | (have wb := xpz67 σ.1 ok (cmA_rI h37) (cmA_rJ h37) ha hb; exact q.2.elim (fun e => t60 e) (fun e => wb.mpr e.1 t70)) | (have h67 := cmA_fr hQ hLp0 hKp0 (fun b hb => fr_Iz67 b (by omega)) (fun b hb => dj_Jz15 b (by omega)) kp0_11_Iz67 h; have wt := xpz84.2 σ.1 ok (cmA_rI h67) (jz15 σ.1 ok (cmA_rI h) (cmA_rJ h)) ha hb ⟨⟨by omega, by omega⟩, by omega, by omega⟩; exact q.2.elim (fun e => t60 e) (fun e => e.2.elim (fun e2 => t75 e2) (fun e2 => wt.mpr e2 t87)))) hP hS (lv_sub hl [0, 1, 2, 3, 4] rfl)
                    · have t87 := tq_ne (k := z84.toInt) (q := (0)) c87 rfl (by decide +kernel)
                      exact j90 Iz67 _ _ _ hIz67 kp0_11_Iz67 fr_Iz67 dn_Iz67 (fun σ ok h => by have h22 := cmA_fr hQ hLp0 hKp0 (fun b hb => fr_I22 b (by omega)) (fun b hb => dj_Jz15 b (by omega)) kp0_11_I22 h; have n28 : z28.toInt = (σ.1.1 1).toInt := congrArg Int32.toInt ((show z28 = I22 y24 1 from ez28).trans ((show I22 y24 1 = I22 (a0 Q p0 0) 1 from (by rw [show a0 Q p0 0 = y24 from gd_of ey24])).trans (cm_1 h22))); have h37 := cmA_fr hQ hLp0 hKp0 (fun b hb => fr_I37 b (by omega)) (fun b hb => dj_Jz15 b (by omega)) kp0_11_I37 h; have n44 : z44.toInt = (σ.1.1 1).toInt := congrArg Int32.toInt ((show z44 = I37 y24 1 from ez44).trans ((show I37 y24 1 = I37 (a0 Q p0 0) 1 from (by rw [show a0 Q p0 0 = y24 from gd_of ey24])).trans (cm_1 h37))); have ha : v22_3.toInt.toNat < (σ.1.1 1).toInt.toNat := (by omega); have hb : v37_4.toInt.toNat < (σ.1.1 1).toInt.toNat := (by omega); have wm := xpz53 σ.1 (cmA_rI h37); first | exact ⟨wm.mp t56, Or.inl t60⟩ | (have wb := xpz67 σ.1 ok (cmA_rI h37) (cmA_rJ h37) ha hb; exact ⟨wm.mp t56, Or.inr ⟨wb.mp t70, Or.inl t75⟩⟩) | (have wb := xpz67 σ.1 ok (cmA_rI h37) (cmA_rJ h37) ha hb; have h67 := cmA_fr hQ hLp0 hKp0 (fun b hb => fr_Iz67 b (by omega)) (fun b hb => dj_Jz15 b (by omega)) kp0_11_Iz67 h; have wt := xpz84.2 σ.1 ok (cmA_rI h67) (jz15 σ.1 ok (cmA_rI h) (cmA_rJ h)) ha hb ⟨⟨by omega, by omega⟩, by omega, by omega⟩; exact ⟨wm.mp t56, Or.inr ⟨wb.mp t70, Or.inr (wt.mp t87)⟩⟩)) hP hS (lv_sub hl [0, 1, 2, 3, 4] rfl))
        exact key37 _ v22_2 z34 I22 _ _ _ rfl ⟨by omega, by omega⟩ hI22 kp0_11_I22 fr_I22 dn_I22 (fun σ ok h => by have h22 := cmA_fr hQ hLp0 hKp0 (fun b hb => fr_I22 b (by omega)) (fun b hb => dj_Jz15 b (by omega)) kp0_11_I22 h; have n28 : z28.toInt = (σ.1.1 1).toInt := congrArg Int32.toInt ((show z28 = I22 y24 1 from ez28).trans ((show I22 y24 1 = I22 (a0 Q p0 0) 1 from (by rw [show a0 Q p0 0 = y24 from gd_of ey24])).trans (cm_1 h22))); rw [g22 σ ok h, prI_go (by omega), show z34.toInt.toNat = v22_3.toInt.toNat + 1 by omega]) hP hS (lv_sub hl [1, 2, 3, 4, 0] rfl))
    exact key22 _ 0 0 I _ _ _ rfl ⟨by decide +kernel, by decide +kernel⟩ hI kp0_11_I fr_I dn_I (fun σ ok h => by unfold svR; rw [if_pos ⟨by omega, by omega⟩, show (0 : Int32).toInt.toNat = 0 from by decide +kernel]) hP hS (lv_sub hl [2, 3, 1, 0] rfl)
  · have t9 := tq_eq (k := z6.toInt) (q := (0)) c9 rfl (by decide +kernel)
    refine lv_iconst (v := (-1)) hx hb dX7_sieve_12 (by decide +kernel) ?_
    subst hR; subst hQz
    exact W.iret (v := (-1)) hx hb hr (fun t ht hW => ⟨⟨(-1), (), rfl, (fun σ ok h => by unfold svR; exact (if_neg (fun w => by have a := w.1; have b := w.2; exact xpz6 t9 ⟨by omega, by omega⟩)).symm), ⟨I, J, ⟨hI, fr_I, kp0_11_I, dn_I, (fun σ A => cmA_fr hQ hLp0 hKp0 (fun _ _ => rfl) (fun _ _ => rfl) rfl A), dj_J⟩, by rw [ht]; exact hP⟩⟩, hS.F ht⟩) hS.2.2 dX7_sieve_13
