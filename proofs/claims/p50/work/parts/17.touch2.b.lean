abbrev cX6_count : ByteArray := prog_1_method_59_code
abbrev cX6_digest : ByteArray := prog_1_method_58_code
abbrev cX6_ray : ByteArray := prog_1_method_56_code
abbrev cX6_seen : ByteArray := prog_1_method_57_code
abbrev cX6_slope : ByteArray := prog_1_method_55_code
abbrev cX6_stopsInTick : ByteArray := prog_1_method_23_code
def yX6_count : MethodName := ⟨RX6, "count", "(I)I"⟩
def yX6_digest : MethodName := ⟨RX6, "digest", "()J"⟩
def yX6_ray : MethodName := ⟨RX6, "ray", "(IIII)I"⟩
def yX6_seen : MethodName := ⟨RX6, "seen", "(II)I"⟩
def yX6_slope : MethodName := ⟨RX6, "slope", "(III)I"⟩
def yX6_stopsInTick : MethodName := ⟨RX6, "stopsInTick", "(I)Z"⟩
theorem dX6_count_0 : decode cX6_count 0 = .ok (.iload_n 1, 1) := by decide +kernel
theorem dX6_count_1 : decode cX6_count 1 = .ok (.tableswitch 115 0 6 #[43, 51, 59, 67, 72, 77, 107], 43) := by decide +kernel
theorem dX6_count_44 : decode cX6_count 44 = .ok (.aload_n 0, 1) := by decide +kernel
theorem dX6_count_45 : decode cX6_count 45 = .ok (.getfield 20, 3) := by decide +kernel
theorem dX6_count_48 : decode cX6_count 48 = .ok (.getfield 367, 3) := by decide +kernel
theorem dX6_count_51 : decode cX6_count 51 = .ok (.ireturn, 1) := by decide +kernel
theorem dX6_count_52 : decode cX6_count 52 = .ok (.aload_n 0, 1) := by decide +kernel
theorem dX6_count_53 : decode cX6_count 53 = .ok (.getfield 20, 3) := by decide +kernel
theorem dX6_count_56 : decode cX6_count 56 = .ok (.getfield 83, 3) := by decide +kernel
theorem dX6_count_59 : decode cX6_count 59 = .ok (.ireturn, 1) := by decide +kernel
theorem dX6_count_60 : decode cX6_count 60 = .ok (.aload_n 0, 1) := by decide +kernel
theorem dX6_count_61 : decode cX6_count 61 = .ok (.getfield 20, 3) := by decide +kernel
theorem dX6_count_64 : decode cX6_count 64 = .ok (.invokevirtual 370, 3) := by decide +kernel
theorem dX6_count_67 : decode cX6_count 67 = .ok (.ireturn, 1) := by decide +kernel
theorem dX6_count_68 : decode cX6_count 68 = .ok (.aload_n 0, 1) := by decide +kernel
theorem dX6_count_69 : decode cX6_count 69 = .ok (.getfield 66, 3) := by decide +kernel
theorem dX6_count_72 : decode cX6_count 72 = .ok (.ireturn, 1) := by decide +kernel
theorem dX6_count_73 : decode cX6_count 73 = .ok (.aload_n 0, 1) := by decide +kernel
theorem dX6_count_74 : decode cX6_count 74 = .ok (.getfield 13, 3) := by decide +kernel
theorem dX6_count_77 : decode cX6_count 77 = .ok (.ireturn, 1) := by decide +kernel
theorem dX6_count_78 : decode cX6_count 78 = .ok (.aload_n 0, 1) := by decide +kernel
theorem dX6_count_79 : decode cX6_count 79 = .ok (.getfield 69, 3) := by decide +kernel
theorem dX6_count_82 : decode cX6_count 82 = .ok (.iconst 0, 1) := by decide +kernel
theorem dX6_count_83 : decode cX6_count 83 = .ok (.aaload, 1) := by decide +kernel
theorem dX6_count_84 : decode cX6_count 84 = .ok (.ifnull 7, 3) := by decide +kernel
theorem dX6_count_87 : decode cX6_count 87 = .ok (.iconst 1, 1) := by decide +kernel
theorem dX6_count_88 : decode cX6_count 88 = .ok (.goto 4, 3) := by decide +kernel
theorem dX6_count_91 : decode cX6_count 91 = .ok (.iconst 0, 1) := by decide +kernel
theorem dX6_count_92 : decode cX6_count 92 = .ok (.aload_n 0, 1) := by decide +kernel
theorem dX6_count_93 : decode cX6_count 93 = .ok (.getfield 69, 3) := by decide +kernel
theorem dX6_count_96 : decode cX6_count 96 = .ok (.iconst 1, 1) := by decide +kernel
theorem dX6_count_97 : decode cX6_count 97 = .ok (.aaload, 1) := by decide +kernel
theorem dX6_count_98 : decode cX6_count 98 = .ok (.ifnull 7, 3) := by decide +kernel
theorem dX6_count_101 : decode cX6_count 101 = .ok (.iconst 2, 1) := by decide +kernel
theorem dX6_count_102 : decode cX6_count 102 = .ok (.goto 4, 3) := by decide +kernel
theorem dX6_count_105 : decode cX6_count 105 = .ok (.iconst 0, 1) := by decide +kernel
theorem dX6_count_106 : decode cX6_count 106 = .ok (.iadd, 1) := by decide +kernel
theorem dX6_count_107 : decode cX6_count 107 = .ok (.ireturn, 1) := by decide +kernel
theorem dX6_count_108 : decode cX6_count 108 = .ok (.aload_n 0, 1) := by decide +kernel
theorem dX6_count_109 : decode cX6_count 109 = .ok (.getfield 20, 3) := by decide +kernel
theorem dX6_count_112 : decode cX6_count 112 = .ok (.getfield 235, 3) := by decide +kernel
theorem dX6_count_115 : decode cX6_count 115 = .ok (.ireturn, 1) := by decide +kernel
theorem dX6_count_116 : decode cX6_count 116 = .ok (.iconst (-1), 1) := by decide +kernel
theorem dX6_count_117 : decode cX6_count 117 = .ok (.ireturn, 1) := by decide +kernel
theorem dX6_digest_0 : decode cX6_digest 0 = .ok (.ldc2_w 363, 3) := by decide +kernel
theorem dX6_digest_3 : decode cX6_digest 3 = .ok (.lstore_n 1, 1) := by decide +kernel
theorem dX6_digest_4 : decode cX6_digest 4 = .ok (.iconst 0, 1) := by decide +kernel
theorem dX6_digest_5 : decode cX6_digest 5 = .ok (.istore_n 3, 1) := by decide +kernel
theorem dX6_digest_6 : decode cX6_digest 6 = .ok (.iload_n 3, 1) := by decide +kernel
theorem dX6_digest_7 : decode cX6_digest 7 = .ok (.aload_n 0, 1) := by decide +kernel
theorem dX6_digest_8 : decode cX6_digest 8 = .ok (.getfield 20, 3) := by decide +kernel
theorem dX6_digest_11 : decode cX6_digest 11 = .ok (.getfield 83, 3) := by decide +kernel
theorem dX6_digest_14 : decode cX6_digest 14 = .ok (.if_icmp .ge 47, 3) := by decide +kernel
theorem dX6_digest_17 : decode cX6_digest 17 = .ok (.iconst 0, 1) := by decide +kernel
theorem dX6_digest_18 : decode cX6_digest 18 = .ok (.istore 4, 2) := by decide +kernel
theorem dX6_digest_20 : decode cX6_digest 20 = .ok (.iload 4, 2) := by decide +kernel
theorem dX6_digest_22 : decode cX6_digest 22 = .ok (.bipush 7, 2) := by decide +kernel
theorem dX6_digest_24 : decode cX6_digest 24 = .ok (.if_icmp .gt 31, 3) := by decide +kernel
theorem dX6_digest_27 : decode cX6_digest 27 = .ok (.ldc2_w 365, 3) := by decide +kernel
theorem dX6_digest_30 : decode cX6_digest 30 = .ok (.lload_n 1, 1) := by decide +kernel
theorem dX6_digest_31 : decode cX6_digest 31 = .ok (.lmul, 1) := by decide +kernel
theorem dX6_digest_32 : decode cX6_digest 32 = .ok (.aload_n 0, 1) := by decide +kernel
theorem dX6_digest_33 : decode cX6_digest 33 = .ok (.getfield 20, 3) := by decide +kernel
theorem dX6_digest_36 : decode cX6_digest 36 = .ok (.getfield 94, 3) := by decide +kernel
theorem dX6_digest_39 : decode cX6_digest 39 = .ok (.iload_n 3, 1) := by decide +kernel
theorem dX6_digest_40 : decode cX6_digest 40 = .ok (.aaload, 1) := by decide +kernel
theorem dX6_digest_41 : decode cX6_digest 41 = .ok (.iload 4, 2) := by decide +kernel
theorem dX6_digest_43 : decode cX6_digest 43 = .ok (.invokevirtual 299, 3) := by decide +kernel
theorem dX6_digest_46 : decode cX6_digest 46 = .ok (.i2l, 1) := by decide +kernel
theorem dX6_digest_47 : decode cX6_digest 47 = .ok (.ladd, 1) := by decide +kernel
theorem dX6_digest_48 : decode cX6_digest 48 = .ok (.lstore_n 1, 1) := by decide +kernel
theorem dX6_digest_49 : decode cX6_digest 49 = .ok (.iinc 4 1, 3) := by decide +kernel
theorem dX6_digest_52 : decode cX6_digest 52 = .ok (.goto (-32), 3) := by decide +kernel
theorem dX6_digest_55 : decode cX6_digest 55 = .ok (.iinc 3 1, 3) := by decide +kernel
theorem dX6_digest_58 : decode cX6_digest 58 = .ok (.goto (-52), 3) := by decide +kernel
theorem dX6_digest_61 : decode cX6_digest 61 = .ok (.iconst 0, 1) := by decide +kernel
theorem dX6_digest_62 : decode cX6_digest 62 = .ok (.istore_n 3, 1) := by decide +kernel
theorem dX6_digest_63 : decode cX6_digest 63 = .ok (.iload_n 3, 1) := by decide +kernel
theorem dX6_digest_64 : decode cX6_digest 64 = .ok (.aload_n 0, 1) := by decide +kernel
theorem dX6_digest_65 : decode cX6_digest 65 = .ok (.getfield 20, 3) := by decide +kernel
theorem dX6_digest_68 : decode cX6_digest 68 = .ok (.getfield 367, 3) := by decide +kernel
theorem dX6_digest_71 : decode cX6_digest 71 = .ok (.if_icmp .ge 56, 3) := by decide +kernel
theorem dX6_digest_74 : decode cX6_digest 74 = .ok (.aload_n 0, 1) := by decide +kernel
theorem dX6_digest_75 : decode cX6_digest 75 = .ok (.getfield 20, 3) := by decide +kernel
theorem dX6_digest_78 : decode cX6_digest 78 = .ok (.getfield 133, 3) := by decide +kernel
theorem dX6_digest_81 : decode cX6_digest 81 = .ok (.iload_n 3, 1) := by decide +kernel
theorem dX6_digest_82 : decode cX6_digest 82 = .ok (.aaload, 1) := by decide +kernel
theorem dX6_digest_83 : decode cX6_digest 83 = .ok (.astore 4, 2) := by decide +kernel
theorem dX6_digest_85 : decode cX6_digest 85 = .ok (.iconst 0, 1) := by decide +kernel
theorem dX6_digest_86 : decode cX6_digest 86 = .ok (.istore 5, 2) := by decide +kernel
theorem dX6_digest_88 : decode cX6_digest 88 = .ok (.iload 5, 2) := by decide +kernel
theorem dX6_digest_90 : decode cX6_digest 90 = .ok (.iconst 2, 1) := by decide +kernel
theorem dX6_digest_91 : decode cX6_digest 91 = .ok (.aload 4, 2) := by decide +kernel
theorem dX6_digest_93 : decode cX6_digest 93 = .ok (.getfield 173, 3) := by decide +kernel
theorem dX6_digest_96 : decode cX6_digest 96 = .ok (.imul, 1) := by decide +kernel
theorem dX6_digest_97 : decode cX6_digest 97 = .ok (.if_icmp .ge 24, 3) := by decide +kernel
theorem dX6_digest_100 : decode cX6_digest 100 = .ok (.ldc2_w 365, 3) := by decide +kernel
theorem dX6_digest_103 : decode cX6_digest 103 = .ok (.lload_n 1, 1) := by decide +kernel
theorem dX6_digest_104 : decode cX6_digest 104 = .ok (.lmul, 1) := by decide +kernel
theorem dX6_digest_105 : decode cX6_digest 105 = .ok (.aload 4, 2) := by decide +kernel
theorem dX6_digest_107 : decode cX6_digest 107 = .ok (.getfield 251, 3) := by decide +kernel
theorem dX6_digest_110 : decode cX6_digest 110 = .ok (.iload 5, 2) := by decide +kernel
theorem dX6_digest_112 : decode cX6_digest 112 = .ok (.laload, 1) := by decide +kernel
theorem dX6_digest_113 : decode cX6_digest 113 = .ok (.ladd, 1) := by decide +kernel
theorem dX6_digest_114 : decode cX6_digest 114 = .ok (.lstore_n 1, 1) := by decide +kernel
theorem dX6_digest_115 : decode cX6_digest 115 = .ok (.iinc 5 1, 3) := by decide +kernel
theorem dX6_digest_118 : decode cX6_digest 118 = .ok (.goto (-30), 3) := by decide +kernel
theorem dX6_digest_121 : decode cX6_digest 121 = .ok (.iinc 3 1, 3) := by decide +kernel
theorem dX6_digest_124 : decode cX6_digest 124 = .ok (.goto (-61), 3) := by decide +kernel
theorem dX6_digest_127 : decode cX6_digest 127 = .ok (.lload_n 1, 1) := by decide +kernel
theorem dX6_digest_128 : decode cX6_digest 128 = .ok (.lreturn, 1) := by decide +kernel
theorem dX6_ray_0 : decode cX6_ray 0 = .ok (.iload_n 1, 1) := by decide +kernel
theorem dX6_ray_1 : decode cX6_ray 1 = .ok (.sipush 9999, 3) := by decide +kernel
theorem dX6_ray_4 : decode cX6_ray 4 = .ok (.invokestatic 90, 3) := by decide +kernel
theorem dX6_ray_7 : decode cX6_ray 7 = .ok (.ifCond .eq 34, 3) := by decide +kernel
theorem dX6_ray_10 : decode cX6_ray 10 = .ok (.iload_n 2, 1) := by decide +kernel
theorem dX6_ray_11 : decode cX6_ray 11 = .ok (.sipush 9999, 3) := by decide +kernel
theorem dX6_ray_14 : decode cX6_ray 14 = .ok (.invokestatic 90, 3) := by decide +kernel
theorem dX6_ray_17 : decode cX6_ray 17 = .ok (.ifCond .eq 24, 3) := by decide +kernel
theorem dX6_ray_20 : decode cX6_ray 20 = .ok (.iload_n 3, 1) := by decide +kernel
theorem dX6_ray_21 : decode cX6_ray 21 = .ok (.sipush 300, 3) := by decide +kernel
theorem dX6_ray_24 : decode cX6_ray 24 = .ok (.invokestatic 90, 3) := by decide +kernel
theorem dX6_ray_27 : decode cX6_ray 27 = .ok (.ifCond .eq 14, 3) := by decide +kernel
theorem dX6_ray_30 : decode cX6_ray 30 = .ok (.iload 4, 2) := by decide +kernel
theorem dX6_ray_32 : decode cX6_ray 32 = .ok (.sipush 300, 3) := by decide +kernel
theorem dX6_ray_35 : decode cX6_ray 35 = .ok (.invokestatic 90, 3) := by decide +kernel
theorem dX6_ray_38 : decode cX6_ray 38 = .ok (.ifCond .ne 5, 3) := by decide +kernel
theorem dX6_ray_41 : decode cX6_ray 41 = .ok (.iconst (-1), 1) := by decide +kernel
theorem dX6_ray_42 : decode cX6_ray 42 = .ok (.ireturn, 1) := by decide +kernel
theorem dX6_ray_43 : decode cX6_ray 43 = .ok (.iload_n 3, 1) := by decide +kernel
theorem dX6_ray_44 : decode cX6_ray 44 = .ok (.iload 4, 2) := by decide +kernel
theorem dX6_ray_46 : decode cX6_ray 46 = .ok (.invokestatic 214, 3) := by decide +kernel
theorem dX6_ray_49 : decode cX6_ray 49 = .ok (.istore 5, 2) := by decide +kernel
theorem dX6_ray_51 : decode cX6_ray 51 = .ok (.iconst 0, 1) := by decide +kernel
theorem dX6_ray_52 : decode cX6_ray 52 = .ok (.istore 6, 2) := by decide +kernel
theorem dX6_ray_54 : decode cX6_ray 54 = .ok (.iload 6, 2) := by decide +kernel
theorem dX6_ray_56 : decode cX6_ray 56 = .ok (.iload 5, 2) := by decide +kernel
theorem dX6_ray_58 : decode cX6_ray 58 = .ok (.if_icmp .gt 80, 3) := by decide +kernel
theorem dX6_ray_61 : decode cX6_ray 61 = .ok (.iload_n 1, 1) := by decide +kernel
theorem dX6_ray_62 : decode cX6_ray 62 = .ok (.iload 6, 2) := by decide +kernel
theorem dX6_ray_64 : decode cX6_ray 64 = .ok (.iload_n 3, 1) := by decide +kernel
theorem dX6_ray_65 : decode cX6_ray 65 = .ok (.iload 5, 2) := by decide +kernel
theorem dX6_ray_67 : decode cX6_ray 67 = .ok (.invokestatic 218, 3) := by decide +kernel
theorem dX6_ray_70 : decode cX6_ray 70 = .ok (.iadd, 1) := by decide +kernel
theorem dX6_ray_71 : decode cX6_ray 71 = .ok (.istore 7, 2) := by decide +kernel
theorem dX6_ray_73 : decode cX6_ray 73 = .ok (.iload_n 2, 1) := by decide +kernel
theorem dX6_ray_74 : decode cX6_ray 74 = .ok (.iload 6, 2) := by decide +kernel
theorem dX6_ray_76 : decode cX6_ray 76 = .ok (.iload 4, 2) := by decide +kernel
theorem dX6_ray_78 : decode cX6_ray 78 = .ok (.iload 5, 2) := by decide +kernel
theorem dX6_ray_80 : decode cX6_ray 80 = .ok (.invokestatic 218, 3) := by decide +kernel
theorem dX6_ray_83 : decode cX6_ray 83 = .ok (.iadd, 1) := by decide +kernel
theorem dX6_ray_84 : decode cX6_ray 84 = .ok (.istore 8, 2) := by decide +kernel
theorem dX6_ray_86 : decode cX6_ray 86 = .ok (.iconst 0, 1) := by decide +kernel
theorem dX6_ray_87 : decode cX6_ray 87 = .ok (.istore 9, 2) := by decide +kernel
theorem dX6_ray_89 : decode cX6_ray 89 = .ok (.iload 9, 2) := by decide +kernel
theorem dX6_ray_91 : decode cX6_ray 91 = .ok (.aload_n 0, 1) := by decide +kernel
theorem dX6_ray_92 : decode cX6_ray 92 = .ok (.getfield 20, 3) := by decide +kernel
theorem dX6_ray_95 : decode cX6_ray 95 = .ok (.getfield 83, 3) := by decide +kernel
theorem dX6_ray_98 : decode cX6_ray 98 = .ok (.if_icmp .ge 34, 3) := by decide +kernel
theorem dX6_ray_101 : decode cX6_ray 101 = .ok (.aload_n 0, 1) := by decide +kernel
theorem dX6_ray_102 : decode cX6_ray 102 = .ok (.getfield 41, 3) := by decide +kernel
theorem dX6_ray_105 : decode cX6_ray 105 = .ok (.iload 9, 2) := by decide +kernel
theorem dX6_ray_107 : decode cX6_ray 107 = .ok (.iload 7, 2) := by decide +kernel
theorem dX6_ray_109 : decode cX6_ray 109 = .ok (.iload 8, 2) := by decide +kernel
theorem dX6_ray_111 : decode cX6_ray 111 = .ok (.invokevirtual 331, 3) := by decide +kernel
theorem dX6_ray_114 : decode cX6_ray 114 = .ok (.ifCond .eq 12, 3) := by decide +kernel
theorem dX6_ray_117 : decode cX6_ray 117 = .ok (.bipush 100, 2) := by decide +kernel
theorem dX6_ray_119 : decode cX6_ray 119 = .ok (.iload 6, 2) := by decide +kernel
theorem dX6_ray_121 : decode cX6_ray 121 = .ok (.imul, 1) := by decide +kernel
theorem dX6_ray_122 : decode cX6_ray 122 = .ok (.iload 9, 2) := by decide +kernel
theorem dX6_ray_124 : decode cX6_ray 124 = .ok (.iadd, 1) := by decide +kernel
theorem dX6_ray_125 : decode cX6_ray 125 = .ok (.ireturn, 1) := by decide +kernel
theorem dX6_ray_126 : decode cX6_ray 126 = .ok (.iinc 9 1, 3) := by decide +kernel
theorem dX6_ray_129 : decode cX6_ray 129 = .ok (.goto (-40), 3) := by decide +kernel
theorem dX6_ray_132 : decode cX6_ray 132 = .ok (.iinc 6 1, 3) := by decide +kernel
theorem dX6_ray_135 : decode cX6_ray 135 = .ok (.goto (-81), 3) := by decide +kernel
theorem dX6_ray_138 : decode cX6_ray 138 = .ok (.bipush (-2), 2) := by decide +kernel
theorem dX6_ray_140 : decode cX6_ray 140 = .ok (.ireturn, 1) := by decide +kernel
theorem dX6_seen_0 : decode cX6_seen 0 = .ok (.aload_n 0, 1) := by decide +kernel
theorem dX6_seen_1 : decode cX6_seen 1 = .ok (.iload_n 1, 1) := by decide +kernel
theorem dX6_seen_2 : decode cX6_seen 2 = .ok (.iload_n 2, 1) := by decide +kernel
theorem dX6_seen_3 : decode cX6_seen 3 = .ok (.invokevirtual 303, 3) := by decide +kernel
theorem dX6_seen_6 : decode cX6_seen 6 = .ok (.ifCond .eq 25, 3) := by decide +kernel
theorem dX6_seen_9 : decode cX6_seen 9 = .ok (.aload_n 0, 1) := by decide +kernel
theorem dX6_seen_10 : decode cX6_seen 10 = .ok (.getfield 41, 3) := by decide +kernel
theorem dX6_seen_13 : decode cX6_seen 13 = .ok (.iload_n 1, 1) := by decide +kernel
theorem dX6_seen_14 : decode cX6_seen 14 = .ok (.invokevirtual 351, 3) := by decide +kernel
theorem dX6_seen_17 : decode cX6_seen 17 = .ok (.ifCond .eq 14, 3) := by decide +kernel
theorem dX6_seen_20 : decode cX6_seen 20 = .ok (.aload_n 0, 1) := by decide +kernel
theorem dX6_seen_21 : decode cX6_seen 21 = .ok (.getfield 41, 3) := by decide +kernel
theorem dX6_seen_24 : decode cX6_seen 24 = .ok (.iload_n 2, 1) := by decide +kernel
theorem dX6_seen_25 : decode cX6_seen 25 = .ok (.invokevirtual 351, 3) := by decide +kernel
theorem dX6_seen_28 : decode cX6_seen 28 = .ok (.ifCond .ne 5, 3) := by decide +kernel
theorem dX6_seen_31 : decode cX6_seen 31 = .ok (.iconst (-1), 1) := by decide +kernel
theorem dX6_seen_32 : decode cX6_seen 32 = .ok (.ireturn, 1) := by decide +kernel
theorem dX6_seen_33 : decode cX6_seen 33 = .ok (.aload_n 0, 1) := by decide +kernel
theorem dX6_seen_34 : decode cX6_seen 34 = .ok (.getfield 41, 3) := by decide +kernel
theorem dX6_seen_37 : decode cX6_seen 37 = .ok (.iload_n 1, 1) := by decide +kernel
theorem dX6_seen_38 : decode cX6_seen 38 = .ok (.invokevirtual 354, 3) := by decide +kernel
theorem dX6_seen_41 : decode cX6_seen 41 = .ok (.istore_n 3, 1) := by decide +kernel
theorem dX6_seen_42 : decode cX6_seen 42 = .ok (.aload_n 0, 1) := by decide +kernel
theorem dX6_seen_43 : decode cX6_seen 43 = .ok (.getfield 41, 3) := by decide +kernel
theorem dX6_seen_46 : decode cX6_seen 46 = .ok (.iload_n 1, 1) := by decide +kernel
theorem dX6_seen_47 : decode cX6_seen 47 = .ok (.invokevirtual 357, 3) := by decide +kernel
theorem dX6_seen_50 : decode cX6_seen 50 = .ok (.istore 4, 2) := by decide +kernel
theorem dX6_seen_52 : decode cX6_seen 52 = .ok (.aload_n 0, 1) := by decide +kernel
theorem dX6_seen_53 : decode cX6_seen 53 = .ok (.getfield 41, 3) := by decide +kernel
theorem dX6_seen_56 : decode cX6_seen 56 = .ok (.iload_n 2, 1) := by decide +kernel
theorem dX6_seen_57 : decode cX6_seen 57 = .ok (.invokevirtual 354, 3) := by decide +kernel
theorem dX6_seen_60 : decode cX6_seen 60 = .ok (.iload_n 3, 1) := by decide +kernel
theorem dX6_seen_61 : decode cX6_seen 61 = .ok (.isub, 1) := by decide +kernel
theorem dX6_seen_62 : decode cX6_seen 62 = .ok (.istore 5, 2) := by decide +kernel
theorem dX6_seen_64 : decode cX6_seen 64 = .ok (.aload_n 0, 1) := by decide +kernel
theorem dX6_seen_65 : decode cX6_seen 65 = .ok (.getfield 41, 3) := by decide +kernel
theorem dX6_seen_68 : decode cX6_seen 68 = .ok (.iload_n 2, 1) := by decide +kernel
theorem dX6_seen_69 : decode cX6_seen 69 = .ok (.invokevirtual 357, 3) := by decide +kernel
theorem dX6_seen_72 : decode cX6_seen 72 = .ok (.iload 4, 2) := by decide +kernel
theorem dX6_seen_74 : decode cX6_seen 74 = .ok (.isub, 1) := by decide +kernel
theorem dX6_seen_75 : decode cX6_seen 75 = .ok (.istore 6, 2) := by decide +kernel
theorem dX6_seen_77 : decode cX6_seen 77 = .ok (.iload 5, 2) := by decide +kernel
theorem dX6_seen_79 : decode cX6_seen 79 = .ok (.iload 6, 2) := by decide +kernel
theorem dX6_seen_81 : decode cX6_seen 81 = .ok (.invokestatic 214, 3) := by decide +kernel
theorem dX6_seen_84 : decode cX6_seen 84 = .ok (.istore 7, 2) := by decide +kernel
theorem dX6_seen_86 : decode cX6_seen 86 = .ok (.iconst 0, 1) := by decide +kernel
theorem dX6_seen_87 : decode cX6_seen 87 = .ok (.istore 8, 2) := by decide +kernel
theorem dX6_seen_89 : decode cX6_seen 89 = .ok (.iconst 0, 1) := by decide +kernel
theorem dX6_seen_90 : decode cX6_seen 90 = .ok (.istore 9, 2) := by decide +kernel
theorem dX6_seen_92 : decode cX6_seen 92 = .ok (.iload 9, 2) := by decide +kernel
theorem dX6_seen_94 : decode cX6_seen 94 = .ok (.iload 7, 2) := by decide +kernel
theorem dX6_seen_96 : decode cX6_seen 96 = .ok (.if_icmp .gt 47, 3) := by decide +kernel
theorem dX6_seen_99 : decode cX6_seen 99 = .ok (.aload_n 0, 1) := by decide +kernel
theorem dX6_seen_100 : decode cX6_seen 100 = .ok (.getfield 41, 3) := by decide +kernel
theorem dX6_seen_103 : decode cX6_seen 103 = .ok (.iload_n 1, 1) := by decide +kernel
theorem dX6_seen_104 : decode cX6_seen 104 = .ok (.iload_n 2, 1) := by decide +kernel
theorem dX6_seen_105 : decode cX6_seen 105 = .ok (.iload_n 3, 1) := by decide +kernel
theorem dX6_seen_106 : decode cX6_seen 106 = .ok (.iload 9, 2) := by decide +kernel
theorem dX6_seen_108 : decode cX6_seen 108 = .ok (.iload 5, 2) := by decide +kernel
theorem dX6_seen_110 : decode cX6_seen 110 = .ok (.iload 7, 2) := by decide +kernel
theorem dX6_seen_112 : decode cX6_seen 112 = .ok (.invokestatic 218, 3) := by decide +kernel
theorem dX6_seen_115 : decode cX6_seen 115 = .ok (.iadd, 1) := by decide +kernel
theorem dX6_seen_116 : decode cX6_seen 116 = .ok (.iload 4, 2) := by decide +kernel
theorem dX6_seen_118 : decode cX6_seen 118 = .ok (.iload 9, 2) := by decide +kernel
theorem dX6_seen_120 : decode cX6_seen 120 = .ok (.iload 6, 2) := by decide +kernel
theorem dX6_seen_122 : decode cX6_seen 122 = .ok (.iload 7, 2) := by decide +kernel
theorem dX6_seen_124 : decode cX6_seen 124 = .ok (.invokestatic 218, 3) := by decide +kernel
theorem dX6_seen_127 : decode cX6_seen 127 = .ok (.iadd, 1) := by decide +kernel
theorem dX6_seen_128 : decode cX6_seen 128 = .ok (.invokevirtual 360, 3) := by decide +kernel
theorem dX6_seen_131 : decode cX6_seen 131 = .ok (.ifCond .eq 6, 3) := by decide +kernel
theorem dX6_seen_134 : decode cX6_seen 134 = .ok (.iinc 8 1, 3) := by decide +kernel
theorem dX6_seen_137 : decode cX6_seen 137 = .ok (.iinc 9 1, 3) := by decide +kernel
theorem dX6_seen_140 : decode cX6_seen 140 = .ok (.goto (-48), 3) := by decide +kernel
theorem dX6_seen_143 : decode cX6_seen 143 = .ok (.iload 8, 2) := by decide +kernel
theorem dX6_seen_145 : decode cX6_seen 145 = .ok (.ireturn, 1) := by decide +kernel
theorem dX6_slope_0 : decode cX6_slope 0 = .ok (.aload_n 0, 1) := by decide +kernel
theorem dX6_slope_1 : decode cX6_slope 1 = .ok (.iload_n 1, 1) := by decide +kernel
theorem dX6_slope_2 : decode cX6_slope 2 = .ok (.iload_n 2, 1) := by decide +kernel
theorem dX6_slope_3 : decode cX6_slope 3 = .ok (.invokevirtual 303, 3) := by decide +kernel
theorem dX6_slope_6 : decode cX6_slope 6 = .ok (.ifCond .eq 11, 3) := by decide +kernel
theorem dX6_slope_9 : decode cX6_slope 9 = .ok (.iload_n 3, 1) := by decide +kernel
theorem dX6_slope_10 : decode cX6_slope 10 = .ok (.iconst 1, 1) := by decide +kernel
theorem dX6_slope_11 : decode cX6_slope 11 = .ok (.invokestatic 109, 3) := by decide +kernel
theorem dX6_slope_14 : decode cX6_slope 14 = .ok (.ifCond .ne 7, 3) := by decide +kernel
theorem dX6_slope_17 : decode cX6_slope 17 = .ok (.ldc_w 350, 3) := by decide +kernel
theorem dX6_slope_20 : decode cX6_slope 20 = .ok (.ireturn, 1) := by decide +kernel
theorem dX6_slope_21 : decode cX6_slope 21 = .ok (.iload_n 3, 1) := by decide +kernel
theorem dX6_slope_22 : decode cX6_slope 22 = .ok (.ifCond .ne 7, 3) := by decide +kernel
theorem dX6_slope_25 : decode cX6_slope 25 = .ok (.iconst 1, 1) := by decide +kernel
theorem dX6_slope_26 : decode cX6_slope 26 = .ok (.goto 4, 3) := by decide +kernel
theorem dX6_slope_29 : decode cX6_slope 29 = .ok (.iconst 0, 1) := by decide +kernel
theorem dX6_slope_30 : decode cX6_slope 30 = .ok (.istore 4, 2) := by decide +kernel
theorem dX6_slope_32 : decode cX6_slope 32 = .ok (.iload_n 3, 1) := by decide +kernel
theorem dX6_slope_33 : decode cX6_slope 33 = .ok (.iconst 1, 1) := by decide +kernel
theorem dX6_slope_34 : decode cX6_slope 34 = .ok (.if_icmp .ne 7, 3) := by decide +kernel
theorem dX6_slope_37 : decode cX6_slope 37 = .ok (.iconst 1, 1) := by decide +kernel
theorem dX6_slope_38 : decode cX6_slope 38 = .ok (.goto 4, 3) := by decide +kernel
theorem dX6_slope_41 : decode cX6_slope 41 = .ok (.iconst 0, 1) := by decide +kernel
theorem dX6_slope_42 : decode cX6_slope 42 = .ok (.istore 5, 2) := by decide +kernel
theorem dX6_slope_44 : decode cX6_slope 44 = .ok (.aload_n 0, 1) := by decide +kernel
theorem dX6_slope_45 : decode cX6_slope 45 = .ok (.getfield 41, 3) := by decide +kernel
theorem dX6_slope_48 : decode cX6_slope 48 = .ok (.iload_n 1, 1) := by decide +kernel
theorem dX6_slope_49 : decode cX6_slope 49 = .ok (.iload_n 2, 1) := by decide +kernel
theorem dX6_slope_50 : decode cX6_slope 50 = .ok (.iload 4, 2) := by decide +kernel
theorem dX6_slope_52 : decode cX6_slope 52 = .ok (.iload 5, 2) := by decide +kernel
theorem dX6_slope_54 : decode cX6_slope 54 = .ok (.invokevirtual 306, 3) := by decide +kernel
theorem dX6_slope_57 : decode cX6_slope 57 = .ok (.aload_n 0, 1) := by decide +kernel
theorem dX6_slope_58 : decode cX6_slope 58 = .ok (.getfield 41, 3) := by decide +kernel
theorem dX6_slope_61 : decode cX6_slope 61 = .ok (.iload_n 1, 1) := by decide +kernel
theorem dX6_slope_62 : decode cX6_slope 62 = .ok (.iload_n 2, 1) := by decide +kernel
theorem dX6_slope_63 : decode cX6_slope 63 = .ok (.iload 4, 2) := by decide +kernel
theorem dX6_slope_65 : decode cX6_slope 65 = .ok (.ineg, 1) := by decide +kernel
theorem dX6_slope_66 : decode cX6_slope 66 = .ok (.iload 5, 2) := by decide +kernel
theorem dX6_slope_68 : decode cX6_slope 68 = .ok (.ineg, 1) := by decide +kernel
theorem dX6_slope_69 : decode cX6_slope 69 = .ok (.invokevirtual 306, 3) := by decide +kernel
theorem dX6_slope_72 : decode cX6_slope 72 = .ok (.isub, 1) := by decide +kernel
theorem dX6_slope_73 : decode cX6_slope 73 = .ok (.ireturn, 1) := by decide +kernel
theorem dX6_stopsInTick_0 : decode cX6_stopsInTick 0 = .ok (.aload_n 0, 1) := by decide +kernel
theorem dX6_stopsInTick_1 : decode cX6_stopsInTick 1 = .ok (.getfield 20, 3) := by decide +kernel
theorem dX6_stopsInTick_4 : decode cX6_stopsInTick 4 = .ok (.getfield 94, 3) := by decide +kernel
theorem dX6_stopsInTick_7 : decode cX6_stopsInTick 7 = .ok (.iload_n 1, 1) := by decide +kernel
theorem dX6_stopsInTick_8 : decode cX6_stopsInTick 8 = .ok (.aaload, 1) := by decide +kernel
theorem dX6_stopsInTick_9 : decode cX6_stopsInTick 9 = .ok (.astore_n 2, 1) := by decide +kernel
theorem dX6_stopsInTick_10 : decode cX6_stopsInTick 10 = .ok (.aload_n 0, 1) := by decide +kernel
theorem dX6_stopsInTick_11 : decode cX6_stopsInTick 11 = .ok (.getfield 41, 3) := by decide +kernel
theorem dX6_stopsInTick_14 : decode cX6_stopsInTick 14 = .ok (.iload_n 1, 1) := by decide +kernel
theorem dX6_stopsInTick_15 : decode cX6_stopsInTick 15 = .ok (.aload_n 2, 1) := by decide +kernel
theorem dX6_stopsInTick_16 : decode cX6_stopsInTick 16 = .ok (.getfield 124, 3) := by decide +kernel
theorem dX6_stopsInTick_19 : decode cX6_stopsInTick 19 = .ok (.aload_n 2, 1) := by decide +kernel
theorem dX6_stopsInTick_20 : decode cX6_stopsInTick 20 = .ok (.getfield 127, 3) := by decide +kernel
theorem dX6_stopsInTick_23 : decode cX6_stopsInTick 23 = .ok (.invokevirtual 204, 3) := by decide +kernel
theorem dX6_stopsInTick_26 : decode cX6_stopsInTick 26 = .ok (.aload_n 0, 1) := by decide +kernel
theorem dX6_stopsInTick_27 : decode cX6_stopsInTick 27 = .ok (.getfield 41, 3) := by decide +kernel
theorem dX6_stopsInTick_30 : decode cX6_stopsInTick 30 = .ok (.iload_n 1, 1) := by decide +kernel
theorem dX6_stopsInTick_31 : decode cX6_stopsInTick 31 = .ok (.invokevirtual 211, 3) := by decide +kernel
theorem dX6_stopsInTick_34 : decode cX6_stopsInTick 34 = .ok (.aload_n 0, 1) := by decide +kernel
theorem dX6_stopsInTick_35 : decode cX6_stopsInTick 35 = .ok (.getfield 41, 3) := by decide +kernel
theorem dX6_stopsInTick_38 : decode cX6_stopsInTick 38 = .ok (.getfield 208, 3) := by decide +kernel
theorem dX6_stopsInTick_41 : decode cX6_stopsInTick 41 = .ok (.aload_n 2, 1) := by decide +kernel
theorem dX6_stopsInTick_42 : decode cX6_stopsInTick 42 = .ok (.getfield 124, 3) := by decide +kernel
theorem dX6_stopsInTick_45 : decode cX6_stopsInTick 45 = .ok (.aload_n 2, 1) := by decide +kernel
theorem dX6_stopsInTick_46 : decode cX6_stopsInTick 46 = .ok (.getfield 127, 3) := by decide +kernel
theorem dX6_stopsInTick_49 : decode cX6_stopsInTick 49 = .ok (.invokestatic 214, 3) := by decide +kernel
theorem dX6_stopsInTick_52 : decode cX6_stopsInTick 52 = .ok (.if_icmp .lt 5, 3) := by decide +kernel
theorem dX6_stopsInTick_55 : decode cX6_stopsInTick 55 = .ok (.iconst 0, 1) := by decide +kernel
theorem dX6_stopsInTick_56 : decode cX6_stopsInTick 56 = .ok (.ireturn, 1) := by decide +kernel
theorem dX6_stopsInTick_57 : decode cX6_stopsInTick 57 = .ok (.aload_n 2, 1) := by decide +kernel
theorem dX6_stopsInTick_58 : decode cX6_stopsInTick 58 = .ok (.aload_n 2, 1) := by decide +kernel
theorem dX6_stopsInTick_59 : decode cX6_stopsInTick 59 = .ok (.getfield 124, 3) := by decide +kernel
theorem dX6_stopsInTick_62 : decode cX6_stopsInTick 62 = .ok (.ineg, 1) := by decide +kernel
theorem dX6_stopsInTick_63 : decode cX6_stopsInTick 63 = .ok (.putfield 124, 3) := by decide +kernel
theorem dX6_stopsInTick_66 : decode cX6_stopsInTick 66 = .ok (.aload_n 2, 1) := by decide +kernel
theorem dX6_stopsInTick_67 : decode cX6_stopsInTick 67 = .ok (.aload_n 2, 1) := by decide +kernel
theorem dX6_stopsInTick_68 : decode cX6_stopsInTick 68 = .ok (.getfield 127, 3) := by decide +kernel
theorem dX6_stopsInTick_71 : decode cX6_stopsInTick 71 = .ok (.ineg, 1) := by decide +kernel
theorem dX6_stopsInTick_72 : decode cX6_stopsInTick 72 = .ok (.putfield 127, 3) := by decide +kernel
theorem dX6_stopsInTick_75 : decode cX6_stopsInTick 75 = .ok (.iconst 1, 1) := by decide +kernel
theorem dX6_stopsInTick_76 : decode cX6_stopsInTick 76 = .ok (.ireturn, 1) := by decide +kernel
set_option maxRecDepth 100000 in
theorem pq229 : Cond.fieldLink RX6 235 "MaskTouch$Field" "tickCount" "I" ∈ pw := pw_mem (i := 229) (by decide +kernel) rfl
set_option maxRecDepth 100000 in
theorem pq350 : Cond.fieldLink RX6 13 "MaskTouch" "taped" "I" ∈ pw := pw_mem (i := 350) (by decide +kernel) rfl
set_option maxRecDepth 100000 in
theorem pq789 : Cond.methodLink RX6 211 yX5_finishGlide ∈ pw := pw_mem (i := 789) (by decide +kernel) rfl
set_option maxRecDepth 100000 in
theorem pq790 : Cond.instanceMethod yX5_finishGlide ∈ pw := pw_mem (i := 790) (by decide +kernel) rfl
set_option maxRecDepth 100000 in
theorem pq791 : Cond.selects RX5 yX5_finishGlide yX5_finishGlide ∈ pw := pw_mem (i := 791) (by decide +kernel) rfl
set_option maxRecDepth 100000 in
theorem pq792 : Cond.code yX5_finishGlide cX5_finishGlide 2 none ∈ pw := pw_mem (i := 792) (by rfl) rfl
set_option maxRecDepth 100000 in
theorem pq797 : Cond.methodLink RX6 214 yX6_wayLength ∈ pw := pw_mem (i := 797) (by decide +kernel) rfl
set_option maxRecDepth 100000 in
theorem pq798 : Cond.methodLink RX6 218 yX6_wayPart ∈ pw := pw_mem (i := 798) (by decide +kernel) rfl
set_option maxRecDepth 100000 in
theorem pq1068 : Cond.constant RX6 350 (-2000000) ∈ pw := pw_mem (i := 1068) (by decide +kernel) rfl
set_option maxRecDepth 100000 in
theorem pq1077 : Cond.methodLink RX6 351 yX5_hasDots ∈ pw := pw_mem (i := 1077) (by decide +kernel) rfl
set_option maxRecDepth 100000 in
theorem pq1078 : Cond.instanceMethod yX5_hasDots ∈ pw := pw_mem (i := 1078) (by decide +kernel) rfl
set_option maxRecDepth 100000 in
theorem pq1079 : Cond.selects RX5 yX5_hasDots yX5_hasDots ∈ pw := pw_mem (i := 1079) (by decide +kernel) rfl
set_option maxRecDepth 100000 in
theorem pq1080 : Cond.code yX5_hasDots cX5_hasDots 2 (some .boolean) ∈ pw := pw_mem (i := 1080) (by rfl) rfl
set_option maxRecDepth 100000 in
theorem pq1081 : Cond.methodLink RX6 354 yX5_middleX ∈ pw := pw_mem (i := 1081) (by decide +kernel) rfl
set_option maxRecDepth 100000 in
theorem pq1082 : Cond.instanceMethod yX5_middleX ∈ pw := pw_mem (i := 1082) (by decide +kernel) rfl
set_option maxRecDepth 100000 in
theorem pq1083 : Cond.selects RX5 yX5_middleX yX5_middleX ∈ pw := pw_mem (i := 1083) (by decide +kernel) rfl
set_option maxRecDepth 100000 in
theorem pq1084 : Cond.code yX5_middleX cX5_middleX 3 (some .int) ∈ pw := pw_mem (i := 1084) (by rfl) rfl
set_option maxRecDepth 100000 in
theorem pq1086 : Cond.methodLink RX6 357 yX5_middleY ∈ pw := pw_mem (i := 1086) (by decide +kernel) rfl
set_option maxRecDepth 100000 in
theorem pq1087 : Cond.instanceMethod yX5_middleY ∈ pw := pw_mem (i := 1087) (by decide +kernel) rfl
set_option maxRecDepth 100000 in
theorem pq1088 : Cond.selects RX5 yX5_middleY yX5_middleY ∈ pw := pw_mem (i := 1088) (by decide +kernel) rfl
set_option maxRecDepth 100000 in
theorem pq1089 : Cond.code yX5_middleY cX5_middleY 3 (some .int) ∈ pw := pw_mem (i := 1089) (by rfl) rfl
set_option maxRecDepth 100000 in
theorem pq1090 : Cond.methodLink RX6 360 yX5_thirdCovers ∈ pw := pw_mem (i := 1090) (by decide +kernel) rfl
set_option maxRecDepth 100000 in
theorem pq1091 : Cond.instanceMethod yX5_thirdCovers ∈ pw := pw_mem (i := 1091) (by decide +kernel) rfl
set_option maxRecDepth 100000 in
theorem pq1092 : Cond.selects RX5 yX5_thirdCovers yX5_thirdCovers ∈ pw := pw_mem (i := 1092) (by decide +kernel) rfl
set_option maxRecDepth 100000 in
theorem pq1093 : Cond.code yX5_thirdCovers cX5_thirdCovers 6 (some .boolean) ∈ pw := pw_mem (i := 1093) (by rfl) rfl
set_option maxRecDepth 100000 in
theorem pq1099 : Cond.constantLong RX6 363 (17) ∈ pw := pw_mem (i := 1099) (by decide +kernel) rfl
set_option maxRecDepth 100000 in
theorem pq1100 : Cond.constantLong RX6 365 (31) ∈ pw := pw_mem (i := 1100) (by decide +kernel) rfl
set_option maxRecDepth 100000 in
theorem pq1105 : Cond.methodLink RX6 370 yX1_dotsOfAll ∈ pw := pw_mem (i := 1105) (by decide +kernel) rfl
set_option maxRecDepth 100000 in
theorem pq1106 : Cond.instanceMethod yX1_dotsOfAll ∈ pw := pw_mem (i := 1106) (by decide +kernel) rfl
set_option maxRecDepth 100000 in
theorem pq1107 : Cond.selects RX1 yX1_dotsOfAll yX1_dotsOfAll ∈ pw := pw_mem (i := 1107) (by decide +kernel) rfl
set_option maxRecDepth 100000 in
theorem pq1108 : Cond.code yX1_dotsOfAll cX1_dotsOfAll 3 (some .int) ∈ pw := pw_mem (i := 1108) (by rfl) rfl
set_option maxHeartbeats 4000000 in
set_option maxRecDepth 100000 in
theorem s_X6_slope (l : Launch) (dC : Nat → ClassId) (dI : Nat → Nat → Nat) (cs : Nat → ClassId) (L : List Nat) (K G : Nat → Nat) (Q : Nat → Nat → Option Nat) (hQ : Sv L K G Q) (x0 m0 : Nat) (tx : GT) (tm : GT × Int) (sz : Nat) (I : Nat → Nat → Int32) (J : Nat → Nat → Int64) (hI : Iv L K x0 m0 tx tm I) (p0 : Nat) (hLp0 : p0 ∈ L) (hKp0 : K p0 = 6) (p1 : Int32) (p2 : Int32) (p3 : Int32) : Met l yX6_slope (.code yX6_slope cX6_slope 6 (some .int) :: pw) ({ frames := 3, cells := 0, slots := 0, locals := 83 }) (sP (dC, dI) cs [.ref p0, .int p1, .int p2, .int p3] sz L K I J Q) (va_Qi (fun (r : Int32) (_ : Unit) => (∀ σ : Sx, cxA Q I J p0 σ → r.toInt = sloR σ p1 p2 p3)) (fun _ _ => True) (fun _ => False)) 0 0 (fun _ => False) := by
  refine Met.ofW (cc := cX6_slope) (maxL := 6) (ret := (some .int)) (by decide +kernel) rfl ?_
  intro p e s m args below meth c s₁ B hml hv
  obtain ⟨rfl, hsz, hP, hK, hD0, hN⟩ := hv
  have hx := B.exec
  have hb := B.bytes
  have hr := B.returns
  have hts := fun w (h : w ∈ pw) => atoms_spec (ws := Cond.code yX6_slope cX6_slope 6 (some .int) :: pw) B.pre w (List.mem_cons_of_mem _ h)
  have hown : s.vm.findClass RX6 = some m.cls := findClass_of_methodNamed B.named
  have hlocks := B.notSynchronized
  subst hsz
  have hBB : 999 ≤ tm.2 ∧ tm.2 ≤ 6000000 := hI.2.2.2.2.1
  have hD := hD0
  obtain ⟨H, hHe⟩ : ∃ H : Heap, H = s.heap := ⟨_, rfl⟩
  have hS : va_S (fun _ => False) s.heap H [] := by rw [hHe]; exact va_S.rf
  rw [← hHe] at hP
  have hl := lv_entry ([.ref p0, .int p1, .int p2, .int p3]) (n := 6) (Nat.le_of_ble_eq_true rfl)
  rw [lg_entry_eq]
  generalize (lg_sl ([.ref p0, .int p1, .int p2, .int p3]) ++ List.replicate (6 - (lg_sl ([.ref p0, .int p1, .int p2, .int p3])).length) Slot.unset).toArray = ls at hl ⊢
  have hl : lv_has ls 6 [(0, .ref p0), (1, .int p1), (2, .int p2), (3, .int p3)] := hl
  rw [← hHe]
  refine namedW (fun R Qz hR hQz => ?_)
  refine lv_aload_n hx hb dX6_slope_0 rfl (lv_at hl 0 rfl) ?_
  refine lv_iload_n hx hb dX6_slope_1 rfl (lv_at hl 1 rfl) ?_
  refine lv_iload_n hx hb dX6_slope_2 rfl (lv_at hl 2 rfl) ?_
  refine ro_i (va_runV (As := [.int p1, .int p2]) (rest := []) ⟨hx, hb, hml, hown, hts⟩ (s_X6_areTwoBodies l dC dI cs L K G Q hQ x0 m0 tx tm H.size I J hI p0 hLp0 hKp0 p1 p2) (cwV 2 hts (gV pq970 pq972 pq7 pq74 pq973) rfl rfl rfl (by decide +kernel) ⟨(by rw [hR]; exact (Nat.le_of_ble_eq_true rfl)), (by rw [hR]; exact (Nat.le_of_ble_eq_true rfl))⟩) (sP_V hP hD hK hN hLp0 hKp0 rfl rfl) rfl rfl hl.1 rfl (lv_room (Nat.le_of_ble_eq_true rfl)) dX6_slope_3 ⟨(by rw [hR]; exact (Nat.le_of_ble_eq_true rfl)), (by rw [hR]; exact (Nat.le_of_ble_eq_true rfl))⟩) hS hP (fun z3 H locs hz3 hP hS => ?_)
  obtain ⟨bz3, imz3, xpz3⟩ := hz3
  refine lv_if_eq (tgt := 17) hx hb dX6_slope_6 (by decide) (fun c6 => ?_) (fun c6 => ?_)
  · have t6 := tq_eq (k := z3.toInt) (q := (0)) c6 rfl (by decide +kernel)
    refine lv_ldcw hx hb hown (hts _ pq1068) dX6_slope_17 ?_
    subst hR; subst hQz
    exact W.iret (v := (-2000000)) hx hb hr (fun t ht hW => ⟨⟨(-2000000), (), rfl, (fun σ h => by have e := cx_1 h; rw [slo_n (fun w => by first | (have t := w.1; unfold twV at t; rw [← e] at t; exact (xpz3.mpr t) t6) | exact xpz11 t14 w.2)]; decide +kernel), trivial⟩, hS.F ht⟩) hS.2.2 dX6_slope_20
  · have t6 := tq_ne (k := z3.toInt) (q := (0)) c6 rfl (by decide +kernel)
    have i6 := imz3 t6
    refine lv_iload_n hx hb dX6_slope_9 rfl (lv_at hl 3 rfl) ?_
    refine lv_iconst (v := 1) hx hb dX6_slope_10 (by decide +kernel) ?_
    refine ro_i (va_runS (As := [.int p3, .int 1]) (rest := []) ⟨hx, hb, hml, hown, hts⟩ (s_X6_isFrom0To l dC dI cs L K G Q hQ x0 m0 tx tm H.size I J hI p3 1) (va_cwS 2 hts (gS pq651 pq652 pq74 pq653) rfl rfl rfl (by decide +kernel) ⟨(by rw [hR]; exact (Nat.le_of_ble_eq_true rfl)), (by rw [hR]; exact (Nat.le_of_ble_eq_true rfl))⟩) (sP_S hP hD hK hN) rfl rfl hl.1 rfl (lv_room (Nat.le_of_ble_eq_true rfl)) dX6_slope_11 ⟨(by rw [hR]; exact (Nat.le_of_ble_eq_true rfl)), (by rw [hR]; exact (Nat.le_of_ble_eq_true rfl))⟩) hS hP (fun z11 H locs hz11 hP hS => ?_)
    have cst11_1 : (1 : Int32).toInt = 1 := by decide +kernel
    obtain ⟨bz11, imz11, xpz11⟩ := hz11
    try rw [cst11_1] at xpz11
    refine lv_if_ne (tgt := 21) hx hb dX6_slope_14 (by decide) (fun c14 => ?_) (fun c14 => ?_)
    · have t14 := tq_ne (k := z11.toInt) (q := (0)) c14 rfl (by decide +kernel)
      have i14 := imz11 t14
      refine lv_iload_n hx hb dX6_slope_21 rfl (lv_at hl 3 rfl) ?_
      have j30 : ∀ (w30_0 : Int32) (H : Heap) (lo : List Loc) (ls : Array Slot), ((0) ≤ w30_0.toInt ∧ w30_0.toInt ≤ 1) → (w30_0.toInt = if p3.toInt = 0 then 1 else 0) → va_P (dC, dI) vwCl (Wd cs L K I J Q) H → va_S (fun _ => False) s.heap H lo → lv_has ls 6 [(0, .ref p0), (1, .int p1), (2, .int p2), (3, .int p3)] → W p l e R s m (([.ref p0, .int p1, .int p2, .int p3] : List Value).toArray) below meth c H lo 0 0 Qz (F0 m 30 ls [.int w30_0]) := by
        intro w30_0 H lo ls bw30_0 g30 hP hS hl
        refine lv_istore (lv' := [(4, .int w30_0), (0, .ref p0), (1, .int p1), (2, .int p2), (3, .int p3)]) hx hb dX6_slope_30 hl (by decide) rfl (fun ls hl => ?_)
        refine lv_iload_n hx hb dX6_slope_32 rfl (lv_at hl 4 rfl) ?_
        refine lv_iconst (v := 1) hx hb dX6_slope_33 (by decide +kernel) ?_
        have j42 : ∀ (w42_0 : Int32) (H : Heap) (lo : List Loc) (ls : Array Slot), ((0) ≤ w42_0.toInt ∧ w42_0.toInt ≤ 1) → (w42_0.toInt = if p3.toInt = 1 then 1 else 0) → va_P (dC, dI) vwCl (Wd cs L K I J Q) H → va_S (fun _ => False) s.heap H lo → lv_has ls 6 [(0, .ref p0), (1, .int p1), (2, .int p2), (3, .int p3), (4, .int w30_0)] → W p l e R s m (([.ref p0, .int p1, .int p2, .int p3] : List Value).toArray) below meth c H lo 0 0 Qz (F0 m 42 ls [.int w42_0]) := by
          intro w42_0 H lo ls bw42_0 g42 hP hS hl
          refine lv_istore (lv' := [(5, .int w42_0), (0, .ref p0), (1, .int p1), (2, .int p2), (3, .int p3), (4, .int w30_0)]) hx hb dX6_slope_42 hl (by decide) rfl (fun ls hl => ?_)
          refine lv_aload_n hx hb dX6_slope_44 rfl (lv_at hl 1 rfl) ?_
          obtain ⟨y45, ey45, hLy45, hKy45, hGy45⟩ := oQ_6_5 (Sv_at hQ hLp0 hKp0)
          refine p_get (v := .ref y45) hx hb hts inX6 hown hK hP hLp0 hKp0 rfl rfl 5 (by decide) (hts _ pq354) (congrArg (fun q => some (va_rf q)) ey45) dX6_slope_45 ?_
          refine lv_iload_n hx hb dX6_slope_48 rfl (lv_at hl 2 rfl) ?_
          refine lv_iload_n hx hb dX6_slope_49 rfl (lv_at hl 3 rfl) ?_
          refine lv_iload hx hb dX6_slope_50 (lv_at hl 5 rfl) ?_
          refine lv_iload hx hb dX6_slope_52 (lv_at hl 0 rfl) ?_
          refine ro_i (va_runV (As := [.int p1, .int p2, .int w30_0, .int w42_0]) (rest := []) ⟨hx, hb, hml, hown, hts⟩ (s_X5_sharedIfMoved l dC dI cs L K G Q hQ x0 m0 tx tm H.size I J hI y45 hLy45 hKy45 p1 ⟨by omega, by omega⟩ p2 ⟨by omega, by omega⟩ w30_0 w42_0) (cwV 4 hts (gV pq974 pq975 pq976 pq79 pq977) rfl rfl rfl (by decide +kernel) ⟨(by rw [hR]; exact (Nat.le_of_ble_eq_true rfl)), (by rw [hR]; exact (Nat.le_of_ble_eq_true rfl))⟩) (sP_V hP hD hK hN hLy45 hKy45 rfl rfl) rfl rfl hl.1 rfl (lv_room (Nat.le_of_ble_eq_true rfl)) dX6_slope_54 ⟨(by rw [hR]; exact (Nat.le_of_ble_eq_true rfl)), (by rw [hR]; exact (Nat.le_of_ble_eq_true rfl))⟩) hS hP (fun z54 H locs hz54 hP hS => ?_)
          have xpz54 := hz54
          refine lv_aload_n hx hb dX6_slope_57 rfl (lv_at hl 1 rfl) ?_
          refine p_get (v := .ref y45) hx hb hts inX6 hown hK hP hLp0 hKp0 rfl rfl 5 (by decide) (hts _ pq354) (congrArg (fun q => some (va_rf q)) ey45) dX6_slope_58 ?_
          refine lv_iload_n hx hb dX6_slope_61 rfl (lv_at hl 2 rfl) ?_
          refine lv_iload_n hx hb dX6_slope_62 rfl (lv_at hl 3 rfl) ?_
          refine lv_iload hx hb dX6_slope_63 (lv_at hl 5 rfl) ?_
          refine lv_ineg hx hb dX6_slope_65 ?_
          refine lv_topi (fun z65 ez65 => ?_)
          have bz65 := tq_neg (k := w30_0.toInt) ez65 rfl (by omega) (by omega)
          refine lv_iload hx hb dX6_slope_66 (lv_at hl 0 rfl) ?_
          refine lv_ineg hx hb dX6_slope_68 ?_
          refine lv_topi (fun z68 ez68 => ?_)
          have bz68 := tq_neg (k := w42_0.toInt) ez68 rfl (by omega) (by omega)
          refine ro_i (va_runV (As := [.int p1, .int p2, .int z65, .int z68]) (rest := [.int z54]) ⟨hx, hb, hml, hown, hts⟩ (s_X5_sharedIfMoved l dC dI cs L K G Q hQ x0 m0 tx tm H.size I J hI y45 hLy45 hKy45 p1 ⟨by omega, by omega⟩ p2 ⟨by omega, by omega⟩ z65 z68) (cwV 4 hts (gV pq974 pq975 pq976 pq79 pq977) rfl rfl rfl (by decide +kernel) ⟨(by rw [hR]; exact (Nat.le_of_ble_eq_true rfl)), (by rw [hR]; exact (Nat.le_of_ble_eq_true rfl))⟩) (sP_V hP hD hK hN hLy45 hKy45 rfl rfl) rfl rfl hl.1 rfl (lv_room (Nat.le_of_ble_eq_true rfl)) dX6_slope_69 ⟨(by rw [hR]; exact (Nat.le_of_ble_eq_true rfl)), (by rw [hR]; exact (Nat.le_of_ble_eq_true rfl))⟩) hS hP (fun z69 H locs hz69 hP hS => ?_)
          have xpz69 := hz69
          refine lv_isub hx hb dX6_slope_72 ?_
          refine lv_topi (fun z72 ez72 => ?_)
          subst hR; subst hQz
          exact W.iret (v := z72) hx hb hr (fun t ht hW => ⟨⟨z72, (), rfl, (fun σ h => by have e := cx_1 h; have T := cxA_tg h; rw [show se Q p0 = y45 from gd_of ey45] at T; have t := xpz3.mp t6; rw [e] at t; have w1 := xpz54 σ.1 T.1 T.2.1 T.2.2 (show p1.toInt.toNat < _ by omega) (show p2.toInt.toNat < _ by omega) ⟨⟨by omega, by omega⟩, by omega, by omega⟩; have w2 := xpz69 σ.1 T.1 T.2.1 T.2.2 (show p1.toInt.toNat < _ by omega) (show p2.toInt.toNat < _ by omega) ⟨⟨by omega, by omega⟩, by omega, by omega⟩; rw [bz65, bz68] at w2; have b1 := cm_b (mkw (shp σ.1 p1.toInt.toNat)) (mkw (shp σ.1 p2.toInt.toNat)) (bX σ.1 p2.toInt.toNat - bX σ.1 p1.toInt.toNat - w30_0.toInt) (bY σ.1 p2.toInt.toNat - bY σ.1 p1.toInt.toNat - w42_0.toInt); have b2 := cm_b (mkw (shp σ.1 p1.toInt.toNat)) (mkw (shp σ.1 p2.toInt.toNat)) (bX σ.1 p2.toInt.toNat - bX σ.1 p1.toInt.toNat - -w30_0.toInt) (bY σ.1 p2.toInt.toNat - bY σ.1 p1.toInt.toNat - -w42_0.toInt); unfold coN at w1 w2; have r := tq_sub (k := z54.toInt) (q := z69.toInt) ez72 rfl rfl (by omega) (by omega); rw [slo_y ⟨t, by omega, by omega⟩, r, w1, w2, g30, g42]; unfold sloN coN; by_cases q : p3.toInt = 0; (rw [if_pos q, if_pos q, if_neg (by omega)]; rfl); (rw [if_neg q, if_neg q, if_pos (by omega)]; rfl)), trivial⟩, hS.F ht⟩) hS.2.2 dX6_slope_73
        refine lv_icmp_ne (tgt := 41) hx hb dX6_slope_34 (by decide) (fun c34 => ?_) (fun c34 => ?_)
        · have t34 := tq_ne (k := p3.toInt) (q := (1)) c34 rfl (by decide +kernel)
          refine lv_iconst (v := 0) hx hb dX6_slope_41 (by decide +kernel) ?_
          exact j42 0 _ _ _ ⟨by decide +kernel, by decide +kernel⟩ (by rw [if_neg t34]; decide +kernel) hP hS (lv_sub hl [1, 2, 3, 4, 0] rfl)
        · have t34 := tq_eq (k := p3.toInt) (q := (1)) c34 rfl (by decide +kernel)
          refine lv_iconst (v := 1) hx hb dX6_slope_37 (by decide +kernel) ?_
          refine lv_goto (tgt := 42) hx hb dX6_slope_38 (by decide) ?_
          exact j42 1 _ _ _ ⟨by decide +kernel, by decide +kernel⟩ (by rw [if_pos t34]; decide +kernel) hP hS (lv_sub hl [1, 2, 3, 4, 0] rfl)
      refine lv_if_ne (tgt := 29) hx hb dX6_slope_22 (by decide) (fun c22 => ?_) (fun c22 => ?_)
      · have t22 := tq_ne (k := p3.toInt) (q := (0)) c22 rfl (by decide +kernel)
        refine lv_iconst (v := 0) hx hb dX6_slope_29 (by decide +kernel) ?_
        exact j30 0 _ _ _ ⟨by decide +kernel, by decide +kernel⟩ (by rw [if_neg t22]; decide +kernel) hP hS (lv_sub hl [0, 1, 2, 3] rfl)
      · have t22 := tq_eq (k := p3.toInt) (q := (0)) c22 rfl (by decide +kernel)
        refine lv_iconst (v := 1) hx hb dX6_slope_25 (by decide +kernel) ?_
        refine lv_goto (tgt := 30) hx hb dX6_slope_26 (by decide) ?_
        exact j30 1 _ _ _ ⟨by decide +kernel, by decide +kernel⟩ (by rw [if_pos t22]; decide +kernel) hP hS (lv_sub hl [0, 1, 2, 3] rfl)
    · have t14 := tq_eq (k := z11.toInt) (q := (0)) c14 rfl (by decide +kernel)
      refine lv_ldcw hx hb hown (hts _ pq1068) dX6_slope_17 ?_
      subst hR; subst hQz
      exact W.iret (v := (-2000000)) hx hb hr (fun t ht hW => ⟨⟨(-2000000), (), rfl, (fun σ h => by have e := cx_1 h; rw [slo_n (fun w => by first | (have t := w.1; unfold twV at t; rw [← e] at t; exact (xpz3.mpr t) t6) | exact xpz11 t14 w.2)]; decide +kernel), trivial⟩, hS.F ht⟩) hS.2.2 dX6_slope_20

set_option maxHeartbeats 4000000 in
set_option maxRecDepth 100000 in
theorem s_X6_ray (l : Launch) (dC : Nat → ClassId) (dI : Nat → Nat → Nat) (cs : Nat → ClassId) (L : List Nat) (K G : Nat → Nat) (Q : Nat → Nat → Option Nat) (hQ : Sv L K G Q) (x0 m0 : Nat) (tx : GT) (tm : GT × Int) (sz : Nat) (I : Nat → Nat → Int32) (J : Nat → Nat → Int64) (hI : Iv L K x0 m0 tx tm I) (p0 : Nat) (hLp0 : p0 ∈ L) (hKp0 : K p0 = 6) (p1 : Int32) (p2 : Int32) (p3 : Int32) (p4 : Int32) : Met l yX6_ray (.code yX6_ray cX6_ray 10 (some .int) :: pw) ({ frames := 3, cells := 0, slots := 0, locals := 68 }) (sP (dC, dI) cs [.ref p0, .int p1, .int p2, .int p3, .int p4] sz L K I J Q) (va_Qi (fun (r : Int32) (_ : Unit) => (∀ σ : Sx, cxA Q I J p0 σ → ryR σ p1 p2 p3 p4 r)) (fun _ _ => True) (fun _ => False)) 0 0 (fun _ => False) := by
  refine Met.ofW (cc := cX6_ray) (maxL := 10) (ret := (some .int)) (by decide +kernel) rfl ?_
  intro p e s m args below meth c s₁ B hml hv
  obtain ⟨rfl, hsz, hP, hK, hD0, hN⟩ := hv
  have hx := B.exec
  have hb := B.bytes
  have hr := B.returns
  have hts := fun w (h : w ∈ pw) => atoms_spec (ws := Cond.code yX6_ray cX6_ray 10 (some .int) :: pw) B.pre w (List.mem_cons_of_mem _ h)
  have hown : s.vm.findClass RX6 = some m.cls := findClass_of_methodNamed B.named
  have hlocks := B.notSynchronized
  subst hsz
  have hBB : 999 ≤ tm.2 ∧ tm.2 ≤ 6000000 := hI.2.2.2.2.1
  have hD := hD0
  obtain ⟨H, hHe⟩ : ∃ H : Heap, H = s.heap := ⟨_, rfl⟩
  have hS : va_S (fun _ => False) s.heap H [] := by rw [hHe]; exact va_S.rf
  rw [← hHe] at hP
  have hl := lv_entry ([.ref p0, .int p1, .int p2, .int p3, .int p4]) (n := 10) (Nat.le_of_ble_eq_true rfl)
  rw [lg_entry_eq]
  generalize (lg_sl ([.ref p0, .int p1, .int p2, .int p3, .int p4]) ++ List.replicate (10 - (lg_sl ([.ref p0, .int p1, .int p2, .int p3, .int p4])).length) Slot.unset).toArray = ls at hl ⊢
  have hl : lv_has ls 10 [(0, .ref p0), (1, .int p1), (2, .int p2), (3, .int p3), (4, .int p4)] := hl
  rw [← hHe]
  refine namedW (fun R Qz hR hQz => ?_)
  refine lv_iload_n hx hb dX6_ray_0 rfl (lv_at hl 1 rfl) ?_
  refine lv_sipush (v := 9999) hx hb dX6_ray_1 (by decide +kernel) ?_
  refine ro_i (va_runS (As := [.int p1, .int 9999]) (rest := []) ⟨hx, hb, hml, hown, hts⟩ (s_X6_isWithin l dC dI cs L K G Q hQ x0 m0 tx tm H.size I J hI p1 9999 ⟨by decide +kernel, by decide +kernel⟩) (va_cwS 2 hts (gS pq640 pq641 pq74 pq642) rfl rfl rfl (by decide +kernel) ⟨(by rw [hR]; exact (Nat.le_of_ble_eq_true rfl)), (by rw [hR]; exact (Nat.le_of_ble_eq_true rfl))⟩) (sP_S hP hD hK hN) rfl rfl hl.1 rfl (lv_room (Nat.le_of_ble_eq_true rfl)) dX6_ray_4 ⟨(by rw [hR]; exact (Nat.le_of_ble_eq_true rfl)), (by rw [hR]; exact (Nat.le_of_ble_eq_true rfl))⟩) hS hP (fun z4 H locs hz4 hP hS => ?_)
  have cst4_9999 : (9999 : Int32).toInt = 9999 := by decide +kernel
  obtain ⟨bz4, imz4, xpz4⟩ := hz4
  try rw [cst4_9999] at xpz4
  refine lv_if_eq (tgt := 41) hx hb dX6_ray_7 (by decide) (fun c7 => ?_) (fun c7 => ?_)
  · have t7 := tq_eq (k := z4.toInt) (q := (0)) c7 rfl (by decide +kernel)
    refine lv_iconst (v := (-1)) hx hb dX6_ray_41 (by decide +kernel) ?_
    subst hR; subst hQz
    exact W.iret (v := (-1)) hx hb hr (fun t ht hW => ⟨⟨(-1), (), rfl, (fun σ h => by exact ⟨fun w => by (obtain ⟨⟨⟨_, _⟩, _, _⟩, ⟨_, _⟩, _, _⟩ := w); first | exact absurd ⟨by omega, by omega⟩ (xpz4 t7) | exact absurd ⟨by omega, by omega⟩ (xpz14 t17) | exact absurd ⟨by omega, by omega⟩ (xpz24 t27) | exact absurd ⟨by omega, by omega⟩ (xpz35 t38), fun _ => by decide +kernel⟩), trivial⟩, hS.F ht⟩) hS.2.2 dX6_ray_42
  · have t7 := tq_ne (k := z4.toInt) (q := (0)) c7 rfl (by decide +kernel)
    have i7 := imz4 t7
    refine lv_iload_n hx hb dX6_ray_10 rfl (lv_at hl 2 rfl) ?_
    refine lv_sipush (v := 9999) hx hb dX6_ray_11 (by decide +kernel) ?_
    refine ro_i (va_runS (As := [.int p2, .int 9999]) (rest := []) ⟨hx, hb, hml, hown, hts⟩ (s_X6_isWithin l dC dI cs L K G Q hQ x0 m0 tx tm H.size I J hI p2 9999 ⟨by decide +kernel, by decide +kernel⟩) (va_cwS 2 hts (gS pq640 pq641 pq74 pq642) rfl rfl rfl (by decide +kernel) ⟨(by rw [hR]; exact (Nat.le_of_ble_eq_true rfl)), (by rw [hR]; exact (Nat.le_of_ble_eq_true rfl))⟩) (sP_S hP hD hK hN) rfl rfl hl.1 rfl (lv_room (Nat.le_of_ble_eq_true rfl)) dX6_ray_14 ⟨(by rw [hR]; exact (Nat.le_of_ble_eq_true rfl)), (by rw [hR]; exact (Nat.le_of_ble_eq_true rfl))⟩) hS hP (fun z14 H locs hz14 hP hS => ?_)
    have cst14_9999 : (9999 : Int32).toInt = 9999 := by decide +kernel
    obtain ⟨bz14, imz14, xpz14⟩ := hz14
    try rw [cst14_9999] at xpz14
    refine lv_if_eq (tgt := 41) hx hb dX6_ray_17 (by decide) (fun c17 => ?_) (fun c17 => ?_)
    · have t17 := tq_eq (k := z14.toInt) (q := (0)) c17 rfl (by decide +kernel)
      refine lv_iconst (v := (-1)) hx hb dX6_ray_41 (by decide +kernel) ?_
      subst hR; subst hQz
      exact W.iret (v := (-1)) hx hb hr (fun t ht hW => ⟨⟨(-1), (), rfl, (fun σ h => by exact ⟨fun w => by (obtain ⟨⟨⟨_, _⟩, _, _⟩, ⟨_, _⟩, _, _⟩ := w); first | exact absurd ⟨by omega, by omega⟩ (xpz4 t7) | exact absurd ⟨by omega, by omega⟩ (xpz14 t17) | exact absurd ⟨by omega, by omega⟩ (xpz24 t27) | exact absurd ⟨by omega, by omega⟩ (xpz35 t38), fun _ => by decide +kernel⟩), trivial⟩, hS.F ht⟩) hS.2.2 dX6_ray_42
    · have t17 := tq_ne (k := z14.toInt) (q := (0)) c17 rfl (by decide +kernel)
      have i17 := imz14 t17
      refine lv_iload_n hx hb dX6_ray_20 rfl (lv_at hl 3 rfl) ?_
      refine lv_sipush (v := 300) hx hb dX6_ray_21 (by decide +kernel) ?_
      refine ro_i (va_runS (As := [.int p3, .int 300]) (rest := []) ⟨hx, hb, hml, hown, hts⟩ (s_X6_isWithin l dC dI cs L K G Q hQ x0 m0 tx tm H.size I J hI p3 300 ⟨by decide +kernel, by decide +kernel⟩) (va_cwS 2 hts (gS pq640 pq641 pq74 pq642) rfl rfl rfl (by decide +kernel) ⟨(by rw [hR]; exact (Nat.le_of_ble_eq_true rfl)), (by rw [hR]; exact (Nat.le_of_ble_eq_true rfl))⟩) (sP_S hP hD hK hN) rfl rfl hl.1 rfl (lv_room (Nat.le_of_ble_eq_true rfl)) dX6_ray_24 ⟨(by rw [hR]; exact (Nat.le_of_ble_eq_true rfl)), (by rw [hR]; exact (Nat.le_of_ble_eq_true rfl))⟩) hS hP (fun z24 H locs hz24 hP hS => ?_)
      have cst24_300 : (300 : Int32).toInt = 300 := by decide +kernel
      obtain ⟨bz24, imz24, xpz24⟩ := hz24
      try rw [cst24_300] at xpz24
      refine lv_if_eq (tgt := 41) hx hb dX6_ray_27 (by decide) (fun c27 => ?_) (fun c27 => ?_)
      · have t27 := tq_eq (k := z24.toInt) (q := (0)) c27 rfl (by decide +kernel)
        refine lv_iconst (v := (-1)) hx hb dX6_ray_41 (by decide +kernel) ?_
        subst hR; subst hQz
        exact W.iret (v := (-1)) hx hb hr (fun t ht hW => ⟨⟨(-1), (), rfl, (fun σ h => by exact ⟨fun w => by (obtain ⟨⟨⟨_, _⟩, _, _⟩, ⟨_, _⟩, _, _⟩ := w); first | exact absurd ⟨by omega, by omega⟩ (xpz4 t7) | exact absurd ⟨by omega, by omega⟩ (xpz14 t17) | exact absurd ⟨by omega, by omega⟩ (xpz24 t27) | exact absurd ⟨by omega, by omega⟩ (xpz35 t38), fun _ => by decide +kernel⟩), trivial⟩, hS.F ht⟩) hS.2.2 dX6_ray_42
      · have t27 := tq_ne (k := z24.toInt) (q := (0)) c27 rfl (by decide +kernel)
        have i27 := imz24 t27
        refine lv_iload hx hb dX6_ray_30 (lv_at hl 4 rfl) ?_
        refine lv_sipush (v := 300) hx hb dX6_ray_32 (by decide +kernel) ?_
        refine ro_i (va_runS (As := [.int p4, .int 300]) (rest := []) ⟨hx, hb, hml, hown, hts⟩ (s_X6_isWithin l dC dI cs L K G Q hQ x0 m0 tx tm H.size I J hI p4 300 ⟨by decide +kernel, by decide +kernel⟩) (va_cwS 2 hts (gS pq640 pq641 pq74 pq642) rfl rfl rfl (by decide +kernel) ⟨(by rw [hR]; exact (Nat.le_of_ble_eq_true rfl)), (by rw [hR]; exact (Nat.le_of_ble_eq_true rfl))⟩) (sP_S hP hD hK hN) rfl rfl hl.1 rfl (lv_room (Nat.le_of_ble_eq_true rfl)) dX6_ray_35 ⟨(by rw [hR]; exact (Nat.le_of_ble_eq_true rfl)), (by rw [hR]; exact (Nat.le_of_ble_eq_true rfl))⟩) hS hP (fun z35 H locs hz35 hP hS => ?_)
        have cst35_300 : (300 : Int32).toInt = 300 := by decide +kernel
        obtain ⟨bz35, imz35, xpz35⟩ := hz35
        try rw [cst35_300] at xpz35
        refine lv_if_ne (tgt := 43) hx hb dX6_ray_38 (by decide) (fun c38 => ?_) (fun c38 => ?_)
        · have t38 := tq_ne (k := z35.toInt) (q := (0)) c38 rfl (by decide +kernel)
          have i38 := imz35 t38
          refine lv_iload_n hx hb dX6_ray_43 rfl (lv_at hl 3 rfl) ?_
          refine lv_iload hx hb dX6_ray_44 (lv_at hl 4 rfl) ?_
          refine ro_i (va_runS (As := [.int p3, .int p4]) (rest := []) ⟨hx, hb, hml, hown, hts⟩ (s_X6_wayLength l dC dI cs L K G Q hQ x0 m0 tx tm H.size I J hI p3 ⟨by omega, by omega⟩ p4 ⟨by omega, by omega⟩) (va_cwS 2 hts (gS pq797 pq744 pq74 pq745) rfl rfl rfl (by decide +kernel) ⟨(by rw [hR]; exact (Nat.le_of_ble_eq_true rfl)), (by rw [hR]; exact (Nat.le_of_ble_eq_true rfl))⟩) (sP_S hP hD hK hN) rfl rfl hl.1 rfl (lv_room (Nat.le_of_ble_eq_true rfl)) dX6_ray_46 ⟨(by rw [hR]; exact (Nat.le_of_ble_eq_true rfl)), (by rw [hR]; exact (Nat.le_of_ble_eq_true rfl))⟩) hS hP (fun z46 H locs hz46 hP hS => ?_)
          obtain ⟨bz46, xpz46⟩ := hz46
          refine lv_istore (lv' := [(5, .int z46), (0, .ref p0), (1, .int p1), (2, .int p2), (3, .int p3), (4, .int p4)]) hx hb dX6_ray_49 hl (by decide) rfl (fun ls hl => ?_)
          refine lv_iconst (v := 0) hx hb dX6_ray_51 (by decide +kernel) ?_
          refine lv_istore (lv' := [(6, .int 0), (5, .int z46), (0, .ref p0), (1, .int p1), (2, .int p2), (3, .int p3), (4, .int p4)]) hx hb dX6_ray_52 hl (by decide) rfl (fun ls hl => ?_)
          have key54 := blocks (fun n => ∀ (v54_6 : Int32) (H : Heap) (lo : List Loc) (ls : Array Slot), (302 - v54_6.toInt).toNat = n → ((0) ≤ v54_6.toInt ∧ v54_6.toInt ≤ 301) → (∀ σ : Sx, cxA Q I J p0 σ → ∀ (j : Int) (q : Nat), 0 ≤ j → j < v54_6.toInt → ¬ ryP σ p1 p2 p3 p4 j q) → va_P (dC, dI) vwCl (Wd cs L K I J Q) H → va_S (fun _ => False) s.heap H lo → lv_has ls 10 [(0, .ref p0), (1, .int p1), (2, .int p2), (3, .int p3), (4, .int p4), (5, .int z46), (6, .int v54_6)] → W p l e R s m (([.ref p0, .int p1, .int p2, .int p3, .int p4] : List Value).toArray) below meth c H lo 0 0 Qz (F0 m 54 ls [])) (by
            intro n ih54
            intro v54_6 H lo ls hmu54 bv54_6 g54 hP hS hl
            refine lv_iload hx hb dX6_ray_54 (lv_at hl 6 rfl) ?_
            refine lv_iload hx hb dX6_ray_56 (lv_at hl 5 rfl) ?_
            refine lv_icmp_gt (tgt := 138) hx hb dX6_ray_58 (by decide) (fun c58 => ?_) (fun c58 => ?_)
            · have t58 := tq_lt (k := z46.toInt) (q := v54_6.toInt) c58 rfl rfl
              refine lv_bipush (v := (-2)) hx hb dX6_ray_138 (by decide +kernel) ?_
              subst hR; subst hQz
              exact W.iret (v := (-2)) hx hb hr (fun t ht hW => ⟨⟨(-2), (), rfl, (fun σ h => by exact ⟨fun _ => Or.inr ⟨fun j q a b => g54 σ h j q a (by omega), by decide +kernel⟩, fun q => absurd ⟨⟨⟨by omega, by omega⟩, by omega, by omega⟩, ⟨by omega, by omega⟩, by omega, by omega⟩ q⟩), trivial⟩, hS.F ht⟩) hS.2.2 dX6_ray_140
            · have t58 := tq_nlt (k := z46.toInt) (q := v54_6.toInt) c58 rfl rfl
              refine lv_iload_n hx hb dX6_ray_61 rfl (lv_at hl 1 rfl) ?_
              refine lv_iload hx hb dX6_ray_62 (lv_at hl 6 rfl) ?_
              refine lv_iload_n hx hb dX6_ray_64 rfl (lv_at hl 3 rfl) ?_
              refine lv_iload hx hb dX6_ray_65 (lv_at hl 5 rfl) ?_
              refine ro_i (va_runS (As := [.int v54_6, .int p3, .int z46]) (rest := [.int p1]) ⟨hx, hb, hml, hown, hts⟩ (s_X6_wayPartR l dC dI cs L K G Q hQ x0 m0 tx tm H.size I J hI v54_6 ⟨by omega, by omega⟩ p3 ⟨by omega, by omega⟩ z46 ⟨by omega, by omega⟩ (by omega)) (va_cwS 3 hts (gS pq798 pq779 pq74 pq780) rfl rfl rfl (by decide +kernel) ⟨(by rw [hR]; exact (Nat.le_of_ble_eq_true rfl)), (by rw [hR]; exact (Nat.le_of_ble_eq_true rfl))⟩) (sP_S hP hD hK hN) rfl rfl hl.1 rfl (lv_room (Nat.le_of_ble_eq_true rfl)) dX6_ray_67 ⟨(by rw [hR]; exact (Nat.le_of_ble_eq_true rfl)), (by rw [hR]; exact (Nat.le_of_ble_eq_true rfl))⟩) hS hP (fun z67 H locs hz67 hP hS => ?_)
              obtain ⟨bz67, xpz67⟩ := hz67
              refine lv_iadd hx hb dX6_ray_70 ?_
              refine lv_topi (fun z70 ez70 => ?_)
              have bz70 := tq_add (k := p1.toInt) (q := z67.toInt) ez70 rfl rfl (by omega) (by omega)
              refine lv_istore (lv' := [(7, .int z70), (0, .ref p0), (1, .int p1), (2, .int p2), (3, .int p3), (4, .int p4), (5, .int z46), (6, .int v54_6)]) hx hb dX6_ray_71 hl (by decide) rfl (fun ls hl => ?_)
              refine lv_iload_n hx hb dX6_ray_73 rfl (lv_at hl 3 rfl) ?_
              refine lv_iload hx hb dX6_ray_74 (lv_at hl 7 rfl) ?_
              refine lv_iload hx hb dX6_ray_76 (lv_at hl 5 rfl) ?_
              refine lv_iload hx hb dX6_ray_78 (lv_at hl 6 rfl) ?_
              refine ro_i (va_runS (As := [.int v54_6, .int p4, .int z46]) (rest := [.int p2]) ⟨hx, hb, hml, hown, hts⟩ (s_X6_wayPartR l dC dI cs L K G Q hQ x0 m0 tx tm H.size I J hI v54_6 ⟨by omega, by omega⟩ p4 ⟨by omega, by omega⟩ z46 ⟨by omega, by omega⟩ (by omega)) (va_cwS 3 hts (gS pq798 pq779 pq74 pq780) rfl rfl rfl (by decide +kernel) ⟨(by rw [hR]; exact (Nat.le_of_ble_eq_true rfl)), (by rw [hR]; exact (Nat.le_of_ble_eq_true rfl))⟩) (sP_S hP hD hK hN) rfl rfl hl.1 rfl (lv_room (Nat.le_of_ble_eq_true rfl)) dX6_ray_80 ⟨(by rw [hR]; exact (Nat.le_of_ble_eq_true rfl)), (by rw [hR]; exact (Nat.le_of_ble_eq_true rfl))⟩) hS hP (fun z80 H locs hz80 hP hS => ?_)
              obtain ⟨bz80, xpz80⟩ := hz80
              refine lv_iadd hx hb dX6_ray_83 ?_
              refine lv_topi (fun z83 ez83 => ?_)
              have bz83 := tq_add (k := p2.toInt) (q := z80.toInt) ez83 rfl rfl (by omega) (by omega)
              refine lv_istore (lv' := [(8, .int z83), (7, .int z70), (0, .ref p0), (1, .int p1), (2, .int p2), (3, .int p3), (4, .int p4), (5, .int z46), (6, .int v54_6)]) hx hb dX6_ray_84 hl (by decide) rfl (fun ls hl => ?_)
              refine lv_iconst (v := 0) hx hb dX6_ray_86 (by decide +kernel) ?_
              refine lv_istore (lv' := [(9, .int 0), (8, .int z83), (7, .int z70), (0, .ref p0), (1, .int p1), (2, .int p2), (3, .int p3), (4, .int p4), (5, .int z46), (6, .int v54_6)]) hx hb dX6_ray_87 hl (by decide) rfl (fun ls hl => ?_)
              have key89 := blocks (fun n => ∀ (v89_9 : Int32) (H : Heap) (lo : List Loc) (ls : Array Slot), (11 - v89_9.toInt).toNat = n → ((0) ≤ v89_9.toInt ∧ v89_9.toInt ≤ 10) → (∀ σ : Sx, cxA Q I J p0 σ → ∀ q : Nat, q < v89_9.toInt.toNat → ¬ ryP σ p1 p2 p3 p4 v54_6.toInt q) → va_P (dC, dI) vwCl (Wd cs L K I J Q) H → va_S (fun _ => False) s.heap H lo → lv_has ls 10 [(0, .ref p0), (1, .int p1), (2, .int p2), (3, .int p3), (4, .int p4), (5, .int z46), (6, .int v54_6), (7, .int z70), (8, .int z83), (9, .int v89_9)] → W p l e R s m (([.ref p0, .int p1, .int p2, .int p3, .int p4] : List Value).toArray) below meth c H lo 0 0 Qz (F0 m 89 ls [])) (by
                intro n ih89
                intro v89_9 H lo ls hmu89 bv89_9 g89 hP hS hl
                refine lv_iload hx hb dX6_ray_89 (lv_at hl 9 rfl) ?_
                refine lv_aload_n hx hb dX6_ray_91 rfl (lv_at hl 0 rfl) ?_
                obtain ⟨y92, ey92, hLy92, hKy92, hGy92⟩ := oQ_6_2 (Sv_at hQ hLp0 hKp0)
                refine p_get (v := .ref y92) hx hb hts inX6 hown hK hP hLp0 hKp0 rfl rfl 2 (by decide) (hts _ pq351) (congrArg (fun q => some (va_rf q)) ey92) dX6_ray_92 ?_
                refine p_get hx hb hts inX1 hown hK hP hLy92 hKy92 rfl rfl 3 (by decide) (hts _ pq226) rfl dX6_ray_95 ?_
                refine lv_topi (fun z95 ez95 => ?_)
                have cgz95 := congrArg Int32.toInt ez95
                have bz95 := oI_1_3 (Iv_at hI hLy92 hKy92)
                rw [← ez95] at bz95
                refine lv_icmp_ge (tgt := 132) hx hb dX6_ray_98 (by decide) (fun c98 => ?_) (fun c98 => ?_)
                · have t98 := tq_le (k := z95.toInt) (q := v89_9.toInt) c98 rfl rfl
                  obtain ⟨z132, ez132⟩ : ∃ y : Int32, y = v54_6 + 1 := ⟨_, rfl⟩
                  refine lv_iinc (v := z132) (lv' := [(6, .int z132), (0, .ref p0), (1, .int p1), (2, .int p2), (3, .int p3), (4, .int p4), (5, .int z46), (7, .int z70), (8, .int z83), (9, .int v89_9)]) hx hb dX6_ray_132 hl (k := 6) rfl (by rw [ez132]; rfl) (by decide) rfl (fun ls hl => ?_)
                  have bz132 := tq_add (k := v54_6.toInt) (q := 1) ez132 rfl (by decide +kernel) (by omega) (by omega)
                  refine lv_goto (tgt := 54) hx hb dX6_ray_135 (by decide) ?_
                  exact ih54 _ (by omega) z132 _ _ _ rfl ⟨by omega, by omega⟩ (fun σ h => by have en := cgz95.trans (congrArg Int32.toInt (show I y92 3 = σ.1.1 1 by rw [show y92 = an Q p0 from (gd_of ey92).symm]; exact cx_1 h)); intro j q a b; rcases Int.lt_or_le j v54_6.toInt with w | w; (exact g54 σ h j q a w); (obtain rfl : j = v54_6.toInt := by omega); exact fun e => g89 σ h q (by have k := e.1; omega) e) hP hS (lv_sub hl [1, 2, 3, 4, 5, 6, 0] rfl)
                · have t98 := tq_nle (k := z95.toInt) (q := v89_9.toInt) c98 rfl rfl
                  refine lv_aload_n hx hb dX6_ray_101 rfl (lv_at hl 0 rfl) ?_
                  obtain ⟨y102, ey102, hLy102, hKy102, hGy102⟩ := oQ_6_5 (Sv_at hQ hLp0 hKp0)
                  refine p_get (v := .ref y102) hx hb hts inX6 hown hK hP hLp0 hKp0 rfl rfl 5 (by decide) (hts _ pq354) (congrArg (fun q => some (va_rf q)) ey102) dX6_ray_102 ?_
                  refine lv_iload hx hb dX6_ray_105 (lv_at hl 9 rfl) ?_
                  refine lv_iload hx hb dX6_ray_107 (lv_at hl 7 rfl) ?_
                  refine lv_iload hx hb dX6_ray_109 (lv_at hl 8 rfl) ?_
                  refine ro_i (va_runV (As := [.int v89_9, .int z70, .int z83]) (rest := []) ⟨hx, hb, hml, hown, hts⟩ (s_X5_covers l dC dI cs L K G Q hQ x0 m0 tx tm H.size I J hI y102 hLy102 hKy102 v89_9 ⟨by omega, by omega⟩ z70 z83) (cwV 3 hts (gV pq1019 pq1020 pq1021 pq79 pq1022) rfl rfl rfl (by decide +kernel) ⟨(by rw [hR]; exact (Nat.le_of_ble_eq_true rfl)), (by rw [hR]; exact (Nat.le_of_ble_eq_true rfl))⟩) (sP_V hP hD hK hN hLy102 hKy102 rfl rfl) rfl rfl hl.1 rfl (lv_room (Nat.le_of_ble_eq_true rfl)) dX6_ray_111 ⟨(by rw [hR]; exact (Nat.le_of_ble_eq_true rfl)), (by rw [hR]; exact (Nat.le_of_ble_eq_true rfl))⟩) hS hP (fun z111 H locs hz111 hP hS => ?_)
                  obtain ⟨bz111, xpz111⟩ := hz111
                  refine lv_if_eq (tgt := 126) hx hb dX6_ray_114 (by decide) (fun c114 => ?_) (fun c114 => ?_)
                  · have t114 := tq_eq (k := z111.toInt) (q := (0)) c114 rfl (by decide +kernel)
                    obtain ⟨z126, ez126⟩ : ∃ y : Int32, y = v89_9 + 1 := ⟨_, rfl⟩
                    refine lv_iinc (v := z126) (lv' := [(9, .int z126), (0, .ref p0), (1, .int p1), (2, .int p2), (3, .int p3), (4, .int p4), (5, .int z46), (6, .int v54_6), (7, .int z70), (8, .int z83)]) hx hb dX6_ray_126 hl (k := 9) rfl (by rw [ez126]; rfl) (by decide) rfl (fun ls hl => ?_)
                    have bz126 := tq_add (k := v89_9.toInt) (q := 1) ez126 rfl (by decide +kernel) (by omega) (by omega)
                    refine lv_goto (tgt := 89) hx hb dX6_ray_129 (by decide) ?_
                    exact ih89 _ (by omega) z126 _ _ _ rfl ⟨by omega, by omega⟩ (fun σ h => by have en := cgz95.trans (congrArg Int32.toInt (show I y92 3 = σ.1.1 1 by rw [show y92 = an Q p0 from (gd_of ey92).symm]; exact cx_1 h)); have T := cxA_tg h; rw [show se Q p0 = y102 from gd_of ey102] at T; have e70 := ry_of (show z70.toInt = p1.toInt + byI v54_6.toInt p3.toInt (stI p3.toInt p4.toInt) by rw [bz70, xpz67, xpz46]); have e83 := ry_of (show z83.toInt = p2.toInt + byI v54_6.toInt p4.toInt (stI p3.toInt p4.toInt) by rw [bz83, xpz80, xpz46]); have w := xpz111 σ.1 T.1 T.2.1 T.2.2 (show v89_9.toInt.toNat < _ by omega); rw [e70, e83] at w; intro q b; rcases Nat.lt_or_ge q v89_9.toInt.toNat with k | k; (exact g89 σ h q k); (obtain rfl : q = v89_9.toInt.toNat := by omega); exact fun e => (w.mpr e.2) t114) hP hS (lv_sub hl [1, 2, 3, 4, 5, 6, 7, 8, 9, 0] rfl)
                  · have t114 := tq_ne (k := z111.toInt) (q := (0)) c114 rfl (by decide +kernel)
                    refine lv_bipush (v := 100) hx hb dX6_ray_117 (by decide +kernel) ?_
                    refine lv_iload hx hb dX6_ray_119 (lv_at hl 6 rfl) ?_
                    refine lv_imul hx hb dX6_ray_121 ?_
                    refine lv_topi (fun z121 ez121 => ?_)
                    have bz121 := tq_mul (k := (100)) (q := v54_6.toInt) ez121 (by decide +kernel) rfl (by omega) (by omega)
                    refine lv_iload hx hb dX6_ray_122 (lv_at hl 9 rfl) ?_
                    refine lv_iadd hx hb dX6_ray_124 ?_
                    refine lv_topi (fun z124 ez124 => ?_)
                    have bz124 := tq_add (k := z121.toInt) (q := v89_9.toInt) ez124 rfl rfl (by omega) (by omega)
                    subst hR; subst hQz
                    exact W.iret (v := z124) hx hb hr (fun t ht hW => ⟨⟨z124, (), rfl, (fun σ h => by have en := cgz95.trans (congrArg Int32.toInt (show I y92 3 = σ.1.1 1 by rw [show y92 = an Q p0 from (gd_of ey92).symm]; exact cx_1 h)); have T := cxA_tg h; rw [show se Q p0 = y102 from gd_of ey102] at T; have e70 := ry_of (show z70.toInt = p1.toInt + byI v54_6.toInt p3.toInt (stI p3.toInt p4.toInt) by rw [bz70, xpz67, xpz46]); have e83 := ry_of (show z83.toInt = p2.toInt + byI v54_6.toInt p4.toInt (stI p3.toInt p4.toInt) by rw [bz83, xpz80, xpz46]); have w := xpz111 σ.1 T.1 T.2.1 T.2.2 (show v89_9.toInt.toNat < _ by omega); rw [e70, e83] at w; exact ⟨fun _ => Or.inl ⟨v54_6.toInt, v89_9.toInt.toNat, ⟨by omega, by omega⟩, ⟨by omega, w.mp t114⟩, fun j q a b => g54 σ h j q a b, fun q b => g89 σ h q b, by omega⟩, fun q => absurd ⟨⟨⟨by omega, by omega⟩, by omega, by omega⟩, ⟨by omega, by omega⟩, by omega, by omega⟩ q⟩), trivial⟩, hS.F ht⟩) hS.2.2 dX6_ray_125)
              exact key89 _ 0 _ _ _ rfl ⟨by decide +kernel, by decide +kernel⟩ (fun σ h q b => absurd b (by rw [show (0 : Int32).toInt.toNat = 0 from by decide +kernel]; omega)) hP hS (lv_sub hl [3, 4, 5, 6, 7, 8, 9, 2, 1, 0] rfl))
          exact key54 _ 0 _ _ _ rfl ⟨by decide +kernel, by decide +kernel⟩ (fun σ h j q a b => absurd b (by rw [show (0 : Int32).toInt = 0 from by decide +kernel]; omega)) hP hS (lv_sub hl [2, 3, 4, 5, 6, 1, 0] rfl)
        · have t38 := tq_eq (k := z35.toInt) (q := (0)) c38 rfl (by decide +kernel)
          refine lv_iconst (v := (-1)) hx hb dX6_ray_41 (by decide +kernel) ?_
          subst hR; subst hQz
          exact W.iret (v := (-1)) hx hb hr (fun t ht hW => ⟨⟨(-1), (), rfl, (fun σ h => by exact ⟨fun w => by (obtain ⟨⟨⟨_, _⟩, _, _⟩, ⟨_, _⟩, _, _⟩ := w); first | exact absurd ⟨by omega, by omega⟩ (xpz4 t7) | exact absurd ⟨by omega, by omega⟩ (xpz14 t17) | exact absurd ⟨by omega, by omega⟩ (xpz24 t27) | exact absurd ⟨by omega, by omega⟩ (xpz35 t38), fun _ => by decide +kernel⟩), trivial⟩, hS.F ht⟩) hS.2.2 dX6_ray_42

set_option maxHeartbeats 4000000 in
set_option maxRecDepth 100000 in
theorem s_X6_seen (l : Launch) (dC : Nat → ClassId) (dI : Nat → Nat → Nat) (cs : Nat → ClassId) (L : List Nat) (K G : Nat → Nat) (Q : Nat → Nat → Option Nat) (hQ : Sv L K G Q) (x0 m0 : Nat) (tx : GT) (tm : GT × Int) (sz : Nat) (I : Nat → Nat → Int32) (J : Nat → Nat → Int64) (hI : Iv L K x0 m0 tx tm I) (p0 : Nat) (hLp0 : p0 ∈ L) (hKp0 : K p0 = 6) (p1 : Int32) (p2 : Int32) : Met l yX6_seen (.code yX6_seen cX6_seen 10 (some .int) :: pw) ({ frames := 4, cells := 0, slots := 0, locals := 93 }) (sP (dC, dI) cs [.ref p0, .int p1, .int p2] sz L K I J Q) (va_Qi (fun (r : Int32) (_ : Unit) => (∀ σ : Sx, cxA Q I J p0 σ → snA σ p1 p2 r)) (fun _ _ => True) (fun _ => False)) 0 0 (fun _ => False) := by
  refine Met.ofW (cc := cX6_seen) (maxL := 10) (ret := (some .int)) (by decide +kernel) rfl ?_
  intro p e s m args below meth c s₁ B hml hv
  obtain ⟨rfl, hsz, hP, hK, hD0, hN⟩ := hv
  have hx := B.exec
  have hb := B.bytes
  have hr := B.returns
  have hts := fun w (h : w ∈ pw) => atoms_spec (ws := Cond.code yX6_seen cX6_seen 10 (some .int) :: pw) B.pre w (List.mem_cons_of_mem _ h)
  have hown : s.vm.findClass RX6 = some m.cls := findClass_of_methodNamed B.named
  have hlocks := B.notSynchronized
  subst hsz
  have hBB : 999 ≤ tm.2 ∧ tm.2 ≤ 6000000 := hI.2.2.2.2.1
  have hD := hD0
  obtain ⟨H, hHe⟩ : ∃ H : Heap, H = s.heap := ⟨_, rfl⟩
  have hS : va_S (fun _ => False) s.heap H [] := by rw [hHe]; exact va_S.rf
  rw [← hHe] at hP
  have hl := lv_entry ([.ref p0, .int p1, .int p2]) (n := 10) (Nat.le_of_ble_eq_true rfl)
  rw [lg_entry_eq]
  generalize (lg_sl ([.ref p0, .int p1, .int p2]) ++ List.replicate (10 - (lg_sl ([.ref p0, .int p1, .int p2])).length) Slot.unset).toArray = ls at hl ⊢
  have hl : lv_has ls 10 [(0, .ref p0), (1, .int p1), (2, .int p2)] := hl
  rw [← hHe]
  refine namedW (fun R Qz hR hQz => ?_)
  refine lv_aload_n hx hb dX6_seen_0 rfl (lv_at hl 0 rfl) ?_
  refine lv_iload_n hx hb dX6_seen_1 rfl (lv_at hl 1 rfl) ?_
  refine lv_iload_n hx hb dX6_seen_2 rfl (lv_at hl 2 rfl) ?_
  refine ro_i (va_runV (As := [.int p1, .int p2]) (rest := []) ⟨hx, hb, hml, hown, hts⟩ (s_X6_areTwoBodies l dC dI cs L K G Q hQ x0 m0 tx tm H.size I J hI p0 hLp0 hKp0 p1 p2) (cwV 2 hts (gV pq970 pq972 pq7 pq74 pq973) rfl rfl rfl (by decide +kernel) ⟨(by rw [hR]; exact (Nat.le_of_ble_eq_true rfl)), (by rw [hR]; exact (Nat.le_of_ble_eq_true rfl))⟩) (sP_V hP hD hK hN hLp0 hKp0 rfl rfl) rfl rfl hl.1 rfl (lv_room (Nat.le_of_ble_eq_true rfl)) dX6_seen_3 ⟨(by rw [hR]; exact (Nat.le_of_ble_eq_true rfl)), (by rw [hR]; exact (Nat.le_of_ble_eq_true rfl))⟩) hS hP (fun z3 H locs hz3 hP hS => ?_)
  obtain ⟨bz3, imz3, xpz3⟩ := hz3
  refine lv_if_eq (tgt := 31) hx hb dX6_seen_6 (by decide) (fun c6 => ?_) (fun c6 => ?_)
  · have t6 := tq_eq (k := z3.toInt) (q := (0)) c6 rfl (by decide +kernel)
    refine lv_iconst (v := (-1)) hx hb dX6_seen_31 (by decide +kernel) ?_
    subst hR; subst hQz
    exact W.iret (v := (-1)) hx hb hr (fun t ht hW => ⟨⟨(-1), (), rfl, (fun σ h => by refine ⟨fun w => ?_, fun _ => by decide +kernel⟩; exfalso; obtain ⟨w1, w2, w3⟩ := w; unfold twV at w1; first | (rw [← cx_1 h] at w1; exact (xpz3.mpr w1) t6) | (have T := cxA_tg h; rw [show se Q p0 = y10 from gd_of ey10] at T; exact ((xpz14 σ.1 T.1 T.2.1 T.2.2 (show p1.toInt.toNat < _ by omega)).mpr w2) t17) | (have T := cxA_tg h; rw [show se Q p0 = y10 from gd_of ey10] at T; exact ((xpz25 σ.1 T.1 T.2.1 T.2.2 (show p2.toInt.toNat < _ by omega)).mpr w3) t28)), trivial⟩, hS.F ht⟩) hS.2.2 dX6_seen_32
  · have t6 := tq_ne (k := z3.toInt) (q := (0)) c6 rfl (by decide +kernel)
    have i6 := imz3 t6
    refine lv_aload_n hx hb dX6_seen_9 rfl (lv_at hl 0 rfl) ?_
    obtain ⟨y10, ey10, hLy10, hKy10, hGy10⟩ := oQ_6_5 (Sv_at hQ hLp0 hKp0)
    refine p_get (v := .ref y10) hx hb hts inX6 hown hK hP hLp0 hKp0 rfl rfl 5 (by decide) (hts _ pq354) (congrArg (fun q => some (va_rf q)) ey10) dX6_seen_10 ?_
    refine lv_iload_n hx hb dX6_seen_13 rfl (lv_at hl 1 rfl) ?_
    refine ro_i (va_runV (As := [.int p1]) (rest := []) ⟨hx, hb, hml, hown, hts⟩ (s_X5_hasDots l dC dI cs L K G Q hQ x0 m0 tx tm H.size I J hI y10 hLy10 hKy10 p1 ⟨by omega, by omega⟩) (cwV 1 hts (gV pq1077 pq1078 pq1079 pq79 pq1080) rfl rfl rfl (by decide +kernel) ⟨(by rw [hR]; exact (Nat.le_of_ble_eq_true rfl)), (by rw [hR]; exact (Nat.le_of_ble_eq_true rfl))⟩) (sP_V hP hD hK hN hLy10 hKy10 rfl rfl) rfl rfl hl.1 rfl (lv_room (Nat.le_of_ble_eq_true rfl)) dX6_seen_14 ⟨(by rw [hR]; exact (Nat.le_of_ble_eq_true rfl)), (by rw [hR]; exact (Nat.le_of_ble_eq_true rfl))⟩) hS hP (fun z14 H locs hz14 hP hS => ?_)
    obtain ⟨bz14, xpz14⟩ := hz14
    refine lv_if_eq (tgt := 31) hx hb dX6_seen_17 (by decide) (fun c17 => ?_) (fun c17 => ?_)
    · have t17 := tq_eq (k := z14.toInt) (q := (0)) c17 rfl (by decide +kernel)
      refine lv_iconst (v := (-1)) hx hb dX6_seen_31 (by decide +kernel) ?_
      subst hR; subst hQz
      exact W.iret (v := (-1)) hx hb hr (fun t ht hW => ⟨⟨(-1), (), rfl, (fun σ h => by refine ⟨fun w => ?_, fun _ => by decide +kernel⟩; exfalso; obtain ⟨w1, w2, w3⟩ := w; unfold twV at w1; first | (rw [← cx_1 h] at w1; exact (xpz3.mpr w1) t6) | (have T := cxA_tg h; rw [show se Q p0 = y10 from gd_of ey10] at T; exact ((xpz14 σ.1 T.1 T.2.1 T.2.2 (show p1.toInt.toNat < _ by omega)).mpr w2) t17) | (have T := cxA_tg h; rw [show se Q p0 = y10 from gd_of ey10] at T; exact ((xpz25 σ.1 T.1 T.2.1 T.2.2 (show p2.toInt.toNat < _ by omega)).mpr w3) t28)), trivial⟩, hS.F ht⟩) hS.2.2 dX6_seen_32
    · have t17 := tq_ne (k := z14.toInt) (q := (0)) c17 rfl (by decide +kernel)
      refine lv_aload_n hx hb dX6_seen_20 rfl (lv_at hl 0 rfl) ?_
      refine p_get (v := .ref y10) hx hb hts inX6 hown hK hP hLp0 hKp0 rfl rfl 5 (by decide) (hts _ pq354) (congrArg (fun q => some (va_rf q)) ey10) dX6_seen_21 ?_
      refine lv_iload_n hx hb dX6_seen_24 rfl (lv_at hl 2 rfl) ?_
      refine ro_i (va_runV (As := [.int p2]) (rest := []) ⟨hx, hb, hml, hown, hts⟩ (s_X5_hasDots l dC dI cs L K G Q hQ x0 m0 tx tm H.size I J hI y10 hLy10 hKy10 p2 ⟨by omega, by omega⟩) (cwV 1 hts (gV pq1077 pq1078 pq1079 pq79 pq1080) rfl rfl rfl (by decide +kernel) ⟨(by rw [hR]; exact (Nat.le_of_ble_eq_true rfl)), (by rw [hR]; exact (Nat.le_of_ble_eq_true rfl))⟩) (sP_V hP hD hK hN hLy10 hKy10 rfl rfl) rfl rfl hl.1 rfl (lv_room (Nat.le_of_ble_eq_true rfl)) dX6_seen_25 ⟨(by rw [hR]; exact (Nat.le_of_ble_eq_true rfl)), (by rw [hR]; exact (Nat.le_of_ble_eq_true rfl))⟩) hS hP (fun z25 H locs hz25 hP hS => ?_)
      obtain ⟨bz25, xpz25⟩ := hz25
      refine lv_if_ne (tgt := 33) hx hb dX6_seen_28 (by decide) (fun c28 => ?_) (fun c28 => ?_)
      · have t28 := tq_ne (k := z25.toInt) (q := (0)) c28 rfl (by decide +kernel)
        refine lv_aload_n hx hb dX6_seen_33 rfl (lv_at hl 0 rfl) ?_
        refine p_get (v := .ref y10) hx hb hts inX6 hown hK hP hLp0 hKp0 rfl rfl 5 (by decide) (hts _ pq354) (congrArg (fun q => some (va_rf q)) ey10) dX6_seen_34 ?_
        refine lv_iload_n hx hb dX6_seen_37 rfl (lv_at hl 1 rfl) ?_
        refine ro_i (va_runV (As := [.int p1]) (rest := []) ⟨hx, hb, hml, hown, hts⟩ (s_X5_middleX l dC dI cs L K G Q hQ x0 m0 tx tm H.size I J hI y10 hLy10 hKy10 p1 ⟨by omega, by omega⟩) (cwV 1 hts (gV pq1081 pq1082 pq1083 pq79 pq1084) rfl rfl rfl (by decide +kernel) ⟨(by rw [hR]; exact (Nat.le_of_ble_eq_true rfl)), (by rw [hR]; exact (Nat.le_of_ble_eq_true rfl))⟩) (sP_V hP hD hK hN hLy10 hKy10 rfl rfl) rfl rfl hl.1 rfl (lv_room (Nat.le_of_ble_eq_true rfl)) dX6_seen_38 ⟨(by rw [hR]; exact (Nat.le_of_ble_eq_true rfl)), (by rw [hR]; exact (Nat.le_of_ble_eq_true rfl))⟩) hS hP (fun z38 H locs hz38 hP hS => ?_)
        obtain ⟨bz38, xpz38⟩ := hz38
        refine lv_istore_n (lv' := [(3, .int z38), (0, .ref p0), (1, .int p1), (2, .int p2)]) hx hb dX6_seen_41 rfl hl (by decide) rfl (fun ls hl => ?_)
        refine lv_aload_n hx hb dX6_seen_42 rfl (lv_at hl 1 rfl) ?_
        refine p_get (v := .ref y10) hx hb hts inX6 hown hK hP hLp0 hKp0 rfl rfl 5 (by decide) (hts _ pq354) (congrArg (fun q => some (va_rf q)) ey10) dX6_seen_43 ?_
        refine lv_iload_n hx hb dX6_seen_46 rfl (lv_at hl 2 rfl) ?_
        refine ro_i (va_runV (As := [.int p1]) (rest := []) ⟨hx, hb, hml, hown, hts⟩ (s_X5_middleY l dC dI cs L K G Q hQ x0 m0 tx tm H.size I J hI y10 hLy10 hKy10 p1 ⟨by omega, by omega⟩) (cwV 1 hts (gV pq1086 pq1087 pq1088 pq79 pq1089) rfl rfl rfl (by decide +kernel) ⟨(by rw [hR]; exact (Nat.le_of_ble_eq_true rfl)), (by rw [hR]; exact (Nat.le_of_ble_eq_true rfl))⟩) (sP_V hP hD hK hN hLy10 hKy10 rfl rfl) rfl rfl hl.1 rfl (lv_room (Nat.le_of_ble_eq_true rfl)) dX6_seen_47 ⟨(by rw [hR]; exact (Nat.le_of_ble_eq_true rfl)), (by rw [hR]; exact (Nat.le_of_ble_eq_true rfl))⟩) hS hP (fun z47 H locs hz47 hP hS => ?_)
        obtain ⟨bz47, xpz47⟩ := hz47
        refine lv_istore (lv' := [(4, .int z47), (3, .int z38), (0, .ref p0), (1, .int p1), (2, .int p2)]) hx hb dX6_seen_50 hl (by decide) rfl (fun ls hl => ?_)
        refine lv_aload_n hx hb dX6_seen_52 rfl (lv_at hl 2 rfl) ?_
        refine p_get (v := .ref y10) hx hb hts inX6 hown hK hP hLp0 hKp0 rfl rfl 5 (by decide) (hts _ pq354) (congrArg (fun q => some (va_rf q)) ey10) dX6_seen_53 ?_
        refine lv_iload_n hx hb dX6_seen_56 rfl (lv_at hl 4 rfl) ?_
        refine ro_i (va_runV (As := [.int p2]) (rest := []) ⟨hx, hb, hml, hown, hts⟩ (s_X5_middleX l dC dI cs L K G Q hQ x0 m0 tx tm H.size I J hI y10 hLy10 hKy10 p2 ⟨by omega, by omega⟩) (cwV 1 hts (gV pq1081 pq1082 pq1083 pq79 pq1084) rfl rfl rfl (by decide +kernel) ⟨(by rw [hR]; exact (Nat.le_of_ble_eq_true rfl)), (by rw [hR]; exact (Nat.le_of_ble_eq_true rfl))⟩) (sP_V hP hD hK hN hLy10 hKy10 rfl rfl) rfl rfl hl.1 rfl (lv_room (Nat.le_of_ble_eq_true rfl)) dX6_seen_57 ⟨(by rw [hR]; exact (Nat.le_of_ble_eq_true rfl)), (by rw [hR]; exact (Nat.le_of_ble_eq_true rfl))⟩) hS hP (fun z57 H locs hz57 hP hS => ?_)
        obtain ⟨bz57, xpz57⟩ := hz57
        refine lv_iload_n hx hb dX6_seen_60 rfl (lv_at hl 1 rfl) ?_
        refine lv_isub hx hb dX6_seen_61 ?_
        refine lv_topi (fun z61 ez61 => ?_)
        have bz61 := tq_sub (k := z57.toInt) (q := z38.toInt) ez61 rfl rfl (by omega) (by omega)
        refine lv_istore (lv' := [(5, .int z61), (4, .int z47), (3, .int z38), (0, .ref p0), (1, .int p1), (2, .int p2)]) hx hb dX6_seen_62 hl (by decide) rfl (fun ls hl => ?_)
        refine lv_aload_n hx hb dX6_seen_64 rfl (lv_at hl 3 rfl) ?_
        refine p_get (v := .ref y10) hx hb hts inX6 hown hK hP hLp0 hKp0 rfl rfl 5 (by decide) (hts _ pq354) (congrArg (fun q => some (va_rf q)) ey10) dX6_seen_65 ?_
        refine lv_iload_n hx hb dX6_seen_68 rfl (lv_at hl 5 rfl) ?_
        refine ro_i (va_runV (As := [.int p2]) (rest := []) ⟨hx, hb, hml, hown, hts⟩ (s_X5_middleY l dC dI cs L K G Q hQ x0 m0 tx tm H.size I J hI y10 hLy10 hKy10 p2 ⟨by omega, by omega⟩) (cwV 1 hts (gV pq1086 pq1087 pq1088 pq79 pq1089) rfl rfl rfl (by decide +kernel) ⟨(by rw [hR]; exact (Nat.le_of_ble_eq_true rfl)), (by rw [hR]; exact (Nat.le_of_ble_eq_true rfl))⟩) (sP_V hP hD hK hN hLy10 hKy10 rfl rfl) rfl rfl hl.1 rfl (lv_room (Nat.le_of_ble_eq_true rfl)) dX6_seen_69 ⟨(by rw [hR]; exact (Nat.le_of_ble_eq_true rfl)), (by rw [hR]; exact (Nat.le_of_ble_eq_true rfl))⟩) hS hP (fun z69 H locs hz69 hP hS => ?_)
        obtain ⟨bz69, xpz69⟩ := hz69
        refine lv_iload hx hb dX6_seen_72 (lv_at hl 1 rfl) ?_
        refine lv_isub hx hb dX6_seen_74 ?_
        refine lv_topi (fun z74 ez74 => ?_)
        have bz74 := tq_sub (k := z69.toInt) (q := z47.toInt) ez74 rfl rfl (by omega) (by omega)
        refine lv_istore (lv' := [(6, .int z74), (5, .int z61), (4, .int z47), (3, .int z38), (0, .ref p0), (1, .int p1), (2, .int p2)]) hx hb dX6_seen_75 hl (by decide) rfl (fun ls hl => ?_)
        refine lv_iload hx hb dX6_seen_77 (lv_at hl 1 rfl) ?_
        refine lv_iload hx hb dX6_seen_79 (lv_at hl 0 rfl) ?_
        refine ro_i (va_runS (As := [.int z61, .int z74]) (rest := []) ⟨hx, hb, hml, hown, hts⟩ (s_X6_wayLengthL l dC dI cs L K G Q hQ x0 m0 tx tm H.size I J hI z61 ⟨by omega, by omega⟩ z74 ⟨by omega, by omega⟩) (va_cwS 2 hts (gS pq797 pq744 pq74 pq745) rfl rfl rfl (by decide +kernel) ⟨(by rw [hR]; exact (Nat.le_of_ble_eq_true rfl)), (by rw [hR]; exact (Nat.le_of_ble_eq_true rfl))⟩) (sP_S hP hD hK hN) rfl rfl hl.1 rfl (lv_room (Nat.le_of_ble_eq_true rfl)) dX6_seen_81 ⟨(by rw [hR]; exact (Nat.le_of_ble_eq_true rfl)), (by rw [hR]; exact (Nat.le_of_ble_eq_true rfl))⟩) hS hP (fun z81 H locs hz81 hP hS => ?_)
        obtain ⟨bz81, xpz81⟩ := hz81
        refine lv_istore (lv' := [(7, .int z81), (6, .int z74), (5, .int z61), (4, .int z47), (3, .int z38), (0, .ref p0), (1, .int p1), (2, .int p2)]) hx hb dX6_seen_84 hl (by decide) rfl (fun ls hl => ?_)
        refine lv_iconst (v := 0) hx hb dX6_seen_86 (by decide +kernel) ?_
        refine lv_istore (lv' := [(8, .int 0), (7, .int z81), (6, .int z74), (5, .int z61), (4, .int z47), (3, .int z38), (0, .ref p0), (1, .int p1), (2, .int p2)]) hx hb dX6_seen_87 hl (by decide) rfl (fun ls hl => ?_)
        refine lv_iconst (v := 0) hx hb dX6_seen_89 (by decide +kernel) ?_
        refine lv_istore (lv' := [(9, .int 0), (8, .int 0), (7, .int z81), (6, .int z74), (5, .int z61), (4, .int z47), (3, .int z38), (0, .ref p0), (1, .int p1), (2, .int p2)]) hx hb dX6_seen_90 hl (by decide) rfl (fun ls hl => ?_)
        have key92 := blocks (fun n => ∀ (v92_8 : Int32) (v92_9 : Int32) (H : Heap) (lo : List Loc) (ls : Array Slot), (2147483648 - v92_9.toInt).toNat = n → 0 ≤ v92_9.toInt ∧ v92_9.toInt ≤ z81.toInt + 1 → (∀ σ : Sx, cxA Q I J p0 σ → ∀ e f, exD (atD σ.1 p1.toInt.toNat) e → exD (atD σ.1 p2.toInt.toNat) f → v92_8.toInt = nK (snP σ.1 p1.toInt.toNat p2.toInt.toNat e f) v92_9.toInt.toNat) → va_P (dC, dI) vwCl (Wd cs L K I J Q) H → va_S (fun _ => False) s.heap H lo → lv_has ls 10 [(0, .ref p0), (1, .int p1), (2, .int p2), (3, .int z38), (4, .int z47), (5, .int z61), (6, .int z74), (7, .int z81), (8, .int v92_8), (9, .int v92_9)] → W p l e R s m (([.ref p0, .int p1, .int p2] : List Value).toArray) below meth c H lo 0 0 Qz (F0 m 92 ls [])) (by
          intro n ih92
          intro v92_8 v92_9 H lo ls hmu92 hk92 g92 hP hS hl
          refine lv_iload hx hb dX6_seen_92 (lv_at hl 9 rfl) ?_
          refine lv_iload hx hb dX6_seen_94 (lv_at hl 7 rfl) ?_
          refine lv_icmp_gt (tgt := 143) hx hb dX6_seen_96 (by decide) (fun c96 => ?_) (fun c96 => ?_)
          · have t96 := tq_lt (k := z81.toInt) (q := v92_9.toInt) c96 rfl rfl
            refine lv_iload hx hb dX6_seen_143 (lv_at hl 8 rfl) ?_
            subst hR; subst hQz
            exact W.iret (v := v92_8) hx hb hr (fun t ht hW => ⟨⟨v92_8, (), rfl, (fun σ h => by have T := cxA_tg h; rw [show se Q p0 = y10 from gd_of ey10] at T; have t := xpz3.mp t6; rw [cx_1 h] at t; exact ⟨fun _ e f he hf => (by have T := cxA_tg h; rw [show se Q p0 = y10 from gd_of ey10] at T; have t := xpz3.mp t6; rw [cx_1 h] at t; have x38 : z38.toInt = mdX e := xpz38 σ.1 T.1 T.2.1 T.2.2 (show p1.toInt.toNat < _ by omega) e he; have x47 : z47.toInt = mdY e := xpz47 σ.1 T.1 T.2.1 T.2.2 (show p1.toInt.toNat < _ by omega) e he; have x57 : z57.toInt = mdX f := xpz57 σ.1 T.1 T.2.1 T.2.2 (show p2.toInt.toNat < _ by omega) f hf; have x69 : z69.toInt = mdY f := xpz69 σ.1 T.1 T.2.1 T.2.2 (show p2.toInt.toNat < _ by omega) f hf; have B1 := ex_bd T.1 (show p1.toInt.toNat < _ by omega) he; have B2 := ex_bd T.1 (show p2.toInt.toNat < _ by omega) hf; have d61 : z61.toInt = mdX f - mdX e := (by omega); have d74 : z74.toInt = mdY f - mdY e := (by omega); have n81 : z81.toInt = snD e f := (by rw [xpz81, d61, d74]; rfl); have nb : 0 ≤ z81.toInt ∧ z81.toInt ≤ 2200 := (by rw [n81]; unfold snD stI; omega); have g := g92 σ h e f he hf; rw [show v92_9.toInt = snD e f + 1 by omega] at g; exact g), fun q => absurd ⟨t, (xpz14 σ.1 T.1 T.2.1 T.2.2 (show p1.toInt.toNat < _ by omega)).mp t17, (xpz25 σ.1 T.1 T.2.1 T.2.2 (show p2.toInt.toNat < _ by omega)).mp t28⟩ q⟩), trivial⟩, hS.F ht⟩) hS.2.2 dX6_seen_145
          · have t96 := tq_nlt (k := z81.toInt) (q := v92_9.toInt) c96 rfl rfl
            refine lv_aload_n hx hb dX6_seen_99 rfl (lv_at hl 0 rfl) ?_
            refine p_get (v := .ref y10) hx hb hts inX6 hown hK hP hLp0 hKp0 rfl rfl 5 (by decide) (hts _ pq354) (congrArg (fun q => some (va_rf q)) ey10) dX6_seen_100 ?_
            refine lv_iload_n hx hb dX6_seen_103 rfl (lv_at hl 1 rfl) ?_
            refine lv_iload_n hx hb dX6_seen_104 rfl (lv_at hl 2 rfl) ?_
            refine lv_iload_n hx hb dX6_seen_105 rfl (lv_at hl 3 rfl) ?_
            refine lv_iload hx hb dX6_seen_106 (lv_at hl 9 rfl) ?_
            refine lv_iload hx hb dX6_seen_108 (lv_at hl 5 rfl) ?_
            refine lv_iload hx hb dX6_seen_110 (lv_at hl 7 rfl) ?_
            refine ro_i (va_runS (As := [.int v92_9, .int z61, .int z81]) (rest := [.int z38, .int p2, .int p1, .ref y10]) ⟨hx, hb, hml, hown, hts⟩ (s_X6_wayPart l dC dI cs L K G Q hQ x0 m0 tx tm H.size I J hI v92_9 z61 z81 ⟨by omega, by omega⟩) (va_cwS 3 hts (gS pq798 pq779 pq74 pq780) rfl rfl rfl (by decide +kernel) ⟨(by rw [hR]; exact (Nat.le_of_ble_eq_true rfl)), (by rw [hR]; exact (Nat.le_of_ble_eq_true rfl))⟩) (sP_S hP hD hK hN) rfl rfl hl.1 rfl (lv_room (Nat.le_of_ble_eq_true rfl)) dX6_seen_112 ⟨(by rw [hR]; exact (Nat.le_of_ble_eq_true rfl)), (by rw [hR]; exact (Nat.le_of_ble_eq_true rfl))⟩) hS hP (fun z112 H locs hz112 hP hS => ?_)
            have xpz112 := hz112
            refine lv_iadd hx hb dX6_seen_115 ?_
            refine lv_topi (fun z115 ez115 => ?_)
            refine lv_iload hx hb dX6_seen_116 (lv_at hl 4 rfl) ?_
            refine lv_iload hx hb dX6_seen_118 (lv_at hl 9 rfl) ?_
            refine lv_iload hx hb dX6_seen_120 (lv_at hl 6 rfl) ?_
            refine lv_iload hx hb dX6_seen_122 (lv_at hl 7 rfl) ?_
            refine ro_i (va_runS (As := [.int v92_9, .int z74, .int z81]) (rest := [.int z47, .int z115, .int p2, .int p1, .ref y10]) ⟨hx, hb, hml, hown, hts⟩ (s_X6_wayPart l dC dI cs L K G Q hQ x0 m0 tx tm H.size I J hI v92_9 z74 z81 ⟨by omega, by omega⟩) (va_cwS 3 hts (gS pq798 pq779 pq74 pq780) rfl rfl rfl (by decide +kernel) ⟨(by rw [hR]; exact (Nat.le_of_ble_eq_true rfl)), (by rw [hR]; exact (Nat.le_of_ble_eq_true rfl))⟩) (sP_S hP hD hK hN) rfl rfl hl.1 rfl (lv_room (Nat.le_of_ble_eq_true rfl)) dX6_seen_124 ⟨(by rw [hR]; exact (Nat.le_of_ble_eq_true rfl)), (by rw [hR]; exact (Nat.le_of_ble_eq_true rfl))⟩) hS hP (fun z124 H locs hz124 hP hS => ?_)
            have xpz124 := hz124
            refine lv_iadd hx hb dX6_seen_127 ?_
            refine lv_topi (fun z127 ez127 => ?_)
            refine ro_i (va_runV (As := [.int p1, .int p2, .int z115, .int z127]) (rest := []) ⟨hx, hb, hml, hown, hts⟩ (s_X5_thirdCovers l dC dI cs L K G Q hQ x0 m0 tx tm H.size I J hI y10 hLy10 hKy10 p1 p2 z115 z127) (cwV 4 hts (gV pq1090 pq1091 pq1092 pq79 pq1093) rfl rfl rfl (by decide +kernel) ⟨(by rw [hR]; exact (Nat.le_of_ble_eq_true rfl)), (by rw [hR]; exact (Nat.le_of_ble_eq_true rfl))⟩) (sP_V hP hD hK hN hLy10 hKy10 rfl rfl) rfl rfl hl.1 rfl (lv_room (Nat.le_of_ble_eq_true rfl)) dX6_seen_128 ⟨(by rw [hR]; exact (Nat.le_of_ble_eq_true rfl)), (by rw [hR]; exact (Nat.le_of_ble_eq_true rfl))⟩) hS hP (fun z128 H locs hz128 hP hS => ?_)
            obtain ⟨bz128, xpz128⟩ := hz128
            have j137 : ∀ (v137_8 : Int32) (H : Heap) (lo : List Loc) (ls : Array Slot), (∀ σ : Sx, cxA Q I J p0 σ → ∀ e f, exD (atD σ.1 p1.toInt.toNat) e → exD (atD σ.1 p2.toInt.toNat) f → v137_8.toInt = nK (snP σ.1 p1.toInt.toNat p2.toInt.toNat e f) (v92_9.toInt + 1).toNat) → va_P (dC, dI) vwCl (Wd cs L K I J Q) H → va_S (fun _ => False) s.heap H lo → lv_has ls 10 [(0, .ref p0), (1, .int p1), (2, .int p2), (3, .int z38), (4, .int z47), (5, .int z61), (6, .int z74), (7, .int z81), (8, .int v137_8), (9, .int v92_9)] → W p l e R s m (([.ref p0, .int p1, .int p2] : List Value).toArray) below meth c H lo 0 0 Qz (F0 m 137 ls []) := by
              intro v137_8 H lo ls g137 hP hS hl
              obtain ⟨z137, ez137⟩ : ∃ y : Int32, y = v92_9 + 1 := ⟨_, rfl⟩
              refine lv_iinc (v := z137) (lv' := [(9, .int z137), (0, .ref p0), (1, .int p1), (2, .int p2), (3, .int z38), (4, .int z47), (5, .int z61), (6, .int z74), (7, .int z81), (8, .int v137_8)]) hx hb dX6_seen_137 hl (k := 9) rfl (by rw [ez137]; rfl) (by decide) rfl (fun ls hl => ?_)
              have rg137v92_9 := fb_rng v92_9
              have bz137 := tq_add (k := v92_9.toInt) (q := 1) ez137 rfl (by decide +kernel) (by omega) (by omega)
              refine lv_goto (tgt := 92) hx hb dX6_seen_140 (by decide) ?_
              exact ih92 _ (by omega) v137_8 z137 _ _ _ rfl (by omega) (fun σ h e f he hf => by have q := g137 σ h e f he hf; rw [show z137.toInt = v92_9.toInt + 1 by omega]; exact q) hP hS (lv_sub hl [1, 2, 3, 4, 5, 6, 7, 8, 9, 0] rfl)
            refine lv_if_eq (tgt := 137) hx hb dX6_seen_131 (by decide) (fun c131 => ?_) (fun c131 => ?_)
            · have t131 := tq_eq (k := z128.toInt) (q := (0)) c131 rfl (by decide +kernel)
              exact j137 v92_8 _ _ _ (fun σ h e f he hf => by have T := cxA_tg h; rw [show se Q p0 = y10 from gd_of ey10] at T; have t := xpz3.mp t6; rw [cx_1 h] at t; have x38 : z38.toInt = mdX e := xpz38 σ.1 T.1 T.2.1 T.2.2 (show p1.toInt.toNat < _ by omega) e he; have x47 : z47.toInt = mdY e := xpz47 σ.1 T.1 T.2.1 T.2.2 (show p1.toInt.toNat < _ by omega) e he; have x57 : z57.toInt = mdX f := xpz57 σ.1 T.1 T.2.1 T.2.2 (show p2.toInt.toNat < _ by omega) f hf; have x69 : z69.toInt = mdY f := xpz69 σ.1 T.1 T.2.1 T.2.2 (show p2.toInt.toNat < _ by omega) f hf; have B1 := ex_bd T.1 (show p1.toInt.toNat < _ by omega) he; have B2 := ex_bd T.1 (show p2.toInt.toNat < _ by omega) hf; have d61 : z61.toInt = mdX f - mdX e := (by omega); have d74 : z74.toInt = mdY f - mdY e := (by omega); have n81 : z81.toInt = snD e f := (by rw [xpz81, d61, d74]; rfl); have nb : 0 ≤ z81.toInt ∧ z81.toInt ≤ 2200 := (by rw [n81]; unfold snD stI; omega); have x112 := xpz112 (by omega) (by omega) (by omega) ⟨by omega, by omega⟩; have x124 := xpz124 (by omega) (by omega) (by omega) ⟨by omega, by omega⟩; have i112 := x112.1; have i124 := x124.1; rw [d61, n81] at i112; rw [d74, n81] at i124; have s115 : z115 = snX e f v92_9.toInt := ry_of (tq_add ez115 x38 i112 (by omega) (by omega)); have s127 : z127 = snY e f v92_9.toInt := ry_of (tq_add ez127 x47 i124 (by omega) (by omega)); have w := xpz128 σ.1 T.1 T.2.1 T.2.2 (by omega) (by omega); rw [s115, s127] at w; have g := g92 σ h e f he hf; exact g.trans (nK_no (by omega) rfl (fun p => (w.mpr p) t131)).symm) hP hS (lv_sub hl [0, 1, 2, 3, 4, 5, 6, 7, 8, 9] rfl)
            · have t131 := tq_ne (k := z128.toInt) (q := (0)) c131 rfl (by decide +kernel)
              obtain ⟨z134, ez134⟩ : ∃ y : Int32, y = v92_8 + 1 := ⟨_, rfl⟩
              refine lv_iinc (v := z134) (lv' := [(8, .int z134), (0, .ref p0), (1, .int p1), (2, .int p2), (3, .int z38), (4, .int z47), (5, .int z61), (6, .int z74), (7, .int z81), (9, .int v92_9)]) hx hb dX6_seen_134 hl (k := 8) rfl (by rw [ez134]; rfl) (by decide) rfl (fun ls hl => ?_)
              exact j137 z134 _ _ _ (fun σ h e f he hf => by have T := cxA_tg h; rw [show se Q p0 = y10 from gd_of ey10] at T; have t := xpz3.mp t6; rw [cx_1 h] at t; have x38 : z38.toInt = mdX e := xpz38 σ.1 T.1 T.2.1 T.2.2 (show p1.toInt.toNat < _ by omega) e he; have x47 : z47.toInt = mdY e := xpz47 σ.1 T.1 T.2.1 T.2.2 (show p1.toInt.toNat < _ by omega) e he; have x57 : z57.toInt = mdX f := xpz57 σ.1 T.1 T.2.1 T.2.2 (show p2.toInt.toNat < _ by omega) f hf; have x69 : z69.toInt = mdY f := xpz69 σ.1 T.1 T.2.1 T.2.2 (show p2.toInt.toNat < _ by omega) f hf; have B1 := ex_bd T.1 (show p1.toInt.toNat < _ by omega) he; have B2 := ex_bd T.1 (show p2.toInt.toNat < _ by omega) hf; have d61 : z61.toInt = mdX f - mdX e := (by omega); have d74 : z74.toInt = mdY f - mdY e := (by omega); have n81 : z81.toInt = snD e f := (by rw [xpz81, d61, d74]; rfl); have nb : 0 ≤ z81.toInt ∧ z81.toInt ≤ 2200 := (by rw [n81]; unfold snD stI; omega); have x112 := xpz112 (by omega) (by omega) (by omega) ⟨by omega, by omega⟩; have x124 := xpz124 (by omega) (by omega) (by omega) ⟨by omega, by omega⟩; have i112 := x112.1; have i124 := x124.1; rw [d61, n81] at i112; rw [d74, n81] at i124; have s115 : z115 = snX e f v92_9.toInt := ry_of (tq_add ez115 x38 i112 (by omega) (by omega)); have s127 : z127 = snY e f v92_9.toInt := ry_of (tq_add ez127 x47 i124 (by omega) (by omega)); have w := xpz128 σ.1 T.1 T.2.1 T.2.2 (by omega) (by omega); rw [s115, s127] at w; have g := g92 σ h e f he hf; have b := nK_b (snP σ.1 p1.toInt.toNat p2.toInt.toNat e f) v92_9.toInt.toNat; have a := tq_add (k := v92_8.toInt) (q := 1) ez134 rfl (by decide +kernel) (by omega) (by omega); rw [a, g]; exact (nK_yes (by omega) rfl (w.mp t131)).symm) hP hS (lv_sub hl [1, 2, 3, 4, 5, 6, 7, 8, 0, 9] rfl))
        exact key92 _ 0 0 _ _ _ rfl ⟨by decide +kernel, by rw [show (0 : Int32).toInt = 0 from by decide +kernel]; omega⟩ (fun σ h e f he hf => (show (0 : Int32).toInt = 0 by decide +kernel).trans (nK_0 (by decide +kernel)).symm) hP hS (lv_sub hl [7, 8, 9, 6, 5, 4, 3, 2, 1, 0] rfl)
      · have t28 := tq_eq (k := z25.toInt) (q := (0)) c28 rfl (by decide +kernel)
        refine lv_iconst (v := (-1)) hx hb dX6_seen_31 (by decide +kernel) ?_
        subst hR; subst hQz
        exact W.iret (v := (-1)) hx hb hr (fun t ht hW => ⟨⟨(-1), (), rfl, (fun σ h => by refine ⟨fun w => ?_, fun _ => by decide +kernel⟩; exfalso; obtain ⟨w1, w2, w3⟩ := w; unfold twV at w1; first | (rw [← cx_1 h] at w1; exact (xpz3.mpr w1) t6) | (have T := cxA_tg h; rw [show se Q p0 = y10 from gd_of ey10] at T; exact ((xpz14 σ.1 T.1 T.2.1 T.2.2 (show p1.toInt.toNat < _ by omega)).mpr w2) t17) | (have T := cxA_tg h; rw [show se Q p0 = y10 from gd_of ey10] at T; exact ((xpz25 σ.1 T.1 T.2.1 T.2.2 (show p2.toInt.toNat < _ by omega)).mpr w3) t28)), trivial⟩, hS.F ht⟩) hS.2.2 dX6_seen_32

set_option maxHeartbeats 4000000 in
set_option maxRecDepth 100000 in
theorem s_X6_digest (l : Launch) (dC : Nat → ClassId) (dI : Nat → Nat → Nat) (cs : Nat → ClassId) (L : List Nat) (K G : Nat → Nat) (Q : Nat → Nat → Option Nat) (hQ : Sv L K G Q) (x0 m0 : Nat) (tx : GT) (tm : GT × Int) (sz : Nat) (I : Nat → Nat → Int32) (J : Nat → Nat → Int64) (hI : Iv L K x0 m0 tx tm I) (p0 : Nat) (hLp0 : p0 ∈ L) (hKp0 : K p0 = 6) : Met l yX6_digest (.code yX6_digest cX6_digest 6 (some .long) :: pw) ({ frames := 1, cells := 0, slots := 0, locals := 21 }) (sP (dC, dI) cs [.ref p0] sz L K I J Q) (va_Ql (fun (r : Int64) (_ : Unit) => (∀ σ : Sx, cxA Q I J p0 σ → r = dgR σ)) (fun _ _ => True) (fun _ => False)) 0 0 (fun _ => False) := by
  refine Met.ofW (cc := cX6_digest) (maxL := 6) (ret := (some .long)) (by decide +kernel) rfl ?_
  intro p e s m args below meth c s₁ B hml hv
  obtain ⟨rfl, hsz, hP, hK, hD0, hN⟩ := hv
  have hx := B.exec
  have hb := B.bytes
  have hr := B.returns
  have hts := fun w (h : w ∈ pw) => atoms_spec (ws := Cond.code yX6_digest cX6_digest 6 (some .long) :: pw) B.pre w (List.mem_cons_of_mem _ h)
  have hown : s.vm.findClass RX6 = some m.cls := findClass_of_methodNamed B.named
  have hlocks := B.notSynchronized
  subst hsz
  have hBB : 999 ≤ tm.2 ∧ tm.2 ≤ 6000000 := hI.2.2.2.2.1
  have hD := hD0
  obtain ⟨H, hHe⟩ : ∃ H : Heap, H = s.heap := ⟨_, rfl⟩
  have hS : va_S (fun _ => False) s.heap H [] := by rw [hHe]; exact va_S.rf
  rw [← hHe] at hP
  have hl := lv_entry ([.ref p0]) (n := 6) (Nat.le_of_ble_eq_true rfl)
  rw [lg_entry_eq]
  generalize (lg_sl ([.ref p0]) ++ List.replicate (6 - (lg_sl ([.ref p0])).length) Slot.unset).toArray = ls at hl ⊢
  have hl : lv_has ls 6 [(0, .ref p0)] := hl
  rw [← hHe]
  refine namedW (fun R Qz hR hQz => ?_)
  refine lv_ldc2 hx hb hown (hts _ pq1099) dX6_digest_0 ?_
  refine lv_lstore_n (lv' := [(1, .long 17), (0, .ref p0)]) hx hb dX6_digest_3 rfl hl (by decide) rfl (fun ls hl => ?_)
  refine lv_iconst (v := 0) hx hb dX6_digest_4 (by decide +kernel) ?_
  refine lv_istore_n (lv' := [(3, .int 0), (1, .long 17), (0, .ref p0)]) hx hb dX6_digest_5 rfl hl (by decide) rfl (fun ls hl => ?_)
  have key6 := blocks (fun n => ∀ (v6_1 : Int64) (v6_3 : Int32) (H : Heap) (lo : List Loc) (ls : Array Slot), (11 - v6_3.toInt).toNat = n → ((0) ≤ v6_3.toInt ∧ v6_3.toInt ≤ 10) → (∀ σ : Sx, cxA Q I J p0 σ → v6_1 = dgB σ.1 v6_3.toInt.toNat ∧ (v6_3.toInt ≤ (σ.1.1 1).toInt ∨ v6_3.toInt = 0)) → va_P (dC, dI) vwCl (Wd cs L K I J Q) H → va_S (fun _ => False) s.heap H lo → lv_has ls 6 [(0, .ref p0), (1, .long v6_1), (3, .int v6_3)] → W p l e R s m (([.ref p0] : List Value).toArray) below meth c H lo 0 0 Qz (F0 m 6 ls [])) (by
    intro n ih6
    intro v6_1 v6_3 H lo ls hmu6 bv6_3 g6 hP hS hl
    refine lv_iload_n hx hb dX6_digest_6 rfl (lv_at hl 2 rfl) ?_
    refine lv_aload_n hx hb dX6_digest_7 rfl (lv_at hl 0 rfl) ?_
    obtain ⟨y8, ey8, hLy8, hKy8, hGy8⟩ := oQ_6_2 (Sv_at hQ hLp0 hKp0)
    refine p_get (v := .ref y8) hx hb hts inX6 hown hK hP hLp0 hKp0 rfl rfl 2 (by decide) (hts _ pq351) (congrArg (fun q => some (va_rf q)) ey8) dX6_digest_8 ?_
    refine p_get hx hb hts inX1 hown hK hP hLy8 hKy8 rfl rfl 3 (by decide) (hts _ pq226) rfl dX6_digest_11 ?_
    refine lv_topi (fun z11 ez11 => ?_)
    have cgz11 := congrArg Int32.toInt ez11
    have bz11 := oI_1_3 (Iv_at hI hLy8 hKy8)
    rw [← ez11] at bz11
    refine lv_icmp_ge (tgt := 61) hx hb dX6_digest_14 (by decide) (fun c14 => ?_) (fun c14 => ?_)
    · have t14 := tq_le (k := z11.toInt) (q := v6_3.toInt) c14 rfl rfl
      refine lv_iconst (v := 0) hx hb dX6_digest_61 (by decide +kernel) ?_
      refine lv_istore_n (lv' := [(3, .int 0), (0, .ref p0), (1, .long v6_1)]) hx hb dX6_digest_62 rfl hl (by decide) rfl (fun ls hl => ?_)
      have key63 := blocks (fun n => ∀ (v63_1 : Int64) (v63_3 : Int32) (H : Heap) (lo : List Loc) (ls : Array Slot), (9 - v63_3.toInt).toNat = n → ((0) ≤ v63_3.toInt ∧ v63_3.toInt ≤ 8) → (∀ σ : Sx, cxA Q I J p0 σ → v63_1 = dgM σ.1 v63_3.toInt.toNat (dgB σ.1 (σ.1.1 1).toInt.toNat) ∧ (v63_3.toInt ≤ (σ.1.1 0).toInt ∨ v63_3.toInt = 0)) → va_P (dC, dI) vwCl (Wd cs L K I J Q) H → va_S (fun _ => False) s.heap H lo → lv_has ls 6 [(0, .ref p0), (1, .long v63_1), (3, .int v63_3)] → W p l e R s m (([.ref p0] : List Value).toArray) below meth c H lo 0 0 Qz (F0 m 63 ls [])) (by
        intro n ih63
        intro v63_1 v63_3 H lo ls hmu63 bv63_3 g63 hP hS hl
        refine lv_iload_n hx hb dX6_digest_63 rfl (lv_at hl 2 rfl) ?_
        refine lv_aload_n hx hb dX6_digest_64 rfl (lv_at hl 0 rfl) ?_
        refine p_get (v := .ref y8) hx hb hts inX6 hown hK hP hLp0 hKp0 rfl rfl 2 (by decide) (hts _ pq351) (congrArg (fun q => some (va_rf q)) ey8) dX6_digest_65 ?_
        refine p_get hx hb hts inX1 hown hK hP hLy8 hKy8 rfl rfl 2 (by decide) (hts _ pq223) rfl dX6_digest_68 ?_
        refine lv_topi (fun z68 ez68 => ?_)
        have bz68 := oI_1_2 (Iv_at hI hLy8 hKy8)
        rw [← ez68] at bz68
        refine lv_icmp_ge (tgt := 127) hx hb dX6_digest_71 (by decide) (fun c71 => ?_) (fun c71 => ?_)
        · have t71 := tq_le (k := z68.toInt) (q := v63_3.toInt) c71 rfl rfl
          refine lv_lload_n hx hb dX6_digest_127 rfl (lv_at hl 1 rfl) ?_
          subst hR; subst hQz
          exact W.lret (v := v63_1) hx hb hr (fun t ht hW => ⟨⟨v63_1, (), rfl, (fun σ h => by have e68 := congrArg Int32.toInt (ez68.trans (show I y8 2 = σ.1.1 0 by rw [show y8 = an Q p0 from (gd_of ey8).symm]; exact cx_0 h)); have g := g63 σ h; rw [g.1, show v63_3.toInt.toNat = (σ.1.1 0).toInt.toNat by omega]; rfl), trivial⟩, hS.F ht⟩) hS.2.2 dX6_digest_128
        · have t71 := tq_nle (k := z68.toInt) (q := v63_3.toInt) c71 rfl rfl
          refine lv_aload_n hx hb dX6_digest_74 rfl (lv_at hl 0 rfl) ?_
          refine p_get (v := .ref y8) hx hb hts inX6 hown hK hP hLp0 hKp0 rfl rfl 2 (by decide) (hts _ pq351) (congrArg (fun q => some (va_rf q)) ey8) dX6_digest_75 ?_
          obtain ⟨y78, ey78, hLy78, hKy78, hGy78⟩ := oQ_1_0 (Sv_at hQ hLy8 hKy8)
          refine p_get (v := .ref y78) hx hb hts inX1 hown hK hP hLy8 hKy8 rfl rfl 0 (by decide) (hts _ pq216) (congrArg (fun q => some (va_rf q)) ey78) dX6_digest_78 ?_
          refine lv_iload_n hx hb dX6_digest_81 rfl (lv_at hl 2 rfl) ?_
          obtain ⟨y82, ey82, hLy82, hKy82, hGy82⟩ := (Sv_at hQ hLy78 hKy78).1 v63_3.toNatClampNeg (clamp_lt (n := 8) (in_of (by omega) (by omega)))
          have hjy82 : v63_3.toNatClampNeg < 8 := clamp_lt (i := v63_3) (n := 8) (in_of (by omega) (by omega))
          refine p_aaldR hx hb hK hP 3 hLy78 hKy78 rfl rfl (in_of (by omega) (by omega)) ey82 dX6_digest_82 ?_
          refine lv_astore (lv' := [(4, .ref y82), (0, .ref p0), (1, .long v63_1), (3, .int v63_3)]) hx hb dX6_digest_83 hl (by decide) rfl (fun ls hl => ?_)
          refine lv_iconst (v := 0) hx hb dX6_digest_85 (by decide +kernel) ?_
          refine lv_istore (lv' := [(5, .int 0), (4, .ref y82), (0, .ref p0), (1, .long v63_1), (3, .int v63_3)]) hx hb dX6_digest_86 hl (by decide) rfl (fun ls hl => ?_)
          have key88 := blocks (fun n => ∀ (v88_1 : Int64) (v88_5 : Int32) (H : Heap) (lo : List Loc) (ls : Array Slot), (81 - v88_5.toInt).toNat = n → ((0) ≤ v88_5.toInt ∧ v88_5.toInt ≤ 80) → (∀ σ : Sx, cxA Q I J p0 σ → v88_1 = dgW σ.1 v63_3.toInt.toNat v88_5.toInt.toNat (dgM σ.1 v63_3.toInt.toNat (dgB σ.1 (σ.1.1 1).toInt.toNat)) ∧ (v88_5.toInt ≤ 2 * (σ.1.1 (11 + v63_3.toInt.toNat)).toInt ∨ v88_5.toInt = 0)) → va_P (dC, dI) vwCl (Wd cs L K I J Q) H → va_S (fun _ => False) s.heap H lo → lv_has ls 6 [(0, .ref p0), (1, .long v88_1), (3, .int v63_3), (4, .ref y82), (5, .int v88_5)] → W p l e R s m (([.ref p0] : List Value).toArray) below meth c H lo 0 0 Qz (F0 m 88 ls [])) (by
            intro n ih88
            intro v88_1 v88_5 H lo ls hmu88 bv88_5 g88 hP hS hl
            refine lv_iload hx hb dX6_digest_88 (lv_at hl 4 rfl) ?_
            refine lv_iconst (v := 2) hx hb dX6_digest_90 (by decide +kernel) ?_
            refine lv_aload hx hb dX6_digest_91 (lv_at hl 3 rfl) ?_
            refine p_get hx hb hts inX3 hown hK hP hLy82 hKy82 rfl rfl 1 (by decide) (hts _ pq123) rfl dX6_digest_93 ?_
            refine lv_topi (fun z93 ez93 => ?_)
            have bz93 := oI_3_1 (Iv_at hI hLy82 hKy82)
            rw [← ez93] at bz93
            refine lv_imul hx hb dX6_digest_96 ?_
            refine lv_topi (fun z96 ez96 => ?_)
            have bz96 := tq_mul (k := (2)) (q := z93.toInt) ez96 (by decide +kernel) rfl (by omega) (by omega)
            refine lv_icmp_ge (tgt := 121) hx hb dX6_digest_97 (by decide) (fun c97 => ?_) (fun c97 => ?_)
            · have t97 := tq_le (k := z96.toInt) (q := v88_5.toInt) c97 rfl rfl
              obtain ⟨z121, ez121⟩ : ∃ y : Int32, y = v63_3 + 1 := ⟨_, rfl⟩
              refine lv_iinc (v := z121) (lv' := [(3, .int z121), (0, .ref p0), (1, .long v88_1), (4, .ref y82), (5, .int v88_5)]) hx hb dX6_digest_121 hl (k := 2) rfl (by rw [ez121]; rfl) (by decide) rfl (fun ls hl => ?_)
              have bz121 := tq_add (k := v63_3.toInt) (q := 1) ez121 rfl (by decide +kernel) (by omega) (by omega)
              refine lv_goto (tgt := 63) hx hb dX6_digest_124 (by decide) ?_
              exact ih63 _ (by omega) v88_1 z121 _ _ _ rfl ⟨by omega, by omega⟩ (fun σ h => by have e68 := congrArg Int32.toInt (ez68.trans (show I y8 2 = σ.1.1 0 by rw [show y8 = an Q p0 from (gd_of ey8).symm]; exact cx_0 h)); have cM := (h.1.1.2.2.2.2.1 v63_3.toInt.toNat (by omega)).2.1; rw [show fm Q (an Q p0) v63_3.toInt.toNat = y82 from (by rw [show an Q p0 = y8 from gd_of ey8]; exact fm_of ey78 ey82)] at cM; have e93 := congrArg Int32.toInt (ez93.trans cM); have g := g88 σ h; exact ⟨by rw [dg_M (show z121.toInt.toNat = v63_3.toInt.toNat + 1 by omega), g.1, show v88_5.toInt.toNat = 2 * (σ.1.1 (11 + v63_3.toInt.toNat)).toInt.toNat by omega], Or.inl (by omega)⟩) hP hS (lv_sub hl [1, 2, 0] rfl)
            · have t97 := tq_nle (k := z96.toInt) (q := v88_5.toInt) c97 rfl rfl
              refine lv_ldc2 hx hb hown (hts _ pq1100) dX6_digest_100 ?_
              refine lv_lload_n hx hb dX6_digest_103 rfl (lv_at hl 1 rfl) ?_
              refine lv_lmul hx hb dX6_digest_104 ?_
              refine lv_topl (fun z104 ez104 => ?_)
              refine lv_aload hx hb dX6_digest_105 (lv_at hl 3 rfl) ?_
              obtain ⟨y107, ey107, hLy107, hKy107, hGy107⟩ := oQ_3_2 (Sv_at hQ hLy82 hKy82)
              refine p_get (v := .ref y107) hx hb hts inX3 hown hK hP hLy82 hKy82 rfl rfl 2 (by decide) (hts _ pq128) (congrArg (fun q => some (va_rf q)) ey107) dX6_digest_107 ?_
              refine lv_iload hx hb dX6_digest_110 (lv_at hl 4 rfl) ?_
              refine p_lald hx hb hK hP 2 hLy107 hKy107 rfl rfl (in_of (by omega) (by omega)) dX6_digest_112 ?_
              refine lv_topl (fun z112 ez112 => ?_)
              refine lv_ladd hx hb dX6_digest_113 ?_
              refine lv_topl (fun z113 ez113 => ?_)
              refine lv_lstore_n (lv' := [(1, .long z113), (0, .ref p0), (3, .int v63_3), (4, .ref y82), (5, .int v88_5)]) hx hb dX6_digest_114 rfl hl (by decide) rfl (fun ls hl => ?_)
              obtain ⟨z115, ez115⟩ : ∃ y : Int32, y = v88_5 + 1 := ⟨_, rfl⟩
              refine lv_iinc (v := z115) (lv' := [(5, .int z115), (1, .long z113), (0, .ref p0), (3, .int v63_3), (4, .ref y82)]) hx hb dX6_digest_115 hl (k := 4) rfl (by rw [ez115]; rfl) (by decide) rfl (fun ls hl => ?_)
              have bz115 := tq_add (k := v88_5.toInt) (q := 1) ez115 rfl (by decide +kernel) (by omega) (by omega)
              refine lv_goto (tgt := 88) hx hb dX6_digest_118 (by decide) ?_
              exact ih88 _ (by omega) z113 z115 _ _ _ rfl ⟨by omega, by omega⟩ (fun σ h => by have e68 := congrArg Int32.toInt (ez68.trans (show I y8 2 = σ.1.1 0 by rw [show y8 = an Q p0 from (gd_of ey8).symm]; exact cx_0 h)); have cM := h.1.1.2.2.2.2.1 v63_3.toInt.toNat (by omega); rw [show fm Q (an Q p0) v63_3.toInt.toNat = y82 from (by rw [show an Q p0 = y8 from gd_of ey8]; exact fm_of ey78 ey82)] at cM; have e93 := congrArg Int32.toInt (ez93.trans cM.2.1); have g := g88 σ h; exact ⟨by rw [dg_W (show z115.toInt.toNat = v88_5.toInt.toNat + 1 by omega), ez113, ez104, g.1, ez112, show y107 = wo Q y82 from (gd_of ey107).symm, show v88_5.toNatClampNeg = v88_5.toInt.toNat from rfl, cM.2.2.1 _ (by omega)], Or.inl (by omega)⟩) hP hS (lv_sub hl [2, 1, 3, 4, 0] rfl))
          exact key88 _ v63_1 0 _ _ _ rfl ⟨by decide +kernel, by decide +kernel⟩ (fun σ h => ⟨by rw [show (0 : Int32).toInt.toNat = 0 from by decide +kernel, (g63 σ h).1]; rfl, Or.inr (by decide +kernel)⟩) hP hS (lv_sub hl [2, 3, 4, 1, 0] rfl))
      exact key63 _ v6_1 0 _ _ _ rfl ⟨by decide +kernel, by decide +kernel⟩ (fun σ h => by have e11 := cgz11.trans (congrArg Int32.toInt (show I y8 3 = σ.1.1 1 by rw [show y8 = an Q p0 from (gd_of ey8).symm]; exact cx_1 h)); have g := g6 σ h; exact ⟨by rw [show (0 : Int32).toInt.toNat = 0 from by decide +kernel, g.1, show v6_3.toInt.toNat = (σ.1.1 1).toInt.toNat by omega]; rfl, Or.inr (by decide +kernel)⟩) hP hS (lv_sub hl [1, 2, 0] rfl)
    · have t14 := tq_nle (k := z11.toInt) (q := v6_3.toInt) c14 rfl rfl
      refine lv_iconst (v := 0) hx hb dX6_digest_17 (by decide +kernel) ?_
      refine lv_istore (lv' := [(4, .int 0), (0, .ref p0), (1, .long v6_1), (3, .int v6_3)]) hx hb dX6_digest_18 hl (by decide) rfl (fun ls hl => ?_)
      have key20 := blocks (fun n => ∀ (v20_1 : Int64) (v20_4 : Int32) (H : Heap) (lo : List Loc) (ls : Array Slot), (9 - v20_4.toInt).toNat = n → ((0) ≤ v20_4.toInt ∧ v20_4.toInt ≤ 8) → (∀ σ : Sx, cxA Q I J p0 σ → v20_1 = dgK σ.1 v6_3.toInt.toNat v20_4.toInt.toNat (dgB σ.1 v6_3.toInt.toNat)) → va_P (dC, dI) vwCl (Wd cs L K I J Q) H → va_S (fun _ => False) s.heap H lo → lv_has ls 6 [(0, .ref p0), (1, .long v20_1), (3, .int v6_3), (4, .int v20_4)] → W p l e R s m (([.ref p0] : List Value).toArray) below meth c H lo 0 0 Qz (F0 m 20 ls [])) (by
        intro n ih20
        intro v20_1 v20_4 H lo ls hmu20 bv20_4 g20 hP hS hl
        refine lv_iload hx hb dX6_digest_20 (lv_at hl 3 rfl) ?_
        refine lv_bipush (v := 7) hx hb dX6_digest_22 (by decide +kernel) ?_
        refine lv_icmp_gt (tgt := 55) hx hb dX6_digest_24 (by decide) (fun c24 => ?_) (fun c24 => ?_)
        · have t24 := tq_lt (k := (7)) (q := v20_4.toInt) c24 (by decide +kernel) rfl
          obtain ⟨z55, ez55⟩ : ∃ y : Int32, y = v6_3 + 1 := ⟨_, rfl⟩
          refine lv_iinc (v := z55) (lv' := [(3, .int z55), (0, .ref p0), (1, .long v20_1), (4, .int v20_4)]) hx hb dX6_digest_55 hl (k := 2) rfl (by rw [ez55]; rfl) (by decide) rfl (fun ls hl => ?_)
          have bz55 := tq_add (k := v6_3.toInt) (q := 1) ez55 rfl (by decide +kernel) (by omega) (by omega)
          refine lv_goto (tgt := 6) hx hb dX6_digest_58 (by decide) ?_
          exact ih6 _ (by omega) v20_1 z55 _ _ _ rfl ⟨by omega, by omega⟩ (fun σ h => ⟨by rw [dg_B (show z55.toInt.toNat = v6_3.toInt.toNat + 1 by omega), g20 σ h, show v20_4.toInt.toNat = 8 by omega], Or.inl (by have e11 := cgz11.trans (congrArg Int32.toInt (show I y8 3 = σ.1.1 1 by rw [show y8 = an Q p0 from (gd_of ey8).symm]; exact cx_1 h)); omega)⟩) hP hS (lv_sub hl [1, 2, 0] rfl)
        · have t24 := tq_nlt (k := (7)) (q := v20_4.toInt) c24 (by decide +kernel) rfl
          refine lv_ldc2 hx hb hown (hts _ pq1100) dX6_digest_27 ?_
          refine lv_lload_n hx hb dX6_digest_30 rfl (lv_at hl 1 rfl) ?_
          refine lv_lmul hx hb dX6_digest_31 ?_
          refine lv_topl (fun z31 ez31 => ?_)
          refine lv_aload_n hx hb dX6_digest_32 rfl (lv_at hl 0 rfl) ?_
          refine p_get (v := .ref y8) hx hb hts inX6 hown hK hP hLp0 hKp0 rfl rfl 2 (by decide) (hts _ pq351) (congrArg (fun q => some (va_rf q)) ey8) dX6_digest_33 ?_
          obtain ⟨y36, ey36, hLy36, hKy36, hGy36⟩ := oQ_1_1 (Sv_at hQ hLy8 hKy8)
          refine p_get (v := .ref y36) hx hb hts inX1 hown hK hP hLy8 hKy8 rfl rfl 1 (by decide) (hts _ pq219) (congrArg (fun q => some (va_rf q)) ey36) dX6_digest_36 ?_
          refine lv_iload_n hx hb dX6_digest_39 rfl (lv_at hl 2 rfl) ?_
          obtain ⟨y40, ey40, hLy40, hKy40, hGy40⟩ := (Sv_at hQ hLy36 hKy36).1 v6_3.toNatClampNeg (clamp_lt (n := 10) (in_of (by omega) (by omega)))
          refine p_aaldR hx hb hK hP 4 hLy36 hKy36 rfl rfl (in_of (by omega) (by omega)) ey40 dX6_digest_40 ?_
          refine lv_iload hx hb dX6_digest_41 (lv_at hl 3 rfl) ?_
          refine ro_i (va_runV (As := [.int v20_4]) (rest := [.long z31]) ⟨hx, hb, hml, hown, hts⟩ (s_X0_told l dC dI cs L K G Q hQ x0 m0 tx tm H.size I J hI y40 hLy40 hKy40 v20_4) (cwV 1 hts (gV pq962 pq963 pq964 pq77 pq965) rfl rfl rfl (by decide +kernel) ⟨(by rw [hR]; exact (Nat.le_of_ble_eq_true rfl)), (by rw [hR]; exact (Nat.le_of_ble_eq_true rfl))⟩) (sP_V hP hD hK hN hLy40 hKy40 rfl rfl) rfl rfl hl.1 rfl (lv_room (Nat.le_of_ble_eq_true rfl)) dX6_digest_43 ⟨(by rw [hR]; exact (Nat.le_of_ble_eq_true rfl)), (by rw [hR]; exact (Nat.le_of_ble_eq_true rfl))⟩) hS hP (fun z43 H locs hz43 hP hS => ?_)
          have xpz43 := hz43
          refine lv_i2l hx hb dX6_digest_46 rfl ?_
          refine lv_topl (fun z46 ez46 => ?_)
          refine lv_ladd hx hb dX6_digest_47 ?_
          refine lv_topl (fun z47 ez47 => ?_)
          refine lv_lstore_n (lv' := [(1, .long z47), (0, .ref p0), (3, .int v6_3), (4, .int v20_4)]) hx hb dX6_digest_48 rfl hl (by decide) rfl (fun ls hl => ?_)
          obtain ⟨z49, ez49⟩ : ∃ y : Int32, y = v20_4 + 1 := ⟨_, rfl⟩
          refine lv_iinc (v := z49) (lv' := [(4, .int z49), (1, .long z47), (0, .ref p0), (3, .int v6_3)]) hx hb dX6_digest_49 hl (k := 3) rfl (by rw [ez49]; rfl) (by decide) rfl (fun ls hl => ?_)
          have bz49 := tq_add (k := v20_4.toInt) (q := 1) ez49 rfl (by decide +kernel) (by omega) (by omega)
          refine lv_goto (tgt := 20) hx hb dX6_digest_52 (by decide) ?_
          exact ih20 _ (by omega) z47 z49 _ _ _ rfl ⟨by omega, by omega⟩ (fun σ h => by have e11 := cgz11.trans (congrArg Int32.toInt (show I y8 3 = σ.1.1 1 by rw [show y8 = an Q p0 from (gd_of ey8).symm]; exact cx_1 h)); have va := cx_b h (b := v6_3.toInt.toNat) (k := v20_4.toInt.toNat) (by omega) (by omega); rw [show fb Q (an Q p0) v6_3.toInt.toNat = y40 from (by rw [show an Q p0 = y8 from gd_of ey8]; exact fb_of ey36 ey40)] at va; rw [dg_K (show z49.toInt.toNat = v20_4.toInt.toNat + 1 by omega), ez47, ez31, g20 σ h, ez46, xpz43 (by omega) (by omega), va]) hP hS (lv_sub hl [2, 1, 3, 0] rfl))
      exact key20 _ v6_1 0 _ _ _ rfl ⟨by decide +kernel, by decide +kernel⟩ (fun σ h => by rw [show (0 : Int32).toInt.toNat = 0 from by decide +kernel, (g6 σ h).1]; rfl) hP hS (lv_sub hl [1, 2, 3, 0] rfl))
  exact key6 _ 17 0 _ _ _ rfl ⟨by decide +kernel, by decide +kernel⟩ (fun σ h => ⟨by rw [show (0 : Int32).toInt.toNat = 0 from by decide +kernel]; rfl, Or.inr (by decide +kernel)⟩) hP hS (lv_sub hl [2, 1, 0] rfl)

set_option maxHeartbeats 4000000 in
set_option maxRecDepth 100000 in
theorem s_X6_count (l : Launch) (dC : Nat → ClassId) (dI : Nat → Nat → Nat) (cs : Nat → ClassId) (L : List Nat) (K G : Nat → Nat) (Q : Nat → Nat → Option Nat) (hQ : Sv L K G Q) (x0 m0 : Nat) (tx : GT) (tm : GT × Int) (sz : Nat) (I : Nat → Nat → Int32) (J : Nat → Nat → Int64) (hI : Iv L K x0 m0 tx tm I) (p0 : Nat) (hLp0 : p0 ∈ L) (hKp0 : K p0 = 6) (p1 : Int32) : Met l yX6_count (.code yX6_count cX6_count 2 (some .int) :: pw) ({ frames := 1, cells := 0, slots := 0, locals := 22 }) (sP (dC, dI) cs [.ref p0, .int p1] sz L K I J Q) (va_Qi (fun (r : Int32) (_ : Unit) => (∀ σ : Sx, cxA Q I J p0 σ → r.toInt = ctR σ (I p0 1).toInt p1)) (fun _ _ => True) (fun _ => False)) 0 0 (fun _ => False) := by
  refine Met.ofW (cc := cX6_count) (maxL := 2) (ret := (some .int)) (by decide +kernel) rfl ?_
  intro p e s m args below meth c s₁ B hml hv
  obtain ⟨rfl, hsz, hP, hK, hD0, hN⟩ := hv
  have hx := B.exec
  have hb := B.bytes
  have hr := B.returns
  have hts := fun w (h : w ∈ pw) => atoms_spec (ws := Cond.code yX6_count cX6_count 2 (some .int) :: pw) B.pre w (List.mem_cons_of_mem _ h)
  have hown : s.vm.findClass RX6 = some m.cls := findClass_of_methodNamed B.named
  have hlocks := B.notSynchronized
  subst hsz
  have hBB : 999 ≤ tm.2 ∧ tm.2 ≤ 6000000 := hI.2.2.2.2.1
  have hD := hD0
  obtain ⟨H, hHe⟩ : ∃ H : Heap, H = s.heap := ⟨_, rfl⟩
  have hS : va_S (fun _ => False) s.heap H [] := by rw [hHe]; exact va_S.rf
  rw [← hHe] at hP
  have hl := lv_entry ([.ref p0, .int p1]) (n := 2) (Nat.le_of_ble_eq_true rfl)
  rw [lg_entry_eq]
  generalize (lg_sl ([.ref p0, .int p1]) ++ List.replicate (2 - (lg_sl ([.ref p0, .int p1])).length) Slot.unset).toArray = ls at hl ⊢
  have hl : lv_has ls 2 [(0, .ref p0), (1, .int p1)] := hl
  rw [← hHe]
  refine namedW (fun R Qz hR hQz => ?_)
  refine lv_iload_n hx hb dX6_count_0 rfl (lv_at hl 1 rfl) ?_
  refine lv_topi (fun z1 ez1 => ?_)
  rcases sw7 z1 with rfl | rfl | rfl | rfl | rfl | rfl | rfl | hsw1
  · refine lv_tableIn (off := 43) (tgt := 44) hx hb dX6_count_1 (by decide +kernel) (by decide +kernel) (by decide +kernel) (by decide) ?_
    have sv1 : p1.toInt = 0 := by rw [← ez1]; decide +kernel
    refine lv_aload_n hx hb dX6_count_44 rfl (lv_at hl 0 rfl) ?_
    obtain ⟨y45, ey45, hLy45, hKy45, hGy45⟩ := oQ_6_2 (Sv_at hQ hLp0 hKp0)
    refine p_get (v := .ref y45) hx hb hts inX6 hown hK hP hLp0 hKp0 rfl rfl 2 (by decide) (hts _ pq351) (congrArg (fun q => some (va_rf q)) ey45) dX6_count_45 ?_
    refine p_get hx hb hts inX1 hown hK hP hLy45 hKy45 rfl rfl 2 (by decide) (hts _ pq223) rfl dX6_count_48 ?_
    refine lv_topi (fun z48 ez48 => ?_)
    have bz48 := oI_1_2 (Iv_at hI hLy45 hKy45)
    rw [← ez48] at bz48
    subst hR; subst hQz
    exact W.iret (v := z48) hx hb hr (fun t ht hW => ⟨⟨z48, (), rfl, (fun σ h => by rw [ct0 sv1, ez48, show y45 = an Q p0 from (gd_of ey45).symm, cx_0 h]), trivial⟩, hS.F ht⟩) hS.2.2 dX6_count_51
  · refine lv_tableIn (off := 51) (tgt := 52) hx hb dX6_count_1 (by decide +kernel) (by decide +kernel) (by decide +kernel) (by decide) ?_
    have sv1 : p1.toInt = 1 := by rw [← ez1]; decide +kernel
    refine lv_aload_n hx hb dX6_count_52 rfl (lv_at hl 0 rfl) ?_
    obtain ⟨y53, ey53, hLy53, hKy53, hGy53⟩ := oQ_6_2 (Sv_at hQ hLp0 hKp0)
    refine p_get (v := .ref y53) hx hb hts inX6 hown hK hP hLp0 hKp0 rfl rfl 2 (by decide) (hts _ pq351) (congrArg (fun q => some (va_rf q)) ey53) dX6_count_53 ?_
    refine p_get hx hb hts inX1 hown hK hP hLy53 hKy53 rfl rfl 3 (by decide) (hts _ pq226) rfl dX6_count_56 ?_
    refine lv_topi (fun z56 ez56 => ?_)
    have cgz56 := congrArg Int32.toInt ez56
    have bz56 := oI_1_3 (Iv_at hI hLy53 hKy53)
    rw [← ez56] at bz56
    subst hR; subst hQz
    exact W.iret (v := z56) hx hb hr (fun t ht hW => ⟨⟨z56, (), rfl, (fun σ h => by rw [ct1 sv1, ez56, show y53 = an Q p0 from (gd_of ey53).symm, cx_1 h]), trivial⟩, hS.F ht⟩) hS.2.2 dX6_count_59
  · refine lv_tableIn (off := 59) (tgt := 60) hx hb dX6_count_1 (by decide +kernel) (by decide +kernel) (by decide +kernel) (by decide) ?_
    have sv1 : p1.toInt = 2 := by rw [← ez1]; decide +kernel
    refine lv_aload_n hx hb dX6_count_60 rfl (lv_at hl 0 rfl) ?_
    obtain ⟨y61, ey61, hLy61, hKy61, hGy61⟩ := oQ_6_2 (Sv_at hQ hLp0 hKp0)
    refine p_get (v := .ref y61) hx hb hts inX6 hown hK hP hLp0 hKp0 rfl rfl 2 (by decide) (hts _ pq351) (congrArg (fun q => some (va_rf q)) ey61) dX6_count_61 ?_
    refine ro_i (va_runV (As := []) (rest := []) ⟨hx, hb, hml, hown, hts⟩ (s_X1_dotsOfAll l dC dI cs L K G Q hQ x0 m0 tx tm H.size I J hI y61 hLy61 hKy61) (cwV 0 hts (gV pq1105 pq1106 pq1107 pq75 pq1108) rfl rfl rfl (by decide +kernel) ⟨(by rw [hR]; exact (Nat.le_of_ble_eq_true rfl)), (by rw [hR]; exact (Nat.le_of_ble_eq_true rfl))⟩) (sP_V hP hD hK hN hLy61 hKy61 rfl rfl) rfl rfl hl.1 rfl (lv_room (Nat.le_of_ble_eq_true rfl)) dX6_count_64 ⟨(by rw [hR]; exact (Nat.le_of_ble_eq_true rfl)), (by rw [hR]; exact (Nat.le_of_ble_eq_true rfl))⟩) hS hP (fun z64 H locs hz64 hP hS => ?_)
    have xpz64 := hz64
    subst hR; subst hQz
    exact W.iret (v := z64) hx hb hr (fun t ht hW => ⟨⟨z64, (), rfl, (fun σ h => by rw [ct2 sv1]; have F := h.1.1.2; rw [show an Q p0 = y61 from gd_of ey61] at F; rw [xpz64 σ.1 F]), trivial⟩, hS.F ht⟩) hS.2.2 dX6_count_67
  · refine lv_tableIn (off := 67) (tgt := 68) hx hb dX6_count_1 (by decide +kernel) (by decide +kernel) (by decide +kernel) (by decide) ?_
    have sv1 : p1.toInt = 3 := by rw [← ez1]; decide +kernel
    refine lv_aload_n hx hb dX6_count_68 rfl (lv_at hl 0 rfl) ?_
    refine p_get hx hb hts inX6 hown hK hP hLp0 hKp0 rfl rfl 10 (by decide) (hts _ pq359) rfl dX6_count_69 ?_
    refine lv_topi (fun z69 ez69 => ?_)
    have bz69 := oI_6_10 (Iv_at hI hLp0 hKp0)
    rw [← ez69] at bz69
    subst hR; subst hQz
    exact W.iret (v := z69) hx hb hr (fun t ht hW => ⟨⟨z69, (), rfl, (fun σ h => by rw [ct3 sv1, ez69]; exact h.1.2.1.1), trivial⟩, hS.F ht⟩) hS.2.2 dX6_count_72
  · refine lv_tableIn (off := 72) (tgt := 73) hx hb dX6_count_1 (by decide +kernel) (by decide +kernel) (by decide +kernel) (by decide) ?_
    have sv1 : p1.toInt = 4 := by rw [← ez1]; decide +kernel
    refine lv_aload_n hx hb dX6_count_73 rfl (lv_at hl 0 rfl) ?_
    refine p_get hx hb hts inX6 hown hK hP hLp0 hKp0 rfl rfl 1 (by decide) (hts _ pq350) rfl dX6_count_74 ?_
    refine lv_topi (fun z74 ez74 => ?_)
    have cgz74 := congrArg Int32.toInt ez74
    have bz74 := oI_6_1 (Iv_at hI hLp0 hKp0)
    rw [← ez74] at bz74
    subst hR; subst hQz
    exact W.iret (v := z74) hx hb hr (fun t ht hW => ⟨⟨z74, (), rfl, (fun σ h => by rw [ct4 sv1, ez74]), trivial⟩, hS.F ht⟩) hS.2.2 dX6_count_77
  · refine lv_tableIn (off := 77) (tgt := 78) hx hb dX6_count_1 (by decide +kernel) (by decide +kernel) (by decide +kernel) (by decide) ?_
    have sv1 : p1.toInt = 5 := by rw [← ez1]; decide +kernel
    refine lv_aload_n hx hb dX6_count_78 rfl (lv_at hl 0 rfl) ?_
    obtain ⟨y79, ey79, hLy79, hKy79⟩ := oQ_6_11 (Sv_at hQ hLp0 hKp0)
    refine p_get (v := .ref y79) hx hb hts inX6 hown hK hP hLp0 hKp0 rfl rfl 11 (by decide) (hts _ pq360) (congrArg (fun q => some (va_rf q)) ey79) dX6_count_79 ?_
    refine lv_iconst (v := 0) hx hb dX6_count_82 (by decide +kernel) ?_
    rcases (Sv_at hQ hLy79 hKy79) (0 : Int32).toNatClampNeg (clamp_lt (n := 2) (in_d (by decide +kernel))) with en83 | ⟨y83, ey83, hLy83, hKy83, hGy83⟩
    · refine p_aaldN hx hb hK hP 7 hLy79 hKy79 rfl rfl (in_d (by decide +kernel)) en83 dX6_count_83 ?_
      have j92 : ∀ (w92_0 : Int32) (H : Heap) (lo : List Loc) (ls : Array Slot), ((0) ≤ w92_0.toInt ∧ w92_0.toInt ≤ 1) → (∀ σ : Sx, cxA Q I J p0 σ → w92_0.toInt = ctB (σ.2.2.2 0) 1) → va_P (dC, dI) vwCl (Wd cs L K I J Q) H → va_S (fun _ => False) s.heap H lo → lv_has ls 2 [(0, .ref p0), (1, .int p1)] → W p l e R s m (([.ref p0, .int p1] : List Value).toArray) below meth c H lo 0 0 Qz (F0 m 92 ls [.int w92_0]) := by
        intro w92_0 H lo ls bw92_0 h92 hP hS hl
        refine lv_aload_n hx hb dX6_count_92 rfl (lv_at hl 0 rfl) ?_
        refine p_get (v := .ref y79) hx hb hts inX6 hown hK hP hLp0 hKp0 rfl rfl 11 (by decide) (hts _ pq360) (congrArg (fun q => some (va_rf q)) ey79) dX6_count_93 ?_
        refine lv_iconst (v := 1) hx hb dX6_count_96 (by decide +kernel) ?_
        rcases (Sv_at hQ hLy79 hKy79) (1 : Int32).toNatClampNeg (clamp_lt (n := 2) (in_d (by decide +kernel))) with en97 | ⟨y97, ey97, hLy97, hKy97, hGy97⟩
        · refine p_aaldN hx hb hK hP 7 hLy79 hKy79 rfl rfl (in_d (by decide +kernel)) en97 dX6_count_97 ?_
          refine lv_ifnullN (tgt := 105) hx hb dX6_count_98 (by decide) ?_
          refine lv_iconst (v := 0) hx hb dX6_count_105 (by decide +kernel) ?_
          refine lv_iadd hx hb dX6_count_106 ?_
          refine lv_topi (fun z106 ez106 => ?_)
          have bz106 := tq_add (k := w92_0.toInt) (q := (0)) ez106 rfl (by decide +kernel) (by omega) (by omega)
          subst hR; subst hQz
          exact W.iret (v := z106) hx hb hr (fun t ht hW => ⟨⟨z106, (), rfl, (fun σ h => by rw [ct5 sv1, bz106, h92 σ h]; congr 1; have eY : sa Q p0 = y79 := gd_of ey79; first | (exact ((cx_sh h (s := 1) (k := 2) (by decide)).1 (by rw [eY]; exact en97)).symm) | (exact ((cx_sh h (s := 1) (k := 2) (by decide)).2 y97 (by rw [eY]; exact ey97)).symm)), trivial⟩, hS.F ht⟩) hS.2.2 dX6_count_107
        · have hNy97 : 6 ≤ G y97 ∧ G y97 < 8 := by (have hj := clamp_lt (i := (1 : Int32)) (n := 2) (in_d (by decide +kernel))); omega
          refine p_aaldR hx hb hK hP 7 hLy79 hKy79 rfl rfl (in_d (by decide +kernel)) ey97 dX6_count_97 ?_
          refine lv_ifnull hx hb dX6_count_98 ?_
          refine lv_iconst (v := 2) hx hb dX6_count_101 (by decide +kernel) ?_
          refine lv_goto (tgt := 106) hx hb dX6_count_102 (by decide) ?_
          refine lv_iadd hx hb dX6_count_106 ?_
          refine lv_topi (fun z106 ez106 => ?_)
          have bz106 := tq_add (k := w92_0.toInt) (q := (2)) ez106 rfl (by decide +kernel) (by omega) (by omega)
          subst hR; subst hQz
          exact W.iret (v := z106) hx hb hr (fun t ht hW => ⟨⟨z106, (), rfl, (fun σ h => by rw [ct5 sv1, bz106, h92 σ h]; congr 1; have eY : sa Q p0 = y79 := gd_of ey79; first | (exact ((cx_sh h (s := 1) (k := 2) (by decide)).1 (by rw [eY]; exact en97)).symm) | (exact ((cx_sh h (s := 1) (k := 2) (by decide)).2 y97 (by rw [eY]; exact ey97)).symm)), trivial⟩, hS.F ht⟩) hS.2.2 dX6_count_107
      refine lv_ifnullN (tgt := 91) hx hb dX6_count_84 (by decide) ?_
      refine lv_iconst (v := 0) hx hb dX6_count_91 (by decide +kernel) ?_
      exact j92 0 _ _ _ ⟨by decide +kernel, by decide +kernel⟩ (fun σ h => by have eY : sa Q p0 = y79 := gd_of ey79; rw [(cx_sh h (s := 0) (k := 1) (by decide)).1 (by rw [eY]; exact en83)]; decide +kernel) hP hS (lv_sub hl [0, 1] rfl)
    · have hNy83 : 6 ≤ G y83 ∧ G y83 < 8 := by (have hj := clamp_lt (i := (0 : Int32)) (n := 2) (in_d (by decide +kernel))); omega
      refine p_aaldR hx hb hK hP 7 hLy79 hKy79 rfl rfl (in_d (by decide +kernel)) ey83 dX6_count_83 ?_
      have j92 : ∀ (w92_0 : Int32) (H : Heap) (lo : List Loc) (ls : Array Slot), ((0) ≤ w92_0.toInt ∧ w92_0.toInt ≤ 1) → (∀ σ : Sx, cxA Q I J p0 σ → w92_0.toInt = ctB (σ.2.2.2 0) 1) → va_P (dC, dI) vwCl (Wd cs L K I J Q) H → va_S (fun _ => False) s.heap H lo → lv_has ls 2 [(0, .ref p0), (1, .int p1)] → W p l e R s m (([.ref p0, .int p1] : List Value).toArray) below meth c H lo 0 0 Qz (F0 m 92 ls [.int w92_0]) := by
        intro w92_0 H lo ls bw92_0 h92 hP hS hl
        refine lv_aload_n hx hb dX6_count_92 rfl (lv_at hl 0 rfl) ?_
        refine p_get (v := .ref y79) hx hb hts inX6 hown hK hP hLp0 hKp0 rfl rfl 11 (by decide) (hts _ pq360) (congrArg (fun q => some (va_rf q)) ey79) dX6_count_93 ?_
        refine lv_iconst (v := 1) hx hb dX6_count_96 (by decide +kernel) ?_
        rcases (Sv_at hQ hLy79 hKy79) (1 : Int32).toNatClampNeg (clamp_lt (n := 2) (in_d (by decide +kernel))) with en97 | ⟨y97, ey97, hLy97, hKy97, hGy97⟩
        · refine p_aaldN hx hb hK hP 7 hLy79 hKy79 rfl rfl (in_d (by decide +kernel)) en97 dX6_count_97 ?_
          refine lv_ifnullN (tgt := 105) hx hb dX6_count_98 (by decide) ?_
          refine lv_iconst (v := 0) hx hb dX6_count_105 (by decide +kernel) ?_
          refine lv_iadd hx hb dX6_count_106 ?_
          refine lv_topi (fun z106 ez106 => ?_)
          have bz106 := tq_add (k := w92_0.toInt) (q := (0)) ez106 rfl (by decide +kernel) (by omega) (by omega)
          subst hR; subst hQz
          exact W.iret (v := z106) hx hb hr (fun t ht hW => ⟨⟨z106, (), rfl, (fun σ h => by rw [ct5 sv1, bz106, h92 σ h]; congr 1; have eY : sa Q p0 = y79 := gd_of ey79; first | (exact ((cx_sh h (s := 1) (k := 2) (by decide)).1 (by rw [eY]; exact en97)).symm) | (exact ((cx_sh h (s := 1) (k := 2) (by decide)).2 y97 (by rw [eY]; exact ey97)).symm)), trivial⟩, hS.F ht⟩) hS.2.2 dX6_count_107
        · have hNy97 : 6 ≤ G y97 ∧ G y97 < 8 := by (have hj := clamp_lt (i := (1 : Int32)) (n := 2) (in_d (by decide +kernel))); omega
          refine p_aaldR hx hb hK hP 7 hLy79 hKy79 rfl rfl (in_d (by decide +kernel)) ey97 dX6_count_97 ?_
          refine lv_ifnull hx hb dX6_count_98 ?_
          refine lv_iconst (v := 2) hx hb dX6_count_101 (by decide +kernel) ?_
          refine lv_goto (tgt := 106) hx hb dX6_count_102 (by decide) ?_
          refine lv_iadd hx hb dX6_count_106 ?_
          refine lv_topi (fun z106 ez106 => ?_)
          have bz106 := tq_add (k := w92_0.toInt) (q := (2)) ez106 rfl (by decide +kernel) (by omega) (by omega)
          subst hR; subst hQz
          exact W.iret (v := z106) hx hb hr (fun t ht hW => ⟨⟨z106, (), rfl, (fun σ h => by rw [ct5 sv1, bz106, h92 σ h]; congr 1; have eY : sa Q p0 = y79 := gd_of ey79; first | (exact ((cx_sh h (s := 1) (k := 2) (by decide)).1 (by rw [eY]; exact en97)).symm) | (exact ((cx_sh h (s := 1) (k := 2) (by decide)).2 y97 (by rw [eY]; exact ey97)).symm)), trivial⟩, hS.F ht⟩) hS.2.2 dX6_count_107
      refine lv_ifnull hx hb dX6_count_84 ?_
      refine lv_iconst (v := 1) hx hb dX6_count_87 (by decide +kernel) ?_
      refine lv_goto (tgt := 92) hx hb dX6_count_88 (by decide) ?_
      exact j92 1 _ _ _ ⟨by decide +kernel, by decide +kernel⟩ (fun σ h => by have eY : sa Q p0 = y79 := gd_of ey79; rw [(cx_sh h (s := 0) (k := 1) (by decide)).2 y83 (by rw [eY]; exact ey83)]; decide +kernel) hP hS (lv_sub hl [0, 1] rfl)
  · refine lv_tableIn (off := 107) (tgt := 108) hx hb dX6_count_1 (by decide +kernel) (by decide +kernel) (by decide +kernel) (by decide) ?_
    have sv1 : p1.toInt = 6 := by rw [← ez1]; decide +kernel
    refine lv_aload_n hx hb dX6_count_108 rfl (lv_at hl 0 rfl) ?_
    obtain ⟨y109, ey109, hLy109, hKy109, hGy109⟩ := oQ_6_2 (Sv_at hQ hLp0 hKp0)
    refine p_get (v := .ref y109) hx hb hts inX6 hown hK hP hLp0 hKp0 rfl rfl 2 (by decide) (hts _ pq351) (congrArg (fun q => some (va_rf q)) ey109) dX6_count_109 ?_
    refine p_get hx hb hts inX1 hown hK hP hLy109 hKy109 rfl rfl 4 (by decide) (hts _ pq229) rfl dX6_count_112 ?_
    refine lv_topi (fun z112 ez112 => ?_)
    subst hR; subst hQz
    exact W.iret (v := z112) hx hb hr (fun t ht hW => ⟨⟨z112, (), rfl, (fun σ h => by rw [ct6 sv1, ez112, show y109 = an Q p0 from (gd_of ey109).symm]; exact congrArg Int32.toInt h.1.1.2.2.2.1), trivial⟩, hS.F ht⟩) hS.2.2 dX6_count_115
  · refine lv_tableOut (tgt := 116) hx hb dX6_count_1 hsw1 (by decide) ?_
    refine lv_iconst (v := (-1)) hx hb dX6_count_116 (by decide +kernel) ?_
    subst hR; subst hQz
    exact W.iret (v := (-1)) hx hb hr (fun t ht hW => ⟨⟨(-1), (), rfl, (fun σ h => by rw [ct7 (by rw [← ez1]; exact hsw1)]; decide +kernel), trivial⟩, hS.F ht⟩) hS.2.2 dX6_count_117

set_option maxHeartbeats 4000000 in
set_option maxRecDepth 100000 in
theorem s_X6_stopsInTick (l : Launch) (dC : Nat → ClassId) (dI : Nat → Nat → Nat) (cs : Nat → ClassId) (L : List Nat) (K G : Nat → Nat) (Q : Nat → Nat → Option Nat) (hQ : Sv L K G Q) (x0 m0 : Nat) (tx : GT) (tm : GT × Int) (sz : Nat) (I : Nat → Nat → Int32) (J : Nat → Nat → Int64) (hI : Iv L K x0 m0 tx tm I) (p0 : Nat) (hLp0 : p0 ∈ L) (hKp0 : K p0 = 6) (p1 : Int32) (bp1 : (0) ≤ p1.toInt ∧ p1.toInt ≤ 9) : Met l yX6_stopsInTick (.code yX6_stopsInTick cX6_stopsInTick 3 (some .boolean) :: pw) ({ frames := 5, cells := 0, slots := 0, locals := 136 }) (sP (dC, dI) cs [.ref p0, .int p1] sz L K I J Q) (va_Qi (fun (r : Int32) (_ : Unit) => ((0) ≤ r.toInt ∧ r.toInt ≤ 1) ∧ (∀ σ : Sx, cxA Q I J p0 σ → p1.toInt.toNat < (σ.1.1 1).toInt.toNat → r.toInt = (tkB σ.1 p1.toInt.toNat).2)) (fun _ t => sB (dC, dI) cs L K Q (fun I1 J1 => Iv L K x0 m0 tx tm I1 ∧ (∀ b, K b = 7 ∨ K b = 18 ∨ K b = 19 ∨ K b = 20 ∨ K b = 24 → I1 b = I b) ∧ (∀ σ : Sx, cxA Q I J p0 σ → p1.toInt.toNat < (σ.1.1 1).toInt.toNat → cxA Q I1 J1 p0 ((tkB σ.1 p1.toInt.toNat).1, σ.2)) ∧ J1 = J) t) (fun q => q ∈ L ∨ sz ≤ q)) 0 0 (fun q => q ∈ L ∨ sz ≤ q) := by
  refine Met.ofW (cc := cX6_stopsInTick) (maxL := 3) (ret := (some .boolean)) (by decide +kernel) rfl ?_
  intro p e s m args below meth c s₁ B hml hv
  obtain ⟨rfl, hsz, hP, hK, hD0, hN⟩ := hv
  have hx := B.exec
  have hb := B.bytes
  have hr := B.returns
  have hts := fun w (h : w ∈ pw) => atoms_spec (ws := Cond.code yX6_stopsInTick cX6_stopsInTick 3 (some .boolean) :: pw) B.pre w (List.mem_cons_of_mem _ h)
  have hown : s.vm.findClass RX6 = some m.cls := findClass_of_methodNamed B.named
  have hlocks := B.notSynchronized
  subst hsz
  have hBB : 999 ≤ tm.2 ∧ tm.2 ≤ 6000000 := hI.2.2.2.2.1
  have dn_I : (∀ b, K b = 7 ∨ K b = 18 ∨ K b = 19 ∨ K b = 20 ∨ K b = 24 → I b = I b) := fun _ _ => rfl
  have dj_J : J = J := rfl
  obtain ⟨A, hAe⟩ : ∃ A : Nat → Prop, A = (fun q => q ∈ L ∨ s.heap.size ≤ q) := ⟨_, rfl⟩
  rw [← hAe]
  have hAL : ∀ q, q ∈ L → A q := fun q h => by rw [hAe]; exact Or.inl h
  have hA : ∀ q, s.heap.size ≤ q → A q := fun q h => by rw [hAe]; exact Or.inr h
  have hD : ∀ F, va_D A (va_pl L F) := fun F => (hD0 F).weaken (fun k q hk _ => hAL _ (pl_mem hk))
  obtain ⟨H, hHe⟩ : ∃ H : Heap, H = s.heap := ⟨_, rfl⟩
  have hS : va_S A s.heap H [] := by rw [hHe]; exact va_S.rf
  rw [← hHe] at hP
  have hl := lv_entry ([.ref p0, .int p1]) (n := 3) (Nat.le_of_ble_eq_true rfl)
  rw [lg_entry_eq]
  generalize (lg_sl ([.ref p0, .int p1]) ++ List.replicate (3 - (lg_sl ([.ref p0, .int p1])).length) Slot.unset).toArray = ls at hl ⊢
  have hl : lv_has ls 3 [(0, .ref p0), (1, .int p1)] := hl
  rw [← hHe]
  refine namedW (fun R Qz hR hQz => ?_)
  refine lv_aload_n hx hb dX6_stopsInTick_0 rfl (lv_at hl 0 rfl) ?_
  obtain ⟨y1, ey1, hLy1, hKy1, hGy1⟩ := oQ_6_2 (Sv_at hQ hLp0 hKp0)
  refine p_get (v := .ref y1) hx hb hts inX6 hown hK hP hLp0 hKp0 rfl rfl 2 (by decide) (hts _ pq351) (congrArg (fun q => some (va_rf q)) ey1) dX6_stopsInTick_1 ?_
  obtain ⟨y4, ey4, hLy4, hKy4, hGy4⟩ := oQ_1_1 (Sv_at hQ hLy1 hKy1)
  refine p_get (v := .ref y4) hx hb hts inX1 hown hK hP hLy1 hKy1 rfl rfl 1 (by decide) (hts _ pq219) (congrArg (fun q => some (va_rf q)) ey4) dX6_stopsInTick_4 ?_
  refine lv_iload_n hx hb dX6_stopsInTick_7 rfl (lv_at hl 1 rfl) ?_
  obtain ⟨y8, ey8, hLy8, hKy8, hGy8⟩ := (Sv_at hQ hLy4 hKy4).1 p1.toNatClampNeg (clamp_lt (n := 10) (in_of (by omega) (by omega)))
  refine p_aaldR hx hb hK hP 4 hLy4 hKy4 rfl rfl (in_of (by omega) (by omega)) ey8 dX6_stopsInTick_8 ?_
  refine lv_astore_n (lv' := [(2, .ref y8), (0, .ref p0), (1, .int p1)]) hx hb dX6_stopsInTick_9 rfl hl (by decide) rfl (fun ls hl => ?_)
  refine lv_aload_n hx hb dX6_stopsInTick_10 rfl (lv_at hl 1 rfl) ?_
  obtain ⟨y11, ey11, hLy11, hKy11, hGy11⟩ := oQ_6_5 (Sv_at hQ hLp0 hKp0)
  refine p_get (v := .ref y11) hx hb hts inX6 hown hK hP hLp0 hKp0 rfl rfl 5 (by decide) (hts _ pq354) (congrArg (fun q => some (va_rf q)) ey11) dX6_stopsInTick_11 ?_
  refine lv_iload_n hx hb dX6_stopsInTick_14 rfl (lv_at hl 2 rfl) ?_
  refine lv_aload_n hx hb dX6_stopsInTick_15 rfl (lv_at hl 0 rfl) ?_
  refine p_get hx hb hts inX0 hown hK hP hLy8 hKy8 rfl rfl 6 (by decide) (hts _ pq191) rfl dX6_stopsInTick_16 ?_
  refine lv_topi (fun z16 ez16 => ?_)
  have bz16 := oI_0_6 (Iv_at hI hLy8 hKy8)
  rw [← ez16] at bz16
  refine lv_aload_n hx hb dX6_stopsInTick_19 rfl (lv_at hl 0 rfl) ?_
  refine p_get hx hb hts inX0 hown hK hP hLy8 hKy8 rfl rfl 7 (by decide) (hts _ pq194) rfl dX6_stopsInTick_20 ?_
  refine lv_topi (fun z20 ez20 => ?_)
  have bz20 := oI_0_7 (Iv_at hI hLy8 hKy8)
  rw [← ez20] at bz20
  refine sw_v (Z := (fun I1 J1 => Iv L K x0 m0 tx tm I1 ∧ (∀ b, ¬ (b = y11) → I1 b = I b) ∧ (glOK tm.2 Q I1 y11 p1) ∧ (∀ c : Fx, okF c → cxF Q I J (nf Q y11) c → cxS Q I J y11 c → p1.toInt.toNat < (c.1 1).toInt.toNat → gLR c p1.toInt.toNat z16.toInt z20.toInt (I1 y11 2).toInt (I1 y11 4).toInt (I1 y11 5).toInt) ∧ J1 = J)) (va_runV (As := [.int p1, .int z16, .int z20]) (rest := []) ⟨hx, hb, hml, hown, hts⟩ (s_X5_tryGlide l dC dI cs L K G Q hQ x0 m0 tx tm H.size I J hI y11 hLy11 hKy11 p1 ⟨by omega, by omega⟩ z16 ⟨by omega, by omega⟩ z20 ⟨by omega, by omega⟩) (cwV 3 hts (gV pq739 pq740 pq741 pq79 pq742) rfl rfl rfl (by decide +kernel) ⟨(by rw [hR]; exact (Nat.le_of_ble_eq_true rfl)), (by rw [hR]; exact (Nat.le_of_ble_eq_true rfl))⟩) (sP_V hP hD hK hN hLy11 hKy11 rfl rfl) rfl rfl hl.1 rfl (lv_room (Nat.le_of_ble_eq_true rfl)) dX6_stopsInTick_23 ⟨(by rw [hR]; exact (Nat.le_of_ble_eq_true rfl)), (by rw [hR]; exact (Nat.le_of_ble_eq_true rfl))⟩) hS hAL hA (fun Iz23 Jz23 H locs hz23 hIz23 hP hS => ?_)
  obtain ⟨hIz23, frc23, zp23, jz23, djc23⟩ := hIz23
  obtain rfl : J = Jz23 := djc23.symm
  have dn_Iz23 : (∀ b, K b = 7 ∨ K b = 18 ∨ K b = 19 ∨ K b = 20 ∨ K b = 24 → Iz23 b = I b) := fun b hc => (frc23 b (fun z => by have q := hKy11; rw [← z] at q; omega)).trans (dn_I b hc)
  refine lv_aload_n hx hb dX6_stopsInTick_26 rfl (lv_at hl 1 rfl) ?_
  refine p_get (v := .ref y11) hx hb hts inX6 hown hK hP hLp0 hKp0 rfl rfl 5 (by decide) (hts _ pq354) (congrArg (fun q => some (va_rf q)) ey11) dX6_stopsInTick_27 ?_
  refine lv_iload_n hx hb dX6_stopsInTick_30 rfl (lv_at hl 2 rfl) ?_
  refine sw_v (Z := (fun I1 J1 => Iv L K x0 m0 tx tm I1 ∧ (∀ b, ¬ (K b = 0) → I1 b = Iz23 b) ∧ (∃ Im, Im = va_up Iz23 (fb Q (nf Q y11) p1.toInt.toNat) (upd (Iz23 (fb Q (nf Q y11) p1.toInt.toNat)) 1 (Iz23 (fb Q (nf Q y11) p1.toInt.toNat) 1 + Iz23 y11 4)) ∧ I1 = va_up Im (fb Q (nf Q y11) p1.toInt.toNat) (upd (Im (fb Q (nf Q y11) p1.toInt.toNat)) 2 (Iz23 (fb Q (nf Q y11) p1.toInt.toNat) 2 + Iz23 y11 5))) ∧ J1 = J)) (va_runV (As := [.int p1]) (rest := []) ⟨hx, hb, hml, hown, hts⟩ (s_X5_finishGlide l dC dI cs L K G Q hQ x0 m0 tx tm H.size Iz23 J hIz23 y11 hLy11 hKy11 p1 ⟨by omega, by omega⟩ zp23) (cwV 1 hts (gV pq789 pq790 pq791 pq79 pq792) rfl rfl rfl (by decide +kernel) ⟨(by rw [hR]; exact (Nat.le_of_ble_eq_true rfl)), (by rw [hR]; exact (Nat.le_of_ble_eq_true rfl))⟩) (sP_V hP hD hK hN hLy11 hKy11 rfl rfl) rfl rfl hl.1 rfl (lv_room (Nat.le_of_ble_eq_true rfl)) dX6_stopsInTick_31 ⟨(by rw [hR]; exact (Nat.le_of_ble_eq_true rfl)), (by rw [hR]; exact (Nat.le_of_ble_eq_true rfl))⟩) hS hAL hA (fun Iz31 Jz31 H locs hz31 hIz31 hP hS => ?_)
  obtain ⟨hIz31, frc31, fz31, djc31⟩ := hIz31
  obtain rfl : J = Jz31 := djc31.symm
  have dn_Iz31 : (∀ b, K b = 7 ∨ K b = 18 ∨ K b = 19 ∨ K b = 20 ∨ K b = 24 → Iz31 b = I b) := fun b hc => (frc31 b (by omega)).trans (dn_Iz23 b hc)
  refine lv_aload_n hx hb dX6_stopsInTick_34 rfl (lv_at hl 1 rfl) ?_
  refine p_get (v := .ref y11) hx hb hts inX6 hown hK hP hLp0 hKp0 rfl rfl 5 (by decide) (hts _ pq354) (congrArg (fun q => some (va_rf q)) ey11) dX6_stopsInTick_35 ?_
  refine p_get hx hb hts inX5 hown hK hP hLy11 hKy11 rfl rfl 2 (by decide) (hts _ pq277) rfl dX6_stopsInTick_38 ?_
  refine lv_topi (fun z38 ez38 => ?_)
  have bz38 := oI_5_2 (Iv_at hIz31 hLy11 hKy11)
  rw [← ez38] at bz38
  refine lv_aload_n hx hb dX6_stopsInTick_41 rfl (lv_at hl 0 rfl) ?_
  refine p_get hx hb hts inX0 hown hK hP hLy8 hKy8 rfl rfl 6 (by decide) (hts _ pq191) rfl dX6_stopsInTick_42 ?_
  refine lv_topi (fun z42 ez42 => ?_)
  have bz42 := oI_0_6 (Iv_at hIz31 hLy8 hKy8)
  rw [← ez42] at bz42
  refine lv_aload_n hx hb dX6_stopsInTick_45 rfl (lv_at hl 0 rfl) ?_
  refine p_get hx hb hts inX0 hown hK hP hLy8 hKy8 rfl rfl 7 (by decide) (hts _ pq194) rfl dX6_stopsInTick_46 ?_
  refine lv_topi (fun z46 ez46 => ?_)
  have bz46 := oI_0_7 (Iv_at hIz31 hLy8 hKy8)
  rw [← ez46] at bz46
  refine ro_i (va_runS (As := [.int z42, .int z46]) (rest := [.int z38]) ⟨hx, hb, hml, hown, hts⟩ (s_X6_wayLength l dC dI cs L K G Q hQ x0 m0 tx tm H.size Iz31 J hIz31 z42 ⟨by omega, by omega⟩ z46 ⟨by omega, by omega⟩) (va_cwS 2 hts (gS pq797 pq744 pq74 pq745) rfl rfl rfl (by decide +kernel) ⟨(by rw [hR]; exact (Nat.le_of_ble_eq_true rfl)), (by rw [hR]; exact (Nat.le_of_ble_eq_true rfl))⟩) (sP_S hP hD hK hN) rfl rfl hl.1 rfl (lv_room (Nat.le_of_ble_eq_true rfl)) dX6_stopsInTick_49 ⟨(by rw [hR]; exact (Nat.le_of_ble_eq_true rfl)), (by rw [hR]; exact (Nat.le_of_ble_eq_true rfl))⟩) hS hP (fun z49 H locs hz49 hP hS => ?_)
  obtain ⟨bz49, xpz49⟩ := hz49
  have eB52 : fb Q (an Q p0) p1.toInt.toNat = y8 := by rw [show an Q p0 = y1 from gd_of ey1]; exact fb_of ey4 ey8
  have hs52 : ∀ σ : Sx, cxA Q I J p0 σ → p1.toInt.toNat < (σ.1.1 1).toInt.toNat → cxA Q Iz31 J p0 (slC σ.1 p1.toInt.toNat (vX σ.1 p1.toInt.toNat).toInt (vY σ.1 p1.toInt.toNat).toInt, σ.2) ∧ slN σ.1 p1.toInt.toNat (vX σ.1 p1.toInt.toNat).toInt (vY σ.1 p1.toInt.toNat).toInt = z38.toInt ∧ z49.toInt = stI (vX σ.1 p1.toInt.toNat).toInt (vY σ.1 p1.toInt.toNat).toInt ∧ z42 = (vX σ.1 p1.toInt.toNat) ∧ z46 = (vY σ.1 p1.toInt.toNat) := fun σ h hb => by have va := h.1.1.2.2.2.2.2 p1.toInt.toNat hb; rw [eB52] at va; have e6 : z16 = (vX σ.1 p1.toInt.toNat) := ez16.trans (va 6 (by decide)); have e7 : z20 = (vY σ.1 p1.toInt.toNat) := ez20.trans (va 7 (by decide)); have T := cxA_tg h; rw [show se Q p0 = y11 from gd_of ey11] at T; have g := jz23 σ.1 T.1 T.2.1 T.2.2 hb; rw [e6, e7] at g; have A := cxA_sc hQ hLp0 hKp0 hKy11 frc23 h; have w := gl_in h.1.1.1 hb g; have nf11 := cxA_nf A; rw [show se Q p0 = y11 from gd_of ey11] at nf11; have f := fz31; rw [nf11] at f; have R := cxA_go (σ := σ) (u := Iz23 y11 4) (v := Iz23 y11 5) hQ hLp0 hKp0 A hb w.2.1 w.2.2 rfl f; rw [w.1.1, w.1.2] at R; have vb := R.1.1.2.2.2.2.2 p1.toInt.toNat (by show _ < ((gC _ _ _ _).1 1).toInt.toNat; rw [gC_lo (by decide)]; exact hb); rw [eB52] at vb; have c6 : z42 = (vX σ.1 p1.toInt.toNat) := ez42.trans ((vb 6 (by decide)).trans (by show (gC _ _ _ _).1 _ = _; rw [gC_at (by decide), if_neg (by omega), if_neg (by omega)]; rfl)); have c7 : z46 = (vY σ.1 p1.toInt.toNat) := ez46.trans ((vb 7 (by decide)).trans (by show (gC _ _ _ _).1 _ = _; rw [gC_at (by decide), if_neg (by omega), if_neg (by omega)]; rfl)); exact ⟨R, (gLR_slN g).trans (by rw [ez38, frc31 y11 (by have := hKy11; omega)]), by rw [xpz49, c6, c7], c6, c7⟩
  refine lv_icmp_lt (tgt := 57) hx hb dX6_stopsInTick_52 (by decide) (fun c52 => ?_) (fun c52 => ?_)
  · have t52 := tq_lt (k := z38.toInt) (q := z49.toInt) c52 rfl rfl
    refine lv_aload_n hx hb dX6_stopsInTick_57 rfl (lv_at hl 0 rfl) ?_
    refine lv_aload_n hx hb dX6_stopsInTick_58 rfl (lv_at hl 0 rfl) ?_
    refine p_get hx hb hts inX0 hown hK hP hLy8 hKy8 rfl rfl 6 (by decide) (hts _ pq191) rfl dX6_stopsInTick_59 ?_
    refine lv_topi (fun z59 ez59 => ?_)
    obtain rfl : z42 = z59 := ez42.trans ez59.symm
    refine lv_ineg hx hb dX6_stopsInTick_62 ?_
    refine lv_topi (fun z62 ez62 => ?_)
    have bz62 := tq_neg (k := z42.toInt) ez62 rfl (by omega) (by omega)
    refine p_put hx hb hts inX0 tyX0 tyX0_ok nmX0 hown hK hP hD hS hLy8 hKy8 rfl rfl 6 (by decide) (hts _ pq191) rfl (by decide +kernel) (Nat.le_of_ble_eq_true rfl) (oS_0_6 cs _ _ _ _) dX6_stopsInTick_63 (fun H locs hP hS => ?_)
    obtain ⟨Iz63, hP, hIz63, qIz63⟩ : ∃ Iz63, va_P (dC, dI) vwCl (Wd cs L K Iz63 J Q) H ∧ Iv L K x0 m0 tx tm Iz63 ∧ Iz63 = va_up Iz31 y8 (upd (Iz31 y8) 6 z62) := ⟨_, hP, Iv_put hIz31 hKy8 (oP_0_6 (Iv_at hIz31 hLy8 hKy8) ⟨by omega, by omega⟩) (by decide) (by decide), rfl⟩
    have dn_Iz63 : (∀ b, K b = 7 ∨ K b = 18 ∨ K b = 19 ∨ K b = 20 ∨ K b = 24 → Iz63 b = I b) := fun b hc => (congrFun qIz63 b).trans ((va_up_ne _ _ (fun z => by have q := hKy8; rw [← z] at q; omega)).trans (dn_Iz31 b hc))
    refine lv_aload_n hx hb dX6_stopsInTick_66 rfl (lv_at hl 0 rfl) ?_
    refine lv_aload_n hx hb dX6_stopsInTick_67 rfl (lv_at hl 0 rfl) ?_
    refine p_get hx hb hts inX0 hown hK hP hLy8 hKy8 rfl rfl 7 (by decide) (hts _ pq194) rfl dX6_stopsInTick_68 ?_
    refine lv_topi (fun z68 ez68 => ?_)
    obtain rfl : z46 = z68 := by rw [ez68, qIz63, rz_fr _ _ _ _ (by decide)]; exact ez46
    have ez46x68 := ez68
    refine lv_ineg hx hb dX6_stopsInTick_71 ?_
    refine lv_topi (fun z71 ez71 => ?_)
    have bz71 := tq_neg (k := z46.toInt) ez71 rfl (by omega) (by omega)
    refine p_put hx hb hts inX0 tyX0 tyX0_ok nmX0 hown hK hP hD hS hLy8 hKy8 rfl rfl 7 (by decide) (hts _ pq194) rfl (by decide +kernel) (Nat.le_of_ble_eq_true rfl) (oS_0_7 cs _ _ _ _) dX6_stopsInTick_72 (fun H locs hP hS => ?_)
    obtain ⟨Iz72, hP, hIz72, qIz72⟩ : ∃ Iz72, va_P (dC, dI) vwCl (Wd cs L K Iz72 J Q) H ∧ Iv L K x0 m0 tx tm Iz72 ∧ Iz72 = va_up Iz63 y8 (upd (Iz63 y8) 7 z71) := ⟨_, hP, Iv_put hIz63 hKy8 (oP_0_7 (Iv_at hIz63 hLy8 hKy8) ⟨by omega, by omega⟩) (by decide) (by decide), rfl⟩
    have dn_Iz72 : (∀ b, K b = 7 ∨ K b = 18 ∨ K b = 19 ∨ K b = 20 ∨ K b = 24 → Iz72 b = I b) := fun b hc => (congrFun qIz72 b).trans ((va_up_ne _ _ (fun z => by have q := hKy8; rw [← z] at q; omega)).trans (dn_Iz63 b hc))
    refine lv_iconst (v := 1) hx hb dX6_stopsInTick_75 (by decide +kernel) ?_
    subst hR; subst hQz
    exact W.zret (v := 1) hx hb hr (by decide +kernel) (fun t ht hW => ⟨⟨1, (), rfl, ⟨⟨by decide +kernel, by decide +kernel⟩, (fun σ h hb => by obtain ⟨A, e1, e2, e3, e4⟩ := hs52 σ h hb; have n := slN_nn σ.1 p1.toInt.toNat (vX σ.1 p1.toInt.toNat).toInt (vY σ.1 p1.toInt.toNat).toInt; rw [tkB_n (by omega)]; show (1 : Int32).toInt = 1; decide +kernel)⟩, ⟨Iz72, J, ⟨hIz72, dn_Iz72, (fun σ h hb => by obtain ⟨A, e1, e2, e3, e4⟩ := hs52 σ h hb; have n := slN_nn σ.1 p1.toInt.toNat (vX σ.1 p1.toInt.toNat).toInt (vY σ.1 p1.toInt.toNat).toInt; rw [tkB_n (by omega)]; have q := vXY h.1.1.1 hb; have B1 := cxA_body (k := 6) (v := -(vX σ.1 p1.toInt.toNat)) (i := p1.toInt.toNat) (I1 := Iz63) hQ hLp0 hKp0 (by omega) (by decide) (by decide) (by decide) (vok6 (Or.inl rfl) (by rw [neg20 q.1]; omega)) (by rw [eB52, qIz63, ez62, e3]) A; exact cxA_body (k := 7) (v := -(vY σ.1 p1.toInt.toNat)) (i := p1.toInt.toNat) hQ hLp0 hKp0 (by omega) (by decide) (by decide) (by decide) (vok6 (Or.inr rfl) (by rw [neg20 q.2]; omega)) (by rw [eB52, qIz72, ez71, e4]) B1), dj_J⟩, by rw [ht]; exact hP⟩⟩, hS.F ht⟩) hS.2.2 dX6_stopsInTick_76
  · have t52 := tq_nlt (k := z38.toInt) (q := z49.toInt) c52 rfl rfl
    refine lv_iconst (v := 0) hx hb dX6_stopsInTick_55 (by decide +kernel) ?_
    subst hR; subst hQz
    exact W.zret (v := 0) hx hb hr (by decide +kernel) (fun t ht hW => ⟨⟨0, (), rfl, ⟨⟨by decide +kernel, by decide +kernel⟩, (fun σ h hb => by obtain ⟨A, e1, e2, e3, e4⟩ := hs52 σ h hb; have n := slN_nn σ.1 p1.toInt.toNat (vX σ.1 p1.toInt.toNat).toInt (vY σ.1 p1.toInt.toNat).toInt; rw [tkB_y (by omega)]; show (0 : Int32).toInt = 0; decide +kernel)⟩, ⟨Iz31, J, ⟨hIz31, dn_Iz31, (fun σ h hb => by obtain ⟨A, e1, e2, e3, e4⟩ := hs52 σ h hb; have n := slN_nn σ.1 p1.toInt.toNat (vX σ.1 p1.toInt.toNat).toInt (vY σ.1 p1.toInt.toNat).toInt; rw [tkB_y (by omega)]; exact A), dj_J⟩, by rw [ht]; exact hP⟩⟩, hS.F ht⟩) hS.2.2 dX6_stopsInTick_56
