def yX3_joined : MethodName := ⟨RX3, "joined", "(JJI)J"⟩
abbrev cX3_joined : ByteArray := prog_5_method_11_code
abbrev cX3_becomeCropped : ByteArray := prog_5_method_12_code
abbrev cX3_becomeGrown : ByteArray := prog_5_method_8_code
abbrev cX3_becomeJoined : ByteArray := prog_5_method_10_code
abbrev cX3_becomeThinned : ByteArray := prog_5_method_9_code
def yX3_becomeCropped : MethodName := ⟨RX3, "becomeCropped", "(LMaskTouch$Mask;)V"⟩
def yX3_becomeGrown : MethodName := ⟨RX3, "becomeGrown", "(LMaskTouch$Mask;)V"⟩
def yX3_becomeJoined : MethodName := ⟨RX3, "becomeJoined", "(LMaskTouch$Mask;LMaskTouch$Mask;III)V"⟩
def yX3_becomeThinned : MethodName := ⟨RX3, "becomeThinned", "(LMaskTouch$Mask;)V"⟩
theorem dX3_becomeCropped_0 : decode cX3_becomeCropped 0 = .ok (.aload_n 1, 1) := by decide +kernel
theorem dX3_becomeCropped_1 : decode cX3_becomeCropped 1 = .ok (.getfield 22, 3) := by decide +kernel
theorem dX3_becomeCropped_4 : decode cX3_becomeCropped 4 = .ok (.ifCond .ne 9, 3) := by decide +kernel
theorem dX3_becomeCropped_7 : decode cX3_becomeCropped 7 = .ok (.aload_n 0, 1) := by decide +kernel
theorem dX3_becomeCropped_8 : decode cX3_becomeCropped 8 = .ok (.aload_n 1, 1) := by decide +kernel
theorem dX3_becomeCropped_9 : decode cX3_becomeCropped 9 = .ok (.invokevirtual 92, 3) := by decide +kernel
theorem dX3_becomeCropped_12 : decode cX3_becomeCropped 12 = .ok (.return_, 1) := by decide +kernel
theorem dX3_becomeCropped_13 : decode cX3_becomeCropped 13 = .ok (.aload_n 0, 1) := by decide +kernel
theorem dX3_becomeCropped_14 : decode cX3_becomeCropped 14 = .ok (.aload_n 1, 1) := by decide +kernel
theorem dX3_becomeCropped_15 : decode cX3_becomeCropped 15 = .ok (.getfield 57, 3) := by decide +kernel
theorem dX3_becomeCropped_18 : decode cX3_becomeCropped 18 = .ok (.aload_n 1, 1) := by decide +kernel
theorem dX3_becomeCropped_19 : decode cX3_becomeCropped 19 = .ok (.getfield 51, 3) := by decide +kernel
theorem dX3_becomeCropped_22 : decode cX3_becomeCropped 22 = .ok (.isub, 1) := by decide +kernel
theorem dX3_becomeCropped_23 : decode cX3_becomeCropped 23 = .ok (.iconst 1, 1) := by decide +kernel
theorem dX3_becomeCropped_24 : decode cX3_becomeCropped 24 = .ok (.iadd, 1) := by decide +kernel
theorem dX3_becomeCropped_25 : decode cX3_becomeCropped 25 = .ok (.aload_n 1, 1) := by decide +kernel
theorem dX3_becomeCropped_26 : decode cX3_becomeCropped 26 = .ok (.getfield 38, 3) := by decide +kernel
theorem dX3_becomeCropped_29 : decode cX3_becomeCropped 29 = .ok (.aload_n 1, 1) := by decide +kernel
theorem dX3_becomeCropped_30 : decode cX3_becomeCropped 30 = .ok (.getfield 35, 3) := by decide +kernel
theorem dX3_becomeCropped_33 : decode cX3_becomeCropped 33 = .ok (.isub, 1) := by decide +kernel
theorem dX3_becomeCropped_34 : decode cX3_becomeCropped 34 = .ok (.iconst 1, 1) := by decide +kernel
theorem dX3_becomeCropped_35 : decode cX3_becomeCropped 35 = .ok (.iadd, 1) := by decide +kernel
theorem dX3_becomeCropped_36 : decode cX3_becomeCropped 36 = .ok (.invokevirtual 66, 3) := by decide +kernel
theorem dX3_becomeCropped_39 : decode cX3_becomeCropped 39 = .ok (.iconst 0, 1) := by decide +kernel
theorem dX3_becomeCropped_40 : decode cX3_becomeCropped 40 = .ok (.istore_n 2, 1) := by decide +kernel
theorem dX3_becomeCropped_41 : decode cX3_becomeCropped 41 = .ok (.iload_n 2, 1) := by decide +kernel
theorem dX3_becomeCropped_42 : decode cX3_becomeCropped 42 = .ok (.aload_n 0, 1) := by decide +kernel
theorem dX3_becomeCropped_43 : decode cX3_becomeCropped 43 = .ok (.getfield 19, 3) := by decide +kernel
theorem dX3_becomeCropped_46 : decode cX3_becomeCropped 46 = .ok (.if_icmp .ge 80, 3) := by decide +kernel
theorem dX3_becomeCropped_49 : decode cX3_becomeCropped 49 = .ok (.iconst 2, 1) := by decide +kernel
theorem dX3_becomeCropped_50 : decode cX3_becomeCropped 50 = .ok (.iload_n 2, 1) := by decide +kernel
theorem dX3_becomeCropped_51 : decode cX3_becomeCropped 51 = .ok (.aload_n 1, 1) := by decide +kernel
theorem dX3_becomeCropped_52 : decode cX3_becomeCropped 52 = .ok (.getfield 35, 3) := by decide +kernel
theorem dX3_becomeCropped_55 : decode cX3_becomeCropped 55 = .ok (.iadd, 1) := by decide +kernel
theorem dX3_becomeCropped_56 : decode cX3_becomeCropped 56 = .ok (.imul, 1) := by decide +kernel
theorem dX3_becomeCropped_57 : decode cX3_becomeCropped 57 = .ok (.istore_n 3, 1) := by decide +kernel
theorem dX3_becomeCropped_58 : decode cX3_becomeCropped 58 = .ok (.aload_n 0, 1) := by decide +kernel
theorem dX3_becomeCropped_59 : decode cX3_becomeCropped 59 = .ok (.getfield 9, 3) := by decide +kernel
theorem dX3_becomeCropped_62 : decode cX3_becomeCropped 62 = .ok (.iconst 2, 1) := by decide +kernel
theorem dX3_becomeCropped_63 : decode cX3_becomeCropped 63 = .ok (.iload_n 2, 1) := by decide +kernel
theorem dX3_becomeCropped_64 : decode cX3_becomeCropped 64 = .ok (.imul, 1) := by decide +kernel
theorem dX3_becomeCropped_65 : decode cX3_becomeCropped 65 = .ok (.aload_n 1, 1) := by decide +kernel
theorem dX3_becomeCropped_66 : decode cX3_becomeCropped 66 = .ok (.getfield 9, 3) := by decide +kernel
theorem dX3_becomeCropped_69 : decode cX3_becomeCropped 69 = .ok (.iload_n 3, 1) := by decide +kernel
theorem dX3_becomeCropped_70 : decode cX3_becomeCropped 70 = .ok (.laload, 1) := by decide +kernel
theorem dX3_becomeCropped_71 : decode cX3_becomeCropped 71 = .ok (.aload_n 1, 1) := by decide +kernel
theorem dX3_becomeCropped_72 : decode cX3_becomeCropped 72 = .ok (.getfield 9, 3) := by decide +kernel
theorem dX3_becomeCropped_75 : decode cX3_becomeCropped 75 = .ok (.iload_n 3, 1) := by decide +kernel
theorem dX3_becomeCropped_76 : decode cX3_becomeCropped 76 = .ok (.iconst 1, 1) := by decide +kernel
theorem dX3_becomeCropped_77 : decode cX3_becomeCropped 77 = .ok (.iadd, 1) := by decide +kernel
theorem dX3_becomeCropped_78 : decode cX3_becomeCropped 78 = .ok (.laload, 1) := by decide +kernel
theorem dX3_becomeCropped_79 : decode cX3_becomeCropped 79 = .ok (.aload_n 1, 1) := by decide +kernel
theorem dX3_becomeCropped_80 : decode cX3_becomeCropped 80 = .ok (.getfield 51, 3) := by decide +kernel
theorem dX3_becomeCropped_83 : decode cX3_becomeCropped 83 = .ok (.ineg, 1) := by decide +kernel
theorem dX3_becomeCropped_84 : decode cX3_becomeCropped 84 = .ok (.invokestatic 80, 3) := by decide +kernel
theorem dX3_becomeCropped_87 : decode cX3_becomeCropped 87 = .ok (.lastore, 1) := by decide +kernel
theorem dX3_becomeCropped_88 : decode cX3_becomeCropped 88 = .ok (.aload_n 0, 1) := by decide +kernel
theorem dX3_becomeCropped_89 : decode cX3_becomeCropped 89 = .ok (.getfield 9, 3) := by decide +kernel
theorem dX3_becomeCropped_92 : decode cX3_becomeCropped 92 = .ok (.iconst 2, 1) := by decide +kernel
theorem dX3_becomeCropped_93 : decode cX3_becomeCropped 93 = .ok (.iload_n 2, 1) := by decide +kernel
theorem dX3_becomeCropped_94 : decode cX3_becomeCropped 94 = .ok (.imul, 1) := by decide +kernel
theorem dX3_becomeCropped_95 : decode cX3_becomeCropped 95 = .ok (.iconst 1, 1) := by decide +kernel
theorem dX3_becomeCropped_96 : decode cX3_becomeCropped 96 = .ok (.iadd, 1) := by decide +kernel
theorem dX3_becomeCropped_97 : decode cX3_becomeCropped 97 = .ok (.aload_n 1, 1) := by decide +kernel
theorem dX3_becomeCropped_98 : decode cX3_becomeCropped 98 = .ok (.getfield 9, 3) := by decide +kernel
theorem dX3_becomeCropped_101 : decode cX3_becomeCropped 101 = .ok (.iload_n 3, 1) := by decide +kernel
theorem dX3_becomeCropped_102 : decode cX3_becomeCropped 102 = .ok (.laload, 1) := by decide +kernel
theorem dX3_becomeCropped_103 : decode cX3_becomeCropped 103 = .ok (.aload_n 1, 1) := by decide +kernel
theorem dX3_becomeCropped_104 : decode cX3_becomeCropped 104 = .ok (.getfield 9, 3) := by decide +kernel
theorem dX3_becomeCropped_107 : decode cX3_becomeCropped 107 = .ok (.iload_n 3, 1) := by decide +kernel
theorem dX3_becomeCropped_108 : decode cX3_becomeCropped 108 = .ok (.iconst 1, 1) := by decide +kernel
theorem dX3_becomeCropped_109 : decode cX3_becomeCropped 109 = .ok (.iadd, 1) := by decide +kernel
theorem dX3_becomeCropped_110 : decode cX3_becomeCropped 110 = .ok (.laload, 1) := by decide +kernel
theorem dX3_becomeCropped_111 : decode cX3_becomeCropped 111 = .ok (.aload_n 1, 1) := by decide +kernel
theorem dX3_becomeCropped_112 : decode cX3_becomeCropped 112 = .ok (.getfield 51, 3) := by decide +kernel
theorem dX3_becomeCropped_115 : decode cX3_becomeCropped 115 = .ok (.ineg, 1) := by decide +kernel
theorem dX3_becomeCropped_116 : decode cX3_becomeCropped 116 = .ok (.invokestatic 84, 3) := by decide +kernel
theorem dX3_becomeCropped_119 : decode cX3_becomeCropped 119 = .ok (.lastore, 1) := by decide +kernel
theorem dX3_becomeCropped_120 : decode cX3_becomeCropped 120 = .ok (.iinc 2 1, 3) := by decide +kernel
theorem dX3_becomeCropped_123 : decode cX3_becomeCropped 123 = .ok (.goto (-82), 3) := by decide +kernel
theorem dX3_becomeCropped_126 : decode cX3_becomeCropped 126 = .ok (.aload_n 0, 1) := by decide +kernel
theorem dX3_becomeCropped_127 : decode cX3_becomeCropped 127 = .ok (.invokevirtual 77, 3) := by decide +kernel
theorem dX3_becomeCropped_130 : decode cX3_becomeCropped 130 = .ok (.return_, 1) := by decide +kernel
theorem dX3_becomeGrown_0 : decode cX3_becomeGrown 0 = .ok (.aload_n 0, 1) := by decide +kernel
theorem dX3_becomeGrown_1 : decode cX3_becomeGrown 1 = .ok (.aload_n 1, 1) := by decide +kernel
theorem dX3_becomeGrown_2 : decode cX3_becomeGrown 2 = .ok (.getfield 15, 3) := by decide +kernel
theorem dX3_becomeGrown_5 : decode cX3_becomeGrown 5 = .ok (.aload_n 1, 1) := by decide +kernel
theorem dX3_becomeGrown_6 : decode cX3_becomeGrown 6 = .ok (.getfield 19, 3) := by decide +kernel
theorem dX3_becomeGrown_9 : decode cX3_becomeGrown 9 = .ok (.invokevirtual 66, 3) := by decide +kernel
theorem dX3_becomeGrown_12 : decode cX3_becomeGrown 12 = .ok (.iconst 0, 1) := by decide +kernel
theorem dX3_becomeGrown_13 : decode cX3_becomeGrown 13 = .ok (.istore_n 2, 1) := by decide +kernel
theorem dX3_becomeGrown_14 : decode cX3_becomeGrown 14 = .ok (.iload_n 2, 1) := by decide +kernel
theorem dX3_becomeGrown_15 : decode cX3_becomeGrown 15 = .ok (.iconst 2, 1) := by decide +kernel
theorem dX3_becomeGrown_16 : decode cX3_becomeGrown 16 = .ok (.aload_n 0, 1) := by decide +kernel
theorem dX3_becomeGrown_17 : decode cX3_becomeGrown 17 = .ok (.getfield 19, 3) := by decide +kernel
theorem dX3_becomeGrown_20 : decode cX3_becomeGrown 20 = .ok (.imul, 1) := by decide +kernel
theorem dX3_becomeGrown_21 : decode cX3_becomeGrown 21 = .ok (.if_icmp .ge 164, 3) := by decide +kernel
theorem dX3_becomeGrown_24 : decode cX3_becomeGrown 24 = .ok (.aload_n 1, 1) := by decide +kernel
theorem dX3_becomeGrown_25 : decode cX3_becomeGrown 25 = .ok (.getfield 9, 3) := by decide +kernel
theorem dX3_becomeGrown_28 : decode cX3_becomeGrown 28 = .ok (.iload_n 2, 1) := by decide +kernel
theorem dX3_becomeGrown_29 : decode cX3_becomeGrown 29 = .ok (.laload, 1) := by decide +kernel
theorem dX3_becomeGrown_30 : decode cX3_becomeGrown 30 = .ok (.lstore_n 3, 1) := by decide +kernel
theorem dX3_becomeGrown_31 : decode cX3_becomeGrown 31 = .ok (.aload_n 1, 1) := by decide +kernel
theorem dX3_becomeGrown_32 : decode cX3_becomeGrown 32 = .ok (.getfield 9, 3) := by decide +kernel
theorem dX3_becomeGrown_35 : decode cX3_becomeGrown 35 = .ok (.iload_n 2, 1) := by decide +kernel
theorem dX3_becomeGrown_36 : decode cX3_becomeGrown 36 = .ok (.iconst 1, 1) := by decide +kernel
theorem dX3_becomeGrown_37 : decode cX3_becomeGrown 37 = .ok (.iadd, 1) := by decide +kernel
theorem dX3_becomeGrown_38 : decode cX3_becomeGrown 38 = .ok (.laload, 1) := by decide +kernel
theorem dX3_becomeGrown_39 : decode cX3_becomeGrown 39 = .ok (.lstore 5, 2) := by decide +kernel
theorem dX3_becomeGrown_41 : decode cX3_becomeGrown 41 = .ok (.lload_n 3, 1) := by decide +kernel
theorem dX3_becomeGrown_42 : decode cX3_becomeGrown 42 = .ok (.lload_n 3, 1) := by decide +kernel
theorem dX3_becomeGrown_43 : decode cX3_becomeGrown 43 = .ok (.iconst 1, 1) := by decide +kernel
theorem dX3_becomeGrown_44 : decode cX3_becomeGrown 44 = .ok (.lshl, 1) := by decide +kernel
theorem dX3_becomeGrown_45 : decode cX3_becomeGrown 45 = .ok (.lor, 1) := by decide +kernel
theorem dX3_becomeGrown_46 : decode cX3_becomeGrown 46 = .ok (.lload_n 3, 1) := by decide +kernel
theorem dX3_becomeGrown_47 : decode cX3_becomeGrown 47 = .ok (.iconst 1, 1) := by decide +kernel
theorem dX3_becomeGrown_48 : decode cX3_becomeGrown 48 = .ok (.lushr, 1) := by decide +kernel
theorem dX3_becomeGrown_49 : decode cX3_becomeGrown 49 = .ok (.lor, 1) := by decide +kernel
theorem dX3_becomeGrown_50 : decode cX3_becomeGrown 50 = .ok (.lload 5, 2) := by decide +kernel
theorem dX3_becomeGrown_52 : decode cX3_becomeGrown 52 = .ok (.bipush 63, 2) := by decide +kernel
theorem dX3_becomeGrown_54 : decode cX3_becomeGrown 54 = .ok (.lshl, 1) := by decide +kernel
theorem dX3_becomeGrown_55 : decode cX3_becomeGrown 55 = .ok (.lor, 1) := by decide +kernel
theorem dX3_becomeGrown_56 : decode cX3_becomeGrown 56 = .ok (.lstore 7, 2) := by decide +kernel
theorem dX3_becomeGrown_58 : decode cX3_becomeGrown 58 = .ok (.lload 5, 2) := by decide +kernel
theorem dX3_becomeGrown_60 : decode cX3_becomeGrown 60 = .ok (.lload 5, 2) := by decide +kernel
theorem dX3_becomeGrown_62 : decode cX3_becomeGrown 62 = .ok (.iconst 1, 1) := by decide +kernel
theorem dX3_becomeGrown_63 : decode cX3_becomeGrown 63 = .ok (.lshl, 1) := by decide +kernel
theorem dX3_becomeGrown_64 : decode cX3_becomeGrown 64 = .ok (.lor, 1) := by decide +kernel
theorem dX3_becomeGrown_65 : decode cX3_becomeGrown 65 = .ok (.lload_n 3, 1) := by decide +kernel
theorem dX3_becomeGrown_66 : decode cX3_becomeGrown 66 = .ok (.bipush 63, 2) := by decide +kernel
theorem dX3_becomeGrown_68 : decode cX3_becomeGrown 68 = .ok (.lushr, 1) := by decide +kernel
theorem dX3_becomeGrown_69 : decode cX3_becomeGrown 69 = .ok (.lor, 1) := by decide +kernel
theorem dX3_becomeGrown_70 : decode cX3_becomeGrown 70 = .ok (.lload 5, 2) := by decide +kernel
theorem dX3_becomeGrown_72 : decode cX3_becomeGrown 72 = .ok (.iconst 1, 1) := by decide +kernel
theorem dX3_becomeGrown_73 : decode cX3_becomeGrown 73 = .ok (.lushr, 1) := by decide +kernel
theorem dX3_becomeGrown_74 : decode cX3_becomeGrown 74 = .ok (.lor, 1) := by decide +kernel
theorem dX3_becomeGrown_75 : decode cX3_becomeGrown 75 = .ok (.lstore 9, 2) := by decide +kernel
theorem dX3_becomeGrown_77 : decode cX3_becomeGrown 77 = .ok (.iload_n 2, 1) := by decide +kernel
theorem dX3_becomeGrown_78 : decode cX3_becomeGrown 78 = .ok (.ifCond .le 29, 3) := by decide +kernel
theorem dX3_becomeGrown_81 : decode cX3_becomeGrown 81 = .ok (.lload 7, 2) := by decide +kernel
theorem dX3_becomeGrown_83 : decode cX3_becomeGrown 83 = .ok (.aload_n 1, 1) := by decide +kernel
theorem dX3_becomeGrown_84 : decode cX3_becomeGrown 84 = .ok (.getfield 9, 3) := by decide +kernel
theorem dX3_becomeGrown_87 : decode cX3_becomeGrown 87 = .ok (.iload_n 2, 1) := by decide +kernel
theorem dX3_becomeGrown_88 : decode cX3_becomeGrown 88 = .ok (.iconst 2, 1) := by decide +kernel
theorem dX3_becomeGrown_89 : decode cX3_becomeGrown 89 = .ok (.isub, 1) := by decide +kernel
theorem dX3_becomeGrown_90 : decode cX3_becomeGrown 90 = .ok (.laload, 1) := by decide +kernel
theorem dX3_becomeGrown_91 : decode cX3_becomeGrown 91 = .ok (.lor, 1) := by decide +kernel
theorem dX3_becomeGrown_92 : decode cX3_becomeGrown 92 = .ok (.lstore 7, 2) := by decide +kernel
theorem dX3_becomeGrown_94 : decode cX3_becomeGrown 94 = .ok (.lload 9, 2) := by decide +kernel
theorem dX3_becomeGrown_96 : decode cX3_becomeGrown 96 = .ok (.aload_n 1, 1) := by decide +kernel
theorem dX3_becomeGrown_97 : decode cX3_becomeGrown 97 = .ok (.getfield 9, 3) := by decide +kernel
theorem dX3_becomeGrown_100 : decode cX3_becomeGrown 100 = .ok (.iload_n 2, 1) := by decide +kernel
theorem dX3_becomeGrown_101 : decode cX3_becomeGrown 101 = .ok (.iconst 1, 1) := by decide +kernel
theorem dX3_becomeGrown_102 : decode cX3_becomeGrown 102 = .ok (.isub, 1) := by decide +kernel
theorem dX3_becomeGrown_103 : decode cX3_becomeGrown 103 = .ok (.laload, 1) := by decide +kernel
theorem dX3_becomeGrown_104 : decode cX3_becomeGrown 104 = .ok (.lor, 1) := by decide +kernel
theorem dX3_becomeGrown_105 : decode cX3_becomeGrown 105 = .ok (.lstore 9, 2) := by decide +kernel
theorem dX3_becomeGrown_107 : decode cX3_becomeGrown 107 = .ok (.iload_n 2, 1) := by decide +kernel
theorem dX3_becomeGrown_108 : decode cX3_becomeGrown 108 = .ok (.iconst 3, 1) := by decide +kernel
theorem dX3_becomeGrown_109 : decode cX3_becomeGrown 109 = .ok (.iadd, 1) := by decide +kernel
theorem dX3_becomeGrown_110 : decode cX3_becomeGrown 110 = .ok (.iconst 2, 1) := by decide +kernel
theorem dX3_becomeGrown_111 : decode cX3_becomeGrown 111 = .ok (.aload_n 0, 1) := by decide +kernel
theorem dX3_becomeGrown_112 : decode cX3_becomeGrown 112 = .ok (.getfield 19, 3) := by decide +kernel
theorem dX3_becomeGrown_115 : decode cX3_becomeGrown 115 = .ok (.imul, 1) := by decide +kernel
theorem dX3_becomeGrown_116 : decode cX3_becomeGrown 116 = .ok (.if_icmp .ge 29, 3) := by decide +kernel
theorem dX3_becomeGrown_119 : decode cX3_becomeGrown 119 = .ok (.lload 7, 2) := by decide +kernel
theorem dX3_becomeGrown_121 : decode cX3_becomeGrown 121 = .ok (.aload_n 1, 1) := by decide +kernel
theorem dX3_becomeGrown_122 : decode cX3_becomeGrown 122 = .ok (.getfield 9, 3) := by decide +kernel
theorem dX3_becomeGrown_125 : decode cX3_becomeGrown 125 = .ok (.iload_n 2, 1) := by decide +kernel
theorem dX3_becomeGrown_126 : decode cX3_becomeGrown 126 = .ok (.iconst 2, 1) := by decide +kernel
theorem dX3_becomeGrown_127 : decode cX3_becomeGrown 127 = .ok (.iadd, 1) := by decide +kernel
theorem dX3_becomeGrown_128 : decode cX3_becomeGrown 128 = .ok (.laload, 1) := by decide +kernel
theorem dX3_becomeGrown_129 : decode cX3_becomeGrown 129 = .ok (.lor, 1) := by decide +kernel
theorem dX3_becomeGrown_130 : decode cX3_becomeGrown 130 = .ok (.lstore 7, 2) := by decide +kernel
theorem dX3_becomeGrown_132 : decode cX3_becomeGrown 132 = .ok (.lload 9, 2) := by decide +kernel
theorem dX3_becomeGrown_134 : decode cX3_becomeGrown 134 = .ok (.aload_n 1, 1) := by decide +kernel
theorem dX3_becomeGrown_135 : decode cX3_becomeGrown 135 = .ok (.getfield 9, 3) := by decide +kernel
theorem dX3_becomeGrown_138 : decode cX3_becomeGrown 138 = .ok (.iload_n 2, 1) := by decide +kernel
theorem dX3_becomeGrown_139 : decode cX3_becomeGrown 139 = .ok (.iconst 3, 1) := by decide +kernel
theorem dX3_becomeGrown_140 : decode cX3_becomeGrown 140 = .ok (.iadd, 1) := by decide +kernel
theorem dX3_becomeGrown_141 : decode cX3_becomeGrown 141 = .ok (.laload, 1) := by decide +kernel
theorem dX3_becomeGrown_142 : decode cX3_becomeGrown 142 = .ok (.lor, 1) := by decide +kernel
theorem dX3_becomeGrown_143 : decode cX3_becomeGrown 143 = .ok (.lstore 9, 2) := by decide +kernel
theorem dX3_becomeGrown_145 : decode cX3_becomeGrown 145 = .ok (.aload_n 0, 1) := by decide +kernel
theorem dX3_becomeGrown_146 : decode cX3_becomeGrown 146 = .ok (.getfield 9, 3) := by decide +kernel
theorem dX3_becomeGrown_149 : decode cX3_becomeGrown 149 = .ok (.iload_n 2, 1) := by decide +kernel
theorem dX3_becomeGrown_150 : decode cX3_becomeGrown 150 = .ok (.lload 7, 2) := by decide +kernel
theorem dX3_becomeGrown_152 : decode cX3_becomeGrown 152 = .ok (.aload_n 0, 1) := by decide +kernel
theorem dX3_becomeGrown_153 : decode cX3_becomeGrown 153 = .ok (.getfield 15, 3) := by decide +kernel
theorem dX3_becomeGrown_156 : decode cX3_becomeGrown 156 = .ok (.invokestatic 70, 3) := by decide +kernel
theorem dX3_becomeGrown_159 : decode cX3_becomeGrown 159 = .ok (.land, 1) := by decide +kernel
theorem dX3_becomeGrown_160 : decode cX3_becomeGrown 160 = .ok (.lastore, 1) := by decide +kernel
theorem dX3_becomeGrown_161 : decode cX3_becomeGrown 161 = .ok (.aload_n 0, 1) := by decide +kernel
theorem dX3_becomeGrown_162 : decode cX3_becomeGrown 162 = .ok (.getfield 9, 3) := by decide +kernel
theorem dX3_becomeGrown_165 : decode cX3_becomeGrown 165 = .ok (.iload_n 2, 1) := by decide +kernel
theorem dX3_becomeGrown_166 : decode cX3_becomeGrown 166 = .ok (.iconst 1, 1) := by decide +kernel
theorem dX3_becomeGrown_167 : decode cX3_becomeGrown 167 = .ok (.iadd, 1) := by decide +kernel
theorem dX3_becomeGrown_168 : decode cX3_becomeGrown 168 = .ok (.lload 9, 2) := by decide +kernel
theorem dX3_becomeGrown_170 : decode cX3_becomeGrown 170 = .ok (.aload_n 0, 1) := by decide +kernel
theorem dX3_becomeGrown_171 : decode cX3_becomeGrown 171 = .ok (.getfield 15, 3) := by decide +kernel
theorem dX3_becomeGrown_174 : decode cX3_becomeGrown 174 = .ok (.invokestatic 74, 3) := by decide +kernel
theorem dX3_becomeGrown_177 : decode cX3_becomeGrown 177 = .ok (.land, 1) := by decide +kernel
theorem dX3_becomeGrown_178 : decode cX3_becomeGrown 178 = .ok (.lastore, 1) := by decide +kernel
theorem dX3_becomeGrown_179 : decode cX3_becomeGrown 179 = .ok (.iinc 2 2, 3) := by decide +kernel
theorem dX3_becomeGrown_182 : decode cX3_becomeGrown 182 = .ok (.goto (-168), 3) := by decide +kernel
theorem dX3_becomeGrown_185 : decode cX3_becomeGrown 185 = .ok (.aload_n 0, 1) := by decide +kernel
theorem dX3_becomeGrown_186 : decode cX3_becomeGrown 186 = .ok (.invokevirtual 77, 3) := by decide +kernel
theorem dX3_becomeGrown_189 : decode cX3_becomeGrown 189 = .ok (.return_, 1) := by decide +kernel
theorem dX3_becomeJoined_0 : decode cX3_becomeJoined 0 = .ok (.aload_n 0, 1) := by decide +kernel
theorem dX3_becomeJoined_1 : decode cX3_becomeJoined 1 = .ok (.aload_n 1, 1) := by decide +kernel
theorem dX3_becomeJoined_2 : decode cX3_becomeJoined 2 = .ok (.getfield 15, 3) := by decide +kernel
theorem dX3_becomeJoined_5 : decode cX3_becomeJoined 5 = .ok (.aload_n 1, 1) := by decide +kernel
theorem dX3_becomeJoined_6 : decode cX3_becomeJoined 6 = .ok (.getfield 19, 3) := by decide +kernel
theorem dX3_becomeJoined_9 : decode cX3_becomeJoined 9 = .ok (.invokevirtual 66, 3) := by decide +kernel
theorem dX3_becomeJoined_12 : decode cX3_becomeJoined 12 = .ok (.iconst 0, 1) := by decide +kernel
theorem dX3_becomeJoined_13 : decode cX3_becomeJoined 13 = .ok (.istore 6, 2) := by decide +kernel
theorem dX3_becomeJoined_15 : decode cX3_becomeJoined 15 = .ok (.iload 6, 2) := by decide +kernel
theorem dX3_becomeJoined_17 : decode cX3_becomeJoined 17 = .ok (.aload_n 0, 1) := by decide +kernel
theorem dX3_becomeJoined_18 : decode cX3_becomeJoined 18 = .ok (.getfield 19, 3) := by decide +kernel
theorem dX3_becomeJoined_21 : decode cX3_becomeJoined 21 = .ok (.if_icmp .ge 158, 3) := by decide +kernel
theorem dX3_becomeJoined_24 : decode cX3_becomeJoined 24 = .ok (.lconst 0, 1) := by decide +kernel
theorem dX3_becomeJoined_25 : decode cX3_becomeJoined 25 = .ok (.lstore 7, 2) := by decide +kernel
theorem dX3_becomeJoined_27 : decode cX3_becomeJoined 27 = .ok (.lconst 0, 1) := by decide +kernel
theorem dX3_becomeJoined_28 : decode cX3_becomeJoined 28 = .ok (.lstore 9, 2) := by decide +kernel
theorem dX3_becomeJoined_30 : decode cX3_becomeJoined 30 = .ok (.iload 6, 2) := by decide +kernel
theorem dX3_becomeJoined_32 : decode cX3_becomeJoined 32 = .ok (.iload 4, 2) := by decide +kernel
theorem dX3_becomeJoined_34 : decode cX3_becomeJoined 34 = .ok (.isub, 1) := by decide +kernel
theorem dX3_becomeJoined_35 : decode cX3_becomeJoined 35 = .ok (.istore 11, 2) := by decide +kernel
theorem dX3_becomeJoined_37 : decode cX3_becomeJoined 37 = .ok (.iload 11, 2) := by decide +kernel
theorem dX3_becomeJoined_39 : decode cX3_becomeJoined 39 = .ok (.ifCond .lt 80, 3) := by decide +kernel
theorem dX3_becomeJoined_42 : decode cX3_becomeJoined 42 = .ok (.iload 11, 2) := by decide +kernel
theorem dX3_becomeJoined_44 : decode cX3_becomeJoined 44 = .ok (.aload_n 2, 1) := by decide +kernel
theorem dX3_becomeJoined_45 : decode cX3_becomeJoined 45 = .ok (.getfield 19, 3) := by decide +kernel
theorem dX3_becomeJoined_48 : decode cX3_becomeJoined 48 = .ok (.if_icmp .ge 71, 3) := by decide +kernel
theorem dX3_becomeJoined_51 : decode cX3_becomeJoined 51 = .ok (.aload_n 2, 1) := by decide +kernel
theorem dX3_becomeJoined_52 : decode cX3_becomeJoined 52 = .ok (.getfield 9, 3) := by decide +kernel
theorem dX3_becomeJoined_55 : decode cX3_becomeJoined 55 = .ok (.iconst 2, 1) := by decide +kernel
theorem dX3_becomeJoined_56 : decode cX3_becomeJoined 56 = .ok (.iload 11, 2) := by decide +kernel
theorem dX3_becomeJoined_58 : decode cX3_becomeJoined 58 = .ok (.imul, 1) := by decide +kernel
theorem dX3_becomeJoined_59 : decode cX3_becomeJoined 59 = .ok (.laload, 1) := by decide +kernel
theorem dX3_becomeJoined_60 : decode cX3_becomeJoined 60 = .ok (.aload_n 2, 1) := by decide +kernel
theorem dX3_becomeJoined_61 : decode cX3_becomeJoined 61 = .ok (.getfield 9, 3) := by decide +kernel
theorem dX3_becomeJoined_64 : decode cX3_becomeJoined 64 = .ok (.iconst 2, 1) := by decide +kernel
theorem dX3_becomeJoined_65 : decode cX3_becomeJoined 65 = .ok (.iload 11, 2) := by decide +kernel
theorem dX3_becomeJoined_67 : decode cX3_becomeJoined 67 = .ok (.imul, 1) := by decide +kernel
theorem dX3_becomeJoined_68 : decode cX3_becomeJoined 68 = .ok (.iconst 1, 1) := by decide +kernel
theorem dX3_becomeJoined_69 : decode cX3_becomeJoined 69 = .ok (.iadd, 1) := by decide +kernel
theorem dX3_becomeJoined_70 : decode cX3_becomeJoined 70 = .ok (.laload, 1) := by decide +kernel
theorem dX3_becomeJoined_71 : decode cX3_becomeJoined 71 = .ok (.iload_n 3, 1) := by decide +kernel
theorem dX3_becomeJoined_72 : decode cX3_becomeJoined 72 = .ok (.invokestatic 80, 3) := by decide +kernel
theorem dX3_becomeJoined_75 : decode cX3_becomeJoined 75 = .ok (.aload_n 0, 1) := by decide +kernel
theorem dX3_becomeJoined_76 : decode cX3_becomeJoined 76 = .ok (.getfield 15, 3) := by decide +kernel
theorem dX3_becomeJoined_79 : decode cX3_becomeJoined 79 = .ok (.invokestatic 70, 3) := by decide +kernel
theorem dX3_becomeJoined_82 : decode cX3_becomeJoined 82 = .ok (.land, 1) := by decide +kernel
theorem dX3_becomeJoined_83 : decode cX3_becomeJoined 83 = .ok (.lstore 7, 2) := by decide +kernel
theorem dX3_becomeJoined_85 : decode cX3_becomeJoined 85 = .ok (.aload_n 2, 1) := by decide +kernel
theorem dX3_becomeJoined_86 : decode cX3_becomeJoined 86 = .ok (.getfield 9, 3) := by decide +kernel
theorem dX3_becomeJoined_89 : decode cX3_becomeJoined 89 = .ok (.iconst 2, 1) := by decide +kernel
theorem dX3_becomeJoined_90 : decode cX3_becomeJoined 90 = .ok (.iload 11, 2) := by decide +kernel
theorem dX3_becomeJoined_92 : decode cX3_becomeJoined 92 = .ok (.imul, 1) := by decide +kernel
theorem dX3_becomeJoined_93 : decode cX3_becomeJoined 93 = .ok (.laload, 1) := by decide +kernel
theorem dX3_becomeJoined_94 : decode cX3_becomeJoined 94 = .ok (.aload_n 2, 1) := by decide +kernel
theorem dX3_becomeJoined_95 : decode cX3_becomeJoined 95 = .ok (.getfield 9, 3) := by decide +kernel
theorem dX3_becomeJoined_98 : decode cX3_becomeJoined 98 = .ok (.iconst 2, 1) := by decide +kernel
theorem dX3_becomeJoined_99 : decode cX3_becomeJoined 99 = .ok (.iload 11, 2) := by decide +kernel
theorem dX3_becomeJoined_101 : decode cX3_becomeJoined 101 = .ok (.imul, 1) := by decide +kernel
theorem dX3_becomeJoined_102 : decode cX3_becomeJoined 102 = .ok (.iconst 1, 1) := by decide +kernel
theorem dX3_becomeJoined_103 : decode cX3_becomeJoined 103 = .ok (.iadd, 1) := by decide +kernel
theorem dX3_becomeJoined_104 : decode cX3_becomeJoined 104 = .ok (.laload, 1) := by decide +kernel
theorem dX3_becomeJoined_105 : decode cX3_becomeJoined 105 = .ok (.iload_n 3, 1) := by decide +kernel
theorem dX3_becomeJoined_106 : decode cX3_becomeJoined 106 = .ok (.invokestatic 84, 3) := by decide +kernel
theorem dX3_becomeJoined_109 : decode cX3_becomeJoined 109 = .ok (.aload_n 0, 1) := by decide +kernel
theorem dX3_becomeJoined_110 : decode cX3_becomeJoined 110 = .ok (.getfield 15, 3) := by decide +kernel
theorem dX3_becomeJoined_113 : decode cX3_becomeJoined 113 = .ok (.invokestatic 74, 3) := by decide +kernel
theorem dX3_becomeJoined_116 : decode cX3_becomeJoined 116 = .ok (.land, 1) := by decide +kernel
theorem dX3_becomeJoined_117 : decode cX3_becomeJoined 117 = .ok (.lstore 9, 2) := by decide +kernel
theorem dX3_becomeJoined_119 : decode cX3_becomeJoined 119 = .ok (.aload_n 0, 1) := by decide +kernel
theorem dX3_becomeJoined_120 : decode cX3_becomeJoined 120 = .ok (.getfield 9, 3) := by decide +kernel
theorem dX3_becomeJoined_123 : decode cX3_becomeJoined 123 = .ok (.iconst 2, 1) := by decide +kernel
theorem dX3_becomeJoined_124 : decode cX3_becomeJoined 124 = .ok (.iload 6, 2) := by decide +kernel
theorem dX3_becomeJoined_126 : decode cX3_becomeJoined 126 = .ok (.imul, 1) := by decide +kernel
theorem dX3_becomeJoined_127 : decode cX3_becomeJoined 127 = .ok (.aload_n 1, 1) := by decide +kernel
theorem dX3_becomeJoined_128 : decode cX3_becomeJoined 128 = .ok (.getfield 9, 3) := by decide +kernel
theorem dX3_becomeJoined_131 : decode cX3_becomeJoined 131 = .ok (.iconst 2, 1) := by decide +kernel
theorem dX3_becomeJoined_132 : decode cX3_becomeJoined 132 = .ok (.iload 6, 2) := by decide +kernel
theorem dX3_becomeJoined_134 : decode cX3_becomeJoined 134 = .ok (.imul, 1) := by decide +kernel
theorem dX3_becomeJoined_135 : decode cX3_becomeJoined 135 = .ok (.laload, 1) := by decide +kernel
theorem dX3_becomeJoined_136 : decode cX3_becomeJoined 136 = .ok (.lload 7, 2) := by decide +kernel
theorem dX3_becomeJoined_138 : decode cX3_becomeJoined 138 = .ok (.iload 5, 2) := by decide +kernel
theorem dX3_becomeJoined_140 : decode cX3_becomeJoined 140 = .ok (.invokestatic 87, 3) := by decide +kernel
theorem dX3_becomeJoined_143 : decode cX3_becomeJoined 143 = .ok (.lastore, 1) := by decide +kernel
theorem dX3_becomeJoined_144 : decode cX3_becomeJoined 144 = .ok (.aload_n 0, 1) := by decide +kernel
theorem dX3_becomeJoined_145 : decode cX3_becomeJoined 145 = .ok (.getfield 9, 3) := by decide +kernel
theorem dX3_becomeJoined_148 : decode cX3_becomeJoined 148 = .ok (.iconst 2, 1) := by decide +kernel
theorem dX3_becomeJoined_149 : decode cX3_becomeJoined 149 = .ok (.iload 6, 2) := by decide +kernel
theorem dX3_becomeJoined_151 : decode cX3_becomeJoined 151 = .ok (.imul, 1) := by decide +kernel
theorem dX3_becomeJoined_152 : decode cX3_becomeJoined 152 = .ok (.iconst 1, 1) := by decide +kernel
theorem dX3_becomeJoined_153 : decode cX3_becomeJoined 153 = .ok (.iadd, 1) := by decide +kernel
theorem dX3_becomeJoined_154 : decode cX3_becomeJoined 154 = .ok (.aload_n 1, 1) := by decide +kernel
theorem dX3_becomeJoined_155 : decode cX3_becomeJoined 155 = .ok (.getfield 9, 3) := by decide +kernel
theorem dX3_becomeJoined_158 : decode cX3_becomeJoined 158 = .ok (.iconst 2, 1) := by decide +kernel
theorem dX3_becomeJoined_159 : decode cX3_becomeJoined 159 = .ok (.iload 6, 2) := by decide +kernel
theorem dX3_becomeJoined_161 : decode cX3_becomeJoined 161 = .ok (.imul, 1) := by decide +kernel
theorem dX3_becomeJoined_162 : decode cX3_becomeJoined 162 = .ok (.iconst 1, 1) := by decide +kernel
theorem dX3_becomeJoined_163 : decode cX3_becomeJoined 163 = .ok (.iadd, 1) := by decide +kernel
theorem dX3_becomeJoined_164 : decode cX3_becomeJoined 164 = .ok (.laload, 1) := by decide +kernel
theorem dX3_becomeJoined_165 : decode cX3_becomeJoined 165 = .ok (.lload 9, 2) := by decide +kernel
theorem dX3_becomeJoined_167 : decode cX3_becomeJoined 167 = .ok (.iload 5, 2) := by decide +kernel
theorem dX3_becomeJoined_169 : decode cX3_becomeJoined 169 = .ok (.invokestatic 87, 3) := by decide +kernel
theorem dX3_becomeJoined_172 : decode cX3_becomeJoined 172 = .ok (.lastore, 1) := by decide +kernel
theorem dX3_becomeJoined_173 : decode cX3_becomeJoined 173 = .ok (.iinc 6 1, 3) := by decide +kernel
theorem dX3_becomeJoined_176 : decode cX3_becomeJoined 176 = .ok (.goto (-161), 3) := by decide +kernel
theorem dX3_becomeJoined_179 : decode cX3_becomeJoined 179 = .ok (.aload_n 0, 1) := by decide +kernel
theorem dX3_becomeJoined_180 : decode cX3_becomeJoined 180 = .ok (.invokevirtual 77, 3) := by decide +kernel
theorem dX3_becomeJoined_183 : decode cX3_becomeJoined 183 = .ok (.return_, 1) := by decide +kernel
theorem dX3_becomeThinned_0 : decode cX3_becomeThinned 0 = .ok (.aload_n 0, 1) := by decide +kernel
theorem dX3_becomeThinned_1 : decode cX3_becomeThinned 1 = .ok (.aload_n 1, 1) := by decide +kernel
theorem dX3_becomeThinned_2 : decode cX3_becomeThinned 2 = .ok (.getfield 15, 3) := by decide +kernel
theorem dX3_becomeThinned_5 : decode cX3_becomeThinned 5 = .ok (.aload_n 1, 1) := by decide +kernel
theorem dX3_becomeThinned_6 : decode cX3_becomeThinned 6 = .ok (.getfield 19, 3) := by decide +kernel
theorem dX3_becomeThinned_9 : decode cX3_becomeThinned 9 = .ok (.invokevirtual 66, 3) := by decide +kernel
theorem dX3_becomeThinned_12 : decode cX3_becomeThinned 12 = .ok (.iconst 2, 1) := by decide +kernel
theorem dX3_becomeThinned_13 : decode cX3_becomeThinned 13 = .ok (.istore_n 2, 1) := by decide +kernel
theorem dX3_becomeThinned_14 : decode cX3_becomeThinned 14 = .ok (.iload_n 2, 1) := by decide +kernel
theorem dX3_becomeThinned_15 : decode cX3_becomeThinned 15 = .ok (.iconst 3, 1) := by decide +kernel
theorem dX3_becomeThinned_16 : decode cX3_becomeThinned 16 = .ok (.iadd, 1) := by decide +kernel
theorem dX3_becomeThinned_17 : decode cX3_becomeThinned 17 = .ok (.iconst 2, 1) := by decide +kernel
theorem dX3_becomeThinned_18 : decode cX3_becomeThinned 18 = .ok (.aload_n 0, 1) := by decide +kernel
theorem dX3_becomeThinned_19 : decode cX3_becomeThinned 19 = .ok (.getfield 19, 3) := by decide +kernel
theorem dX3_becomeThinned_22 : decode cX3_becomeThinned 22 = .ok (.imul, 1) := by decide +kernel
theorem dX3_becomeThinned_23 : decode cX3_becomeThinned 23 = .ok (.if_icmp .ge 108, 3) := by decide +kernel
theorem dX3_becomeThinned_26 : decode cX3_becomeThinned 26 = .ok (.aload_n 1, 1) := by decide +kernel
theorem dX3_becomeThinned_27 : decode cX3_becomeThinned 27 = .ok (.getfield 9, 3) := by decide +kernel
theorem dX3_becomeThinned_30 : decode cX3_becomeThinned 30 = .ok (.iload_n 2, 1) := by decide +kernel
theorem dX3_becomeThinned_31 : decode cX3_becomeThinned 31 = .ok (.laload, 1) := by decide +kernel
theorem dX3_becomeThinned_32 : decode cX3_becomeThinned 32 = .ok (.lstore_n 3, 1) := by decide +kernel
theorem dX3_becomeThinned_33 : decode cX3_becomeThinned 33 = .ok (.aload_n 1, 1) := by decide +kernel
theorem dX3_becomeThinned_34 : decode cX3_becomeThinned 34 = .ok (.getfield 9, 3) := by decide +kernel
theorem dX3_becomeThinned_37 : decode cX3_becomeThinned 37 = .ok (.iload_n 2, 1) := by decide +kernel
theorem dX3_becomeThinned_38 : decode cX3_becomeThinned 38 = .ok (.iconst 1, 1) := by decide +kernel
theorem dX3_becomeThinned_39 : decode cX3_becomeThinned 39 = .ok (.iadd, 1) := by decide +kernel
theorem dX3_becomeThinned_40 : decode cX3_becomeThinned 40 = .ok (.laload, 1) := by decide +kernel
theorem dX3_becomeThinned_41 : decode cX3_becomeThinned 41 = .ok (.lstore 5, 2) := by decide +kernel
theorem dX3_becomeThinned_43 : decode cX3_becomeThinned 43 = .ok (.aload_n 0, 1) := by decide +kernel
theorem dX3_becomeThinned_44 : decode cX3_becomeThinned 44 = .ok (.getfield 9, 3) := by decide +kernel
theorem dX3_becomeThinned_47 : decode cX3_becomeThinned 47 = .ok (.iload_n 2, 1) := by decide +kernel
theorem dX3_becomeThinned_48 : decode cX3_becomeThinned 48 = .ok (.lload_n 3, 1) := by decide +kernel
theorem dX3_becomeThinned_49 : decode cX3_becomeThinned 49 = .ok (.lload_n 3, 1) := by decide +kernel
theorem dX3_becomeThinned_50 : decode cX3_becomeThinned 50 = .ok (.iconst 1, 1) := by decide +kernel
theorem dX3_becomeThinned_51 : decode cX3_becomeThinned 51 = .ok (.lshl, 1) := by decide +kernel
theorem dX3_becomeThinned_52 : decode cX3_becomeThinned 52 = .ok (.land, 1) := by decide +kernel
theorem dX3_becomeThinned_53 : decode cX3_becomeThinned 53 = .ok (.lload_n 3, 1) := by decide +kernel
theorem dX3_becomeThinned_54 : decode cX3_becomeThinned 54 = .ok (.iconst 1, 1) := by decide +kernel
theorem dX3_becomeThinned_55 : decode cX3_becomeThinned 55 = .ok (.lushr, 1) := by decide +kernel
theorem dX3_becomeThinned_56 : decode cX3_becomeThinned 56 = .ok (.lload 5, 2) := by decide +kernel
theorem dX3_becomeThinned_58 : decode cX3_becomeThinned 58 = .ok (.bipush 63, 2) := by decide +kernel
theorem dX3_becomeThinned_60 : decode cX3_becomeThinned 60 = .ok (.lshl, 1) := by decide +kernel
theorem dX3_becomeThinned_61 : decode cX3_becomeThinned 61 = .ok (.lor, 1) := by decide +kernel
theorem dX3_becomeThinned_62 : decode cX3_becomeThinned 62 = .ok (.land, 1) := by decide +kernel
theorem dX3_becomeThinned_63 : decode cX3_becomeThinned 63 = .ok (.aload_n 1, 1) := by decide +kernel
theorem dX3_becomeThinned_64 : decode cX3_becomeThinned 64 = .ok (.getfield 9, 3) := by decide +kernel
theorem dX3_becomeThinned_67 : decode cX3_becomeThinned 67 = .ok (.iload_n 2, 1) := by decide +kernel
theorem dX3_becomeThinned_68 : decode cX3_becomeThinned 68 = .ok (.iconst 2, 1) := by decide +kernel
theorem dX3_becomeThinned_69 : decode cX3_becomeThinned 69 = .ok (.isub, 1) := by decide +kernel
theorem dX3_becomeThinned_70 : decode cX3_becomeThinned 70 = .ok (.laload, 1) := by decide +kernel
theorem dX3_becomeThinned_71 : decode cX3_becomeThinned 71 = .ok (.land, 1) := by decide +kernel
theorem dX3_becomeThinned_72 : decode cX3_becomeThinned 72 = .ok (.aload_n 1, 1) := by decide +kernel
theorem dX3_becomeThinned_73 : decode cX3_becomeThinned 73 = .ok (.getfield 9, 3) := by decide +kernel
theorem dX3_becomeThinned_76 : decode cX3_becomeThinned 76 = .ok (.iload_n 2, 1) := by decide +kernel
theorem dX3_becomeThinned_77 : decode cX3_becomeThinned 77 = .ok (.iconst 2, 1) := by decide +kernel
theorem dX3_becomeThinned_78 : decode cX3_becomeThinned 78 = .ok (.iadd, 1) := by decide +kernel
theorem dX3_becomeThinned_79 : decode cX3_becomeThinned 79 = .ok (.laload, 1) := by decide +kernel
theorem dX3_becomeThinned_80 : decode cX3_becomeThinned 80 = .ok (.land, 1) := by decide +kernel
theorem dX3_becomeThinned_81 : decode cX3_becomeThinned 81 = .ok (.lastore, 1) := by decide +kernel
theorem dX3_becomeThinned_82 : decode cX3_becomeThinned 82 = .ok (.aload_n 0, 1) := by decide +kernel
theorem dX3_becomeThinned_83 : decode cX3_becomeThinned 83 = .ok (.getfield 9, 3) := by decide +kernel
theorem dX3_becomeThinned_86 : decode cX3_becomeThinned 86 = .ok (.iload_n 2, 1) := by decide +kernel
theorem dX3_becomeThinned_87 : decode cX3_becomeThinned 87 = .ok (.iconst 1, 1) := by decide +kernel
theorem dX3_becomeThinned_88 : decode cX3_becomeThinned 88 = .ok (.iadd, 1) := by decide +kernel
theorem dX3_becomeThinned_89 : decode cX3_becomeThinned 89 = .ok (.lload 5, 2) := by decide +kernel
theorem dX3_becomeThinned_91 : decode cX3_becomeThinned 91 = .ok (.lload 5, 2) := by decide +kernel
theorem dX3_becomeThinned_93 : decode cX3_becomeThinned 93 = .ok (.iconst 1, 1) := by decide +kernel
theorem dX3_becomeThinned_94 : decode cX3_becomeThinned 94 = .ok (.lshl, 1) := by decide +kernel
theorem dX3_becomeThinned_95 : decode cX3_becomeThinned 95 = .ok (.lload_n 3, 1) := by decide +kernel
theorem dX3_becomeThinned_96 : decode cX3_becomeThinned 96 = .ok (.bipush 63, 2) := by decide +kernel
theorem dX3_becomeThinned_98 : decode cX3_becomeThinned 98 = .ok (.lushr, 1) := by decide +kernel
theorem dX3_becomeThinned_99 : decode cX3_becomeThinned 99 = .ok (.lor, 1) := by decide +kernel
theorem dX3_becomeThinned_100 : decode cX3_becomeThinned 100 = .ok (.land, 1) := by decide +kernel
theorem dX3_becomeThinned_101 : decode cX3_becomeThinned 101 = .ok (.lload 5, 2) := by decide +kernel
theorem dX3_becomeThinned_103 : decode cX3_becomeThinned 103 = .ok (.iconst 1, 1) := by decide +kernel
theorem dX3_becomeThinned_104 : decode cX3_becomeThinned 104 = .ok (.lushr, 1) := by decide +kernel
theorem dX3_becomeThinned_105 : decode cX3_becomeThinned 105 = .ok (.land, 1) := by decide +kernel
theorem dX3_becomeThinned_106 : decode cX3_becomeThinned 106 = .ok (.aload_n 1, 1) := by decide +kernel
theorem dX3_becomeThinned_107 : decode cX3_becomeThinned 107 = .ok (.getfield 9, 3) := by decide +kernel
theorem dX3_becomeThinned_110 : decode cX3_becomeThinned 110 = .ok (.iload_n 2, 1) := by decide +kernel
theorem dX3_becomeThinned_111 : decode cX3_becomeThinned 111 = .ok (.iconst 1, 1) := by decide +kernel
theorem dX3_becomeThinned_112 : decode cX3_becomeThinned 112 = .ok (.isub, 1) := by decide +kernel
theorem dX3_becomeThinned_113 : decode cX3_becomeThinned 113 = .ok (.laload, 1) := by decide +kernel
theorem dX3_becomeThinned_114 : decode cX3_becomeThinned 114 = .ok (.land, 1) := by decide +kernel
theorem dX3_becomeThinned_115 : decode cX3_becomeThinned 115 = .ok (.aload_n 1, 1) := by decide +kernel
theorem dX3_becomeThinned_116 : decode cX3_becomeThinned 116 = .ok (.getfield 9, 3) := by decide +kernel
theorem dX3_becomeThinned_119 : decode cX3_becomeThinned 119 = .ok (.iload_n 2, 1) := by decide +kernel
theorem dX3_becomeThinned_120 : decode cX3_becomeThinned 120 = .ok (.iconst 3, 1) := by decide +kernel
theorem dX3_becomeThinned_121 : decode cX3_becomeThinned 121 = .ok (.iadd, 1) := by decide +kernel
theorem dX3_becomeThinned_122 : decode cX3_becomeThinned 122 = .ok (.laload, 1) := by decide +kernel
theorem dX3_becomeThinned_123 : decode cX3_becomeThinned 123 = .ok (.land, 1) := by decide +kernel
theorem dX3_becomeThinned_124 : decode cX3_becomeThinned 124 = .ok (.lastore, 1) := by decide +kernel
theorem dX3_becomeThinned_125 : decode cX3_becomeThinned 125 = .ok (.iinc 2 2, 3) := by decide +kernel
theorem dX3_becomeThinned_128 : decode cX3_becomeThinned 128 = .ok (.goto (-114), 3) := by decide +kernel
theorem dX3_becomeThinned_131 : decode cX3_becomeThinned 131 = .ok (.aload_n 0, 1) := by decide +kernel
theorem dX3_becomeThinned_132 : decode cX3_becomeThinned 132 = .ok (.invokevirtual 77, 3) := by decide +kernel
theorem dX3_becomeThinned_135 : decode cX3_becomeThinned 135 = .ok (.return_, 1) := by decide +kernel
theorem dX3_joined_0 : decode cX3_joined 0 = .ok (.iload 4, 2) := by decide +kernel
theorem dX3_joined_2 : decode cX3_joined 2 = .ok (.tableswitch 42 0 2 #[26, 30, 34], 26) := by decide +kernel
theorem dX3_joined_28 : decode cX3_joined 28 = .ok (.lload_n 0, 1) := by decide +kernel
theorem dX3_joined_29 : decode cX3_joined 29 = .ok (.lload_n 2, 1) := by decide +kernel
theorem dX3_joined_30 : decode cX3_joined 30 = .ok (.lor, 1) := by decide +kernel
theorem dX3_joined_31 : decode cX3_joined 31 = .ok (.lreturn, 1) := by decide +kernel
theorem dX3_joined_32 : decode cX3_joined 32 = .ok (.lload_n 0, 1) := by decide +kernel
theorem dX3_joined_33 : decode cX3_joined 33 = .ok (.lload_n 2, 1) := by decide +kernel
theorem dX3_joined_34 : decode cX3_joined 34 = .ok (.land, 1) := by decide +kernel
theorem dX3_joined_35 : decode cX3_joined 35 = .ok (.lreturn, 1) := by decide +kernel
theorem dX3_joined_36 : decode cX3_joined 36 = .ok (.lload_n 0, 1) := by decide +kernel
theorem dX3_joined_37 : decode cX3_joined 37 = .ok (.lload_n 2, 1) := by decide +kernel
theorem dX3_joined_38 : decode cX3_joined 38 = .ok (.ldc2_w 90, 3) := by decide +kernel
theorem dX3_joined_41 : decode cX3_joined 41 = .ok (.lxor, 1) := by decide +kernel
theorem dX3_joined_42 : decode cX3_joined 42 = .ok (.land, 1) := by decide +kernel
theorem dX3_joined_43 : decode cX3_joined 43 = .ok (.lreturn, 1) := by decide +kernel
theorem dX3_joined_44 : decode cX3_joined 44 = .ok (.lload_n 0, 1) := by decide +kernel
theorem dX3_joined_45 : decode cX3_joined 45 = .ok (.lload_n 2, 1) := by decide +kernel
theorem dX3_joined_46 : decode cX3_joined 46 = .ok (.lxor, 1) := by decide +kernel
theorem dX3_joined_47 : decode cX3_joined 47 = .ok (.lreturn, 1) := by decide +kernel
set_option maxRecDepth 100000 in
theorem pq493 : Cond.instanceMethod yX3_resize ∈ pw := pw_mem (i := 493) (by decide +kernel) rfl
set_option maxRecDepth 100000 in
theorem pq494 : Cond.selects RX3 yX3_resize yX3_resize ∈ pw := pw_mem (i := 494) (by decide +kernel) rfl
set_option maxRecDepth 100000 in
theorem pq495 : Cond.code yX3_resize cX3_resize 3 none ∈ pw := pw_mem (i := 495) (by rfl) rfl
set_option maxRecDepth 100000 in
theorem pq503 : Cond.static yX3_lowOnes ∈ pw := pw_mem (i := 503) (by decide +kernel) rfl
set_option maxRecDepth 100000 in
theorem pq504 : Cond.code yX3_lowOnes cX3_lowOnes 1 (some .long) ∈ pw := pw_mem (i := 504) (by rfl) rfl
set_option maxRecDepth 100000 in
theorem pq507 : Cond.static yX3_highOnes ∈ pw := pw_mem (i := 507) (by decide +kernel) rfl
set_option maxRecDepth 100000 in
theorem pq508 : Cond.code yX3_highOnes cX3_highOnes 1 (some .long) ∈ pw := pw_mem (i := 508) (by rfl) rfl
set_option maxRecDepth 100000 in
theorem pq542 : Cond.instanceMethod yX3_measure ∈ pw := pw_mem (i := 542) (by decide +kernel) rfl
set_option maxRecDepth 100000 in
theorem pq543 : Cond.selects RX3 yX3_measure yX3_measure ∈ pw := pw_mem (i := 543) (by decide +kernel) rfl
set_option maxRecDepth 100000 in
theorem pq544 : Cond.code yX3_measure cX3_measure 10 none ∈ pw := pw_mem (i := 544) (by rfl) rfl
set_option maxRecDepth 100000 in
theorem pq594 : Cond.instanceMethod yX3_become ∈ pw := pw_mem (i := 594) (by decide +kernel) rfl
set_option maxRecDepth 100000 in
theorem pq595 : Cond.selects RX3 yX3_become yX3_become ∈ pw := pw_mem (i := 595) (by decide +kernel) rfl
set_option maxRecDepth 100000 in
theorem pq596 : Cond.code yX3_become cX3_become 2 none ∈ pw := pw_mem (i := 596) (by rfl) rfl
set_option maxRecDepth 100000 in
theorem pq612 : Cond.methodLink RX3 92 yX3_become ∈ pw := pw_mem (i := 612) (by decide +kernel) rfl
set_option maxRecDepth 100000 in
theorem pq613 : Cond.methodLink RX3 66 yX3_resize ∈ pw := pw_mem (i := 613) (by decide +kernel) rfl
set_option maxRecDepth 100000 in
theorem pq622 : Cond.methodLink RX3 80 yX3_shiftedLow ∈ pw := pw_mem (i := 622) (by decide +kernel) rfl
set_option maxRecDepth 100000 in
theorem pq623 : Cond.static yX3_shiftedLow ∈ pw := pw_mem (i := 623) (by decide +kernel) rfl
set_option maxRecDepth 100000 in
theorem pq624 : Cond.code yX3_shiftedLow cX3_shiftedLow 5 (some .long) ∈ pw := pw_mem (i := 624) (by rfl) rfl
set_option maxRecDepth 100000 in
theorem pq625 : Cond.methodLink RX3 84 yX3_shiftedHigh ∈ pw := pw_mem (i := 625) (by decide +kernel) rfl
set_option maxRecDepth 100000 in
theorem pq626 : Cond.static yX3_shiftedHigh ∈ pw := pw_mem (i := 626) (by decide +kernel) rfl
set_option maxRecDepth 100000 in
theorem pq627 : Cond.code yX3_shiftedHigh cX3_shiftedHigh 5 (some .long) ∈ pw := pw_mem (i := 627) (by rfl) rfl
set_option maxRecDepth 100000 in
theorem pq631 : Cond.methodLink RX3 77 yX3_measure ∈ pw := pw_mem (i := 631) (by decide +kernel) rfl
set_option maxRecDepth 100000 in
theorem pq685 : Cond.methodLink RX3 70 yX3_lowOnes ∈ pw := pw_mem (i := 685) (by decide +kernel) rfl
set_option maxRecDepth 100000 in
theorem pq686 : Cond.methodLink RX3 74 yX3_highOnes ∈ pw := pw_mem (i := 686) (by decide +kernel) rfl
set_option maxRecDepth 100000 in
theorem pq708 : Cond.methodLink RX3 87 yX3_joined ∈ pw := pw_mem (i := 708) (by decide +kernel) rfl
set_option maxRecDepth 100000 in
theorem pq709 : Cond.static yX3_joined ∈ pw := pw_mem (i := 709) (by decide +kernel) rfl
set_option maxRecDepth 100000 in
theorem pq710 : Cond.code yX3_joined cX3_joined 5 (some .long) ∈ pw := pw_mem (i := 710) (by rfl) rfl
set_option maxHeartbeats 4000000 in
set_option maxRecDepth 100000 in
theorem s_X3_becomeGrown (l : Launch) (dC : Nat → ClassId) (dI : Nat → Nat → Nat) (cs : Nat → ClassId) (L : List Nat) (K G : Nat → Nat) (Q : Nat → Nat → Option Nat) (hQ : Sv L K G Q) (x0 m0 : Nat) (tx : GT) (tm : GT × Int) (sz : Nat) (I : Nat → Nat → Int32) (J : Nat → Nat → Int64) (hI : Iv L K x0 m0 tx tm I) (p0 : Nat) (hLp0 : p0 ∈ L) (hKp0 : K p0 = 3) (p1 : Nat) (hLp1 : p1 ∈ L) (hKp1 : K p1 = 3) (hne : ¬ G p0 = G p1) : Met l yX3_becomeGrown (.code yX3_becomeGrown cX3_becomeGrown 11 none :: pw) ({ frames := 3, cells := 0, slots := 0, locals := 75 }) (sP (dC, dI) cs [.ref p0, .ref p1] sz L K I J Q) (va_Qv (fun (_ : Unit) => True) (fun _ t => sB (dC, dI) cs L K Q (fun I1 J1 => Iv L K x0 m0 tx tm I1 ∧ (∀ b, ¬ (b = p0) → I1 b = I b) ∧ (okm (I p1 0).toInt (I p1 1).toInt (J (wo Q p1)) → mkd Q I1 J1 p0 (I p1 0) (I p1 1) (growD (I p1 0).toInt (I p1 1).toInt (J (wo Q p1)))) ∧ (∀ b, ¬ (K b = 12 ∧ (G b = G p0)) → J1 b = J b)) t) (fun q => q ∈ L ∨ sz ≤ q)) 0 0 (fun q => q ∈ L ∨ sz ≤ q) := by
  refine Met.ofW (cc := cX3_becomeGrown) (maxL := 11) (ret := none) (by decide +kernel) rfl ?_
  intro p e s m args below meth c s₁ B hml hv
  obtain ⟨rfl, hsz, hP, hK, hD0, hN⟩ := hv
  have hx := B.exec
  have hb := B.bytes
  have hr := B.returns
  have hts := fun w (h : w ∈ pw) => atoms_spec (ws := Cond.code yX3_becomeGrown cX3_becomeGrown 11 none :: pw) B.pre w (List.mem_cons_of_mem _ h)
  have hown : s.vm.findClass RX3 = some m.cls := findClass_of_methodNamed B.named
  have hlocks := B.notSynchronized
  subst hsz
  have hBB : 999 ≤ tm.2 ∧ tm.2 ≤ 6000000 := hI.2.2.2.2.1
  have dj_J : (∀ b, ¬ (K b = 12 ∧ (G b = G p0)) → J b = J b) := fun _ _ => rfl
  have fr_I : ∀ b, ¬ (b = p0) → I b = I b := fun _ _ => rfl
  obtain ⟨A, hAe⟩ : ∃ A : Nat → Prop, A = (fun q => q ∈ L ∨ s.heap.size ≤ q) := ⟨_, rfl⟩
  rw [← hAe]
  have hAL : ∀ q, q ∈ L → A q := fun q h => by rw [hAe]; exact Or.inl h
  have hA : ∀ q, s.heap.size ≤ q → A q := fun q h => by rw [hAe]; exact Or.inr h
  have hD : ∀ F, va_D A (va_pl L F) := fun F => (hD0 F).weaken (fun k q hk _ => hAL _ (pl_mem hk))
  obtain ⟨H, hHe⟩ : ∃ H : Heap, H = s.heap := ⟨_, rfl⟩
  have hS : va_S A s.heap H [] := by rw [hHe]; exact va_S.rf
  rw [← hHe] at hP
  have hl := lv_entry ([.ref p0, .ref p1]) (n := 11) (Nat.le_of_ble_eq_true rfl)
  rw [lg_entry_eq]
  generalize (lg_sl ([.ref p0, .ref p1]) ++ List.replicate (11 - (lg_sl ([.ref p0, .ref p1])).length) Slot.unset).toArray = ls at hl ⊢
  have hl : lv_has ls 11 [(0, .ref p0), (1, .ref p1)] := hl
  rw [← hHe]
  refine namedW (fun R Qz hR hQz => ?_)
  refine lv_aload_n hx hb dX3_becomeGrown_0 rfl (lv_at hl 0 rfl) ?_
  refine lv_aload_n hx hb dX3_becomeGrown_1 rfl (lv_at hl 1 rfl) ?_
  refine p_get hx hb hts inX3 hown hK hP hLp1 hKp1 rfl rfl 0 (by decide) (hts _ pq116) rfl dX3_becomeGrown_2 ?_
  refine lv_topi (fun z2 ez2 => ?_)
  have bz2 := oI_3_0 (Iv_at hI hLp1 hKp1)
  rw [← ez2] at bz2
  refine lv_aload_n hx hb dX3_becomeGrown_5 rfl (lv_at hl 1 rfl) ?_
  refine p_get hx hb hts inX3 hown hK hP hLp1 hKp1 rfl rfl 1 (by decide) (hts _ pq120) rfl dX3_becomeGrown_6 ?_
  refine lv_topi (fun z6 ez6 => ?_)
  have bz6 := oI_3_1 (Iv_at hI hLp1 hKp1)
  rw [← ez6] at bz6
  refine sw_v (Z := (fun I1 J1 => Iv L K x0 m0 tx tm I1 ∧ (∀ b, ¬ (b = p0) → I1 b = I b) ∧ ((I1 p0 1 = z6 ∧ I1 p0 0 = z2 ∧ ∀ b k, ¬ k = 0 → ¬ k = 1 → ¬ k = 3 → I1 b k = I b k)) ∧ (∀ k, k < 80 → J1 (wo Q p0) k = 0) ∧ (∀ b, ¬ (K b = 12 ∧ (G b = G p0)) → J1 b = J b))) (va_runV (As := [.int z2, .int z6]) (rest := []) ⟨hx, hb, hml, hown, hts⟩ (s_X3_resize l dC dI cs L K G Q hQ x0 m0 tx tm H.size I J hI p0 hLp0 hKp0 z2 ⟨by omega, by omega⟩ z6 ⟨by omega, by omega⟩) (cwV 2 hts (gV pq613 pq493 pq494 pq76 pq495) rfl rfl rfl (by decide +kernel) ⟨(by rw [hR]; exact (Nat.le_of_ble_eq_true rfl)), (by rw [hR]; exact (Nat.le_of_ble_eq_true rfl))⟩) (sP_V hP hD hK hN hLp0 hKp0 rfl rfl) rfl rfl hl.1 rfl (lv_room (Nat.le_of_ble_eq_true rfl)) dX3_becomeGrown_9 ⟨(by rw [hR]; exact (Nat.le_of_ble_eq_true rfl)), (by rw [hR]; exact (Nat.le_of_ble_eq_true rfl))⟩) hS hAL hA (fun Iz9 Jz9 H locs hz9 hIz9 hP hS => ?_)
  obtain ⟨hIz9, frc9, zp9, jz9, djc9⟩ := hIz9
  have dj_Jz9 : (∀ b, ¬ (K b = 12 ∧ (G b = G p0)) → Jz9 b = J b) := fun b hc => (djc9 b (fun z => hc (by exact ⟨z.1, by have z2 := z.2; omega⟩))).trans (dj_J b hc)
  have fr_Iz9 : ∀ b, ¬ (b = p0) → Iz9 b = I b := fun b q => (frc9 b (fun z => q (z))).trans (fr_I b q)
  refine lv_iconst (v := 0) hx hb dX3_becomeGrown_12 (by decide +kernel) ?_
  refine lv_istore_n (lv' := [(2, .int 0), (0, .ref p0), (1, .ref p1)]) hx hb dX3_becomeGrown_13 rfl hl (by decide) rfl (fun ls hl => ?_)
  have key14 := blocks (fun n => ∀ (v14_2 : Int32) (J14 : Nat → Nat → Int64) (H : Heap) (lo : List Loc) (ls : Array Slot), (82 - v14_2.toInt).toNat = n → ((0) ≤ v14_2.toInt ∧ v14_2.toInt ≤ 81) → (∀ b, ¬ (K b = 12 ∧ (G b = G p0)) → J14 b = J b) → v14_2.toInt % 2 = 0 → (okm (I p1 0).toInt (I p1 1).toInt (J (wo Q p1)) → rws (J14 (wo Q p0)) (growD (I p1 0).toInt (I p1 1).toInt (J (wo Q p1))) (v14_2.toInt / 2)) → va_P (dC, dI) vwCl (Wd cs L K Iz9 J14 Q) H → va_S A s.heap H lo → lv_has ls 11 [(0, .ref p0), (1, .ref p1), (2, .int v14_2)] → W p l e R s m (([.ref p0, .ref p1] : List Value).toArray) below meth c H lo 0 0 Qz (F0 m 14 ls [])) (by
    intro n ih14
    intro v14_2 J14 H lo ls hmu14 bv14_2 dj_J14 hev hrw hP hS hl
    refine lv_iload_n hx hb dX3_becomeGrown_14 rfl (lv_at hl 2 rfl) ?_
    refine lv_iconst (v := 2) hx hb dX3_becomeGrown_15 (by decide +kernel) ?_
    refine lv_aload_n hx hb dX3_becomeGrown_16 rfl (lv_at hl 0 rfl) ?_
    refine p_get hx hb hts inX3 hown hK hP hLp0 hKp0 rfl rfl 1 (by decide) (hts _ pq120) rfl dX3_becomeGrown_17 ?_
    refine lv_topi (fun z17 ez17 => ?_)
    have bz17 := oI_3_1 (Iv_at hIz9 hLp0 hKp0)
    rw [← ez17] at bz17
    refine lv_imul hx hb dX3_becomeGrown_20 ?_
    refine lv_topi (fun z20 ez20 => ?_)
    have bz20 := tq_mul (k := (2)) (q := z17.toInt) ez20 (by decide +kernel) rfl (by omega) (by omega)
    have w17 : z17.toInt = (I p1 1).toInt := by rw [ez17, zp9.1, ez6]
    refine lv_icmp_ge (tgt := 185) hx hb dX3_becomeGrown_21 (by decide) (fun c21 => ?_) (fun c21 => ?_)
    · have t21 := tq_le (k := z20.toInt) (q := v14_2.toInt) c21 rfl rfl
      refine lv_aload_n hx hb dX3_becomeGrown_185 rfl (lv_at hl 0 rfl) ?_
      refine sw_v (Z := (fun I1 J1 => Iv L K x0 m0 tx tm I1 ∧ (∀ b, ¬ (b = p0) → I1 b = Iz9 b) ∧ I1 p0 0 = Iz9 p0 0 ∧ I1 p0 1 = Iz9 p0 1 ∧ (mcl (Iz9 p0 0).toInt (Iz9 p0 1).toInt (J14 (wo Q p0)) → msr (J14 (wo Q p0)) (I1 p0 3).toInt (I1 p0 4).toInt (I1 p0 5).toInt (I1 p0 6).toInt (I1 p0 7).toInt) ∧ J1 = J14)) (va_runV (As := []) (rest := []) ⟨hx, hb, hml, hown, hts⟩ (s_X3_measure l dC dI cs L K G Q hQ x0 m0 tx tm H.size Iz9 J14 hIz9 p0 hLp0 hKp0) (cwV 0 hts (gV pq631 pq542 pq543 pq76 pq544) rfl rfl rfl (by decide +kernel) ⟨(by rw [hR]; exact (Nat.le_of_ble_eq_true rfl)), (by rw [hR]; exact (Nat.le_of_ble_eq_true rfl))⟩) (sP_V hP hD hK hN hLp0 hKp0 rfl rfl) rfl rfl hl.1 rfl (lv_room (Nat.le_of_ble_eq_true rfl)) dX3_becomeGrown_186 ⟨(by rw [hR]; exact (Nat.le_of_ble_eq_true rfl)), (by rw [hR]; exact (Nat.le_of_ble_eq_true rfl))⟩) hS hAL hA (fun Iz186 Jz186 H locs hz186 hIz186 hP hS => ?_)
      obtain ⟨hIz186, frc186, kc186_0_0, kc186_0_1, fz186, djc186⟩ := hIz186
      obtain rfl : J14 = Jz186 := djc186.symm
      have fr_Iz186 : ∀ b, ¬ (b = p0) → Iz186 b = I b := fun b q => (frc186 b (fun z => q (z))).trans (fr_Iz9 b q)
      subst hR; subst hQz
      exact W.vret hx hb hr (fun t ht hW => ⟨⟨(), rfl, trivial, ⟨Iz186, J14, ⟨hIz186, fr_Iz186, (fun ok => mk_fin (Ia := Iz9) kc186_0_0 kc186_0_1 (zp9.2.1.trans ez2) (zp9.1.trans ez6) (hrw ok) (growD_hi (by rw [← w17]; omega)) growD_in fz186), dj_J14⟩, by rw [ht]; exact hP⟩⟩, hS.F ht⟩) hS.2.2 dX3_becomeGrown_189
    · have t21 := tq_nle (k := z20.toInt) (q := v14_2.toInt) c21 rfl rfl
      refine lv_aload_n hx hb dX3_becomeGrown_24 rfl (lv_at hl 1 rfl) ?_
      obtain ⟨y25, ey25, hLy25, hKy25, hGy25⟩ := oQ_3_2 (Sv_at hQ hLp1 hKp1)
      refine p_get (v := .ref y25) hx hb hts inX3 hown hK hP hLp1 hKp1 rfl rfl 2 (by decide) (hts _ pq124) (congrArg (fun q => some (va_rf q)) ey25) dX3_becomeGrown_25 ?_
      refine lv_iload_n hx hb dX3_becomeGrown_28 rfl (lv_at hl 2 rfl) ?_
      refine p_lald hx hb hK hP 2 hLy25 hKy25 rfl rfl (in_of (by omega) (by omega)) dX3_becomeGrown_29 ?_
      refine lv_topl (fun z29 ez29 => ?_)
      refine lv_lstore_n (lv' := [(3, .long z29), (0, .ref p0), (1, .ref p1), (2, .int v14_2)]) hx hb dX3_becomeGrown_30 rfl hl (by decide) rfl (fun ls hl => ?_)
      refine lv_aload_n hx hb dX3_becomeGrown_31 rfl (lv_at hl 2 rfl) ?_
      refine p_get (v := .ref y25) hx hb hts inX3 hown hK hP hLp1 hKp1 rfl rfl 2 (by decide) (hts _ pq124) (congrArg (fun q => some (va_rf q)) ey25) dX3_becomeGrown_32 ?_
      refine lv_iload_n hx hb dX3_becomeGrown_35 rfl (lv_at hl 3 rfl) ?_
      refine lv_iconst (v := 1) hx hb dX3_becomeGrown_36 (by decide +kernel) ?_
      refine lv_iadd hx hb dX3_becomeGrown_37 ?_
      refine lv_topi (fun z37 ez37 => ?_)
      have bz37 := tq_add (k := v14_2.toInt) (q := (1)) ez37 rfl (by decide +kernel) (by omega) (by omega)
      refine p_lald hx hb hK hP 2 hLy25 hKy25 rfl rfl (in_of (by omega) (by omega)) dX3_becomeGrown_38 ?_
      refine lv_topl (fun z38 ez38 => ?_)
      refine lv_lstore (lv' := [(5, .long z38), (3, .long z29), (0, .ref p0), (1, .ref p1), (2, .int v14_2)]) hx hb dX3_becomeGrown_39 hl (by decide) rfl (fun ls hl => ?_)
      have s14 : J14 (wo Q p1) = J (wo Q p1) := dj_J14 _ (fun z => hne (by have w := z.2; rw [wo_of ey25] at w; omega))
      have f29 : z29 = (J (wo Q p1)) (2 * (v14_2.toInt / 2).toNat) := by rw [ez29, ← s14, wo_of ey25]; congr 1; show v14_2.toInt.toNat = _; omega
      have f38 : z38 = (J (wo Q p1)) (2 * (v14_2.toInt / 2).toNat + 1) := by rw [ez38, ← s14, wo_of ey25]; congr 1; show z37.toInt.toNat = _; omega
      refine lv_lload_n hx hb dX3_becomeGrown_41 rfl (lv_at hl 1 rfl) ?_
      refine lv_lload_n hx hb dX3_becomeGrown_42 rfl (lv_at hl 1 rfl) ?_
      refine lv_iconst (v := 1) hx hb dX3_becomeGrown_43 (by decide +kernel) ?_
      refine lv_lshl hx hb dX3_becomeGrown_44 rfl ?_
      refine lv_topl (fun z44 ez44 => ?_)
      refine lv_lor hx hb dX3_becomeGrown_45 ?_
      refine lv_topl (fun z45 ez45 => ?_)
      refine lv_lload_n hx hb dX3_becomeGrown_46 rfl (lv_at hl 1 rfl) ?_
      refine lv_iconst (v := 1) hx hb dX3_becomeGrown_47 (by decide +kernel) ?_
      refine lv_lushr hx hb dX3_becomeGrown_48 rfl ?_
      refine lv_topl (fun z48 ez48 => ?_)
      refine lv_lor hx hb dX3_becomeGrown_49 ?_
      refine lv_topl (fun z49 ez49 => ?_)
      refine lv_lload hx hb dX3_becomeGrown_50 (lv_at hl 0 rfl) ?_
      refine lv_bipush (v := 63) hx hb dX3_becomeGrown_52 (by decide +kernel) ?_
      refine lv_lshl hx hb dX3_becomeGrown_54 rfl ?_
      refine lv_topl (fun z54 ez54 => ?_)
      refine lv_lor hx hb dX3_becomeGrown_55 ?_
      refine lv_topl (fun z55 ez55 => ?_)
      refine lv_lstore (lv' := [(7, .long z55), (5, .long z38), (3, .long z29), (0, .ref p0), (1, .ref p1), (2, .int v14_2)]) hx hb dX3_becomeGrown_56 hl (by decide) rfl (fun ls hl => ?_)
      refine lv_lload hx hb dX3_becomeGrown_58 (lv_at hl 1 rfl) ?_
      refine lv_lload hx hb dX3_becomeGrown_60 (lv_at hl 1 rfl) ?_
      refine lv_iconst (v := 1) hx hb dX3_becomeGrown_62 (by decide +kernel) ?_
      refine lv_lshl hx hb dX3_becomeGrown_63 rfl ?_
      refine lv_topl (fun z63 ez63 => ?_)
      refine lv_lor hx hb dX3_becomeGrown_64 ?_
      refine lv_topl (fun z64 ez64 => ?_)
      refine lv_lload_n hx hb dX3_becomeGrown_65 rfl (lv_at hl 2 rfl) ?_
      refine lv_bipush (v := 63) hx hb dX3_becomeGrown_66 (by decide +kernel) ?_
      refine lv_lushr hx hb dX3_becomeGrown_68 rfl ?_
      refine lv_topl (fun z68 ez68 => ?_)
      refine lv_lor hx hb dX3_becomeGrown_69 ?_
      refine lv_topl (fun z69 ez69 => ?_)
      refine lv_lload hx hb dX3_becomeGrown_70 (lv_at hl 1 rfl) ?_
      refine lv_iconst (v := 1) hx hb dX3_becomeGrown_72 (by decide +kernel) ?_
      refine lv_lushr hx hb dX3_becomeGrown_73 rfl ?_
      refine lv_topl (fun z73 ez73 => ?_)
      refine lv_lor hx hb dX3_becomeGrown_74 ?_
      refine lv_topl (fun z74 ez74 => ?_)
      refine lv_lstore (lv' := [(9, .long z74), (7, .long z55), (5, .long z38), (3, .long z29), (0, .ref p0), (1, .ref p1), (2, .int v14_2)]) hx hb dX3_becomeGrown_75 hl (by decide) rfl (fun ls hl => ?_)
      refine lv_iload_n hx hb dX3_becomeGrown_77 rfl (lv_at hl 6 rfl) ?_
      have j107 : ∀ (v107_7 : Int64) (v107_9 : Int64) (H : Heap) (lo : List Loc) (ls : Array Slot), (okm (I p1 0).toInt (I p1 1).toInt (J (wo Q p1)) → ∀ i : Nat, i < 64 → b64 v107_7 i = (gr3 (J (wo Q p1)) (i : Int) ((v14_2.toInt / 2).toNat : Int) || md (J (wo Q p1)) (i : Int) (((v14_2.toInt / 2).toNat : Int) - 1)) ∧ b64 v107_9 i = (gr3 (J (wo Q p1)) ((i : Int) + 64) ((v14_2.toInt / 2).toNat : Int) || md (J (wo Q p1)) ((i : Int) + 64) (((v14_2.toInt / 2).toNat : Int) - 1))) → va_P (dC, dI) vwCl (Wd cs L K Iz9 J14 Q) H → va_S A s.heap H lo → lv_has ls 11 [(0, .ref p0), (1, .ref p1), (2, .int v14_2), (3, .long z29), (5, .long z38), (7, .long v107_7), (9, .long v107_9)] → W p l e R s m (([.ref p0, .ref p1] : List Value).toArray) below meth c H lo 0 0 Qz (F0 m 107 ls []) := by
        intro v107_7 v107_9 H lo ls h107 hP hS hl
        refine lv_iload_n hx hb dX3_becomeGrown_107 rfl (lv_at hl 2 rfl) ?_
        refine lv_iconst (v := 3) hx hb dX3_becomeGrown_108 (by decide +kernel) ?_
        refine lv_iadd hx hb dX3_becomeGrown_109 ?_
        refine lv_topi (fun z109 ez109 => ?_)
        have bz109 := tq_add (k := v14_2.toInt) (q := (3)) ez109 rfl (by decide +kernel) (by omega) (by omega)
        refine lv_iconst (v := 2) hx hb dX3_becomeGrown_110 (by decide +kernel) ?_
        refine lv_aload_n hx hb dX3_becomeGrown_111 rfl (lv_at hl 0 rfl) ?_
        refine p_get hx hb hts inX3 hown hK hP hLp0 hKp0 rfl rfl 1 (by decide) (hts _ pq120) rfl dX3_becomeGrown_112 ?_
        refine lv_topi (fun z112 ez112 => ?_)
        obtain rfl : z17 = z112 := ez17.trans ez112.symm
        refine lv_imul hx hb dX3_becomeGrown_115 ?_
        refine lv_topi (fun z115 ez115 => ?_)
        have bz115 := tq_mul (k := (2)) (q := z17.toInt) ez115 (by decide +kernel) rfl (by omega) (by omega)
        have j145 : ∀ (v145_7 : Int64) (v145_9 : Int64) (H : Heap) (lo : List Loc) (ls : Array Slot), (okm (I p1 0).toInt (I p1 1).toInt (J (wo Q p1)) → ∀ i : Nat, i < 64 → b64 v145_7 i = (gr3 (J (wo Q p1)) (i : Int) ((v14_2.toInt / 2).toNat : Int) || md (J (wo Q p1)) (i : Int) (((v14_2.toInt / 2).toNat : Int) - 1) || md (J (wo Q p1)) (i : Int) (((v14_2.toInt / 2).toNat : Int) + 1)) ∧ b64 v145_9 i = (gr3 (J (wo Q p1)) ((i : Int) + 64) ((v14_2.toInt / 2).toNat : Int) || md (J (wo Q p1)) ((i : Int) + 64) (((v14_2.toInt / 2).toNat : Int) - 1) || md (J (wo Q p1)) ((i : Int) + 64) (((v14_2.toInt / 2).toNat : Int) + 1))) → va_P (dC, dI) vwCl (Wd cs L K Iz9 J14 Q) H → va_S A s.heap H lo → lv_has ls 11 [(0, .ref p0), (1, .ref p1), (2, .int v14_2), (3, .long z29), (5, .long z38), (7, .long v145_7), (9, .long v145_9)] → W p l e R s m (([.ref p0, .ref p1] : List Value).toArray) below meth c H lo 0 0 Qz (F0 m 145 ls []) := by
          intro v145_7 v145_9 H lo ls h145 hP hS hl
          refine lv_aload_n hx hb dX3_becomeGrown_145 rfl (lv_at hl 0 rfl) ?_
          obtain ⟨y146, ey146, hLy146, hKy146, hGy146⟩ := oQ_3_2 (Sv_at hQ hLp0 hKp0)
          refine p_get (v := .ref y146) hx hb hts inX3 hown hK hP hLp0 hKp0 rfl rfl 2 (by decide) (hts _ pq124) (congrArg (fun q => some (va_rf q)) ey146) dX3_becomeGrown_146 ?_
          refine lv_iload_n hx hb dX3_becomeGrown_149 rfl (lv_at hl 2 rfl) ?_
          refine lv_lload hx hb dX3_becomeGrown_150 (lv_at hl 5 rfl) ?_
          refine lv_aload_n hx hb dX3_becomeGrown_152 rfl (lv_at hl 0 rfl) ?_
          refine p_get hx hb hts inX3 hown hK hP hLp0 hKp0 rfl rfl 0 (by decide) (hts _ pq116) rfl dX3_becomeGrown_153 ?_
          refine lv_topi (fun z153 ez153 => ?_)
          have bz153 := oI_3_0 (Iv_at hIz9 hLp0 hKp0)
          rw [← ez153] at bz153
          have w153 : z153.toInt = (I p1 0).toInt := by rw [ez153, zp9.2.1, ez2]
          refine ro_l (va_runS (As := [.int z153]) (rest := [.long v145_7, .int v14_2, .ref y146]) ⟨hx, hb, hml, hown, hts⟩ (s_X3_lowOnes l dC dI cs L K G Q hQ x0 m0 tx tm H.size Iz9 J14 hIz9 z153) (va_cwS 1 hts (gS pq685 pq503 pq76 pq504) rfl rfl rfl (by decide +kernel) ⟨(by rw [hR]; exact (Nat.le_of_ble_eq_true rfl)), (by rw [hR]; exact (Nat.le_of_ble_eq_true rfl))⟩) (sP_S hP hD hK hN) rfl rfl hl.1 rfl (lv_room (Nat.le_of_ble_eq_true rfl)) dX3_becomeGrown_156 ⟨(by rw [hR]; exact (Nat.le_of_ble_eq_true rfl)), (by rw [hR]; exact (Nat.le_of_ble_eq_true rfl))⟩) hS hP (fun z156 H locs hz156 hP hS => ?_)
          have xpz156 := hz156
          refine lv_land hx hb dX3_becomeGrown_159 ?_
          refine lv_topl (fun z159 ez159 => ?_)
          refine p_last hx hb hK hP hD hS 2 hLy146 hKy146 rfl (fun _ => rfl) rfl (in_of (by omega) (by omega)) dX3_becomeGrown_160 (fun H locs hP hS => ?_)
          obtain ⟨Jz160, hP, qJz160⟩ : ∃ Jz160, va_P (dC, dI) vwCl (Wd cs L K Iz9 Jz160 Q) H ∧ Jz160 = va_up J14 y146 (vp_updL (J14 y146) v14_2.toNatClampNeg z159) := ⟨_, hP, rfl⟩
          have dj_Jz160 : (∀ b, ¬ (K b = 12 ∧ (G b = G p0)) → Jz160 b = J b) := fun b hc => (congrFun qJz160 b).trans ((va_up_ne _ _ (fun z => hc (by rw [z]; exact ⟨hKy146, by omega⟩))).trans (dj_J14 b hc))
          refine lv_aload_n hx hb dX3_becomeGrown_161 rfl (lv_at hl 0 rfl) ?_
          refine p_get (v := .ref y146) hx hb hts inX3 hown hK hP hLp0 hKp0 rfl rfl 2 (by decide) (hts _ pq124) (congrArg (fun q => some (va_rf q)) ey146) dX3_becomeGrown_162 ?_
          refine lv_iload_n hx hb dX3_becomeGrown_165 rfl (lv_at hl 2 rfl) ?_
          refine lv_iconst (v := 1) hx hb dX3_becomeGrown_166 (by decide +kernel) ?_
          refine lv_iadd hx hb dX3_becomeGrown_167 ?_
          refine lv_topi (fun z167 ez167 => ?_)
          have bz167 := tq_add (k := v14_2.toInt) (q := (1)) ez167 rfl (by decide +kernel) (by omega) (by omega)
          refine lv_lload hx hb dX3_becomeGrown_168 (lv_at hl 6 rfl) ?_
          refine lv_aload_n hx hb dX3_becomeGrown_170 rfl (lv_at hl 0 rfl) ?_
          refine p_get hx hb hts inX3 hown hK hP hLp0 hKp0 rfl rfl 0 (by decide) (hts _ pq116) rfl dX3_becomeGrown_171 ?_
          refine lv_topi (fun z171 ez171 => ?_)
          obtain rfl : z153 = z171 := ez153.trans ez171.symm
          refine ro_l (va_runS (As := [.int z153]) (rest := [.long v145_9, .int z167, .ref y146]) ⟨hx, hb, hml, hown, hts⟩ (s_X3_highOnes l dC dI cs L K G Q hQ x0 m0 tx tm H.size Iz9 Jz160 hIz9 z153) (va_cwS 1 hts (gS pq686 pq507 pq76 pq508) rfl rfl rfl (by decide +kernel) ⟨(by rw [hR]; exact (Nat.le_of_ble_eq_true rfl)), (by rw [hR]; exact (Nat.le_of_ble_eq_true rfl))⟩) (sP_S hP hD hK hN) rfl rfl hl.1 rfl (lv_room (Nat.le_of_ble_eq_true rfl)) dX3_becomeGrown_174 ⟨(by rw [hR]; exact (Nat.le_of_ble_eq_true rfl)), (by rw [hR]; exact (Nat.le_of_ble_eq_true rfl))⟩) hS hP (fun z174 H locs hz174 hP hS => ?_)
          have xpz174 := hz174
          refine lv_land hx hb dX3_becomeGrown_177 ?_
          refine lv_topl (fun z177 ez177 => ?_)
          refine p_last hx hb hK hP hD hS 2 hLy146 hKy146 rfl (fun _ => rfl) rfl (in_of (by omega) (by omega)) dX3_becomeGrown_178 (fun H locs hP hS => ?_)
          obtain ⟨Jz178, hP, qJz178⟩ : ∃ Jz178, va_P (dC, dI) vwCl (Wd cs L K Iz9 Jz178 Q) H ∧ Jz178 = va_up Jz160 y146 (vp_updL (Jz160 y146) z167.toNatClampNeg z177) := ⟨_, hP, rfl⟩
          have dj_Jz178 : (∀ b, ¬ (K b = 12 ∧ (G b = G p0)) → Jz178 b = J b) := fun b hc => (congrFun qJz178 b).trans ((va_up_ne _ _ (fun z => hc (by rw [z]; exact ⟨hKy146, by omega⟩))).trans (dj_Jz160 b hc))
          obtain ⟨z179, ez179⟩ : ∃ y : Int32, y = v14_2 + 2 := ⟨_, rfl⟩
          refine lv_iinc (v := z179) (lv' := [(2, .int z179), (0, .ref p0), (1, .ref p1), (3, .long z29), (5, .long z38), (7, .long v145_7), (9, .long v145_9)]) hx hb dX3_becomeGrown_179 hl (k := 2) rfl (by rw [ez179]; rfl) (by decide) rfl (fun ls hl => ?_)
          have bz179 := tq_add (k := v14_2.toInt) (q := 2) ez179 rfl (by decide +kernel) (by omega) (by omega)
          refine lv_goto (tgt := 14) hx hb dX3_becomeGrown_182 (by decide) ?_
          exact ih14 _ (by omega) z179 Jz178 _ _ _ rfl ⟨by omega, by omega⟩ dj_Jz178 (by omega) (fun ok => rws_step (r := (v14_2.toInt / 2).toNat) (hrw ok) (f1 := Jz160 (wo Q p0)) (a := z159) (b := z177) (fun j => by rw [qJz160, wo_of ey146, va_up_self]; unfold vp_updL; rw [show v14_2.toNatClampNeg = 2 * (v14_2.toInt / 2).toNat from (by show v14_2.toInt.toNat = _; omega)]) (fun j => by rw [qJz178, wo_of ey146, va_up_self]; unfold vp_updL; rw [show z167.toNatClampNeg = 2 * (v14_2.toInt / 2).toNat + 1 from (by show z167.toInt.toNat = _; omega)]) (by omega) (by omega) (by omega) (gr_row (fun i hi => (h145 ok i hi).1) (fun i hi => (h145 ok i hi).2) (fun i hi => by have q := xpz156 (by rw [w153]; have o := ok.1; omega) i hi; rw [w153] at q; exact q) (fun i hi => by have q := xpz174 (by rw [w153]; have o := ok.1; omega) i hi; rw [w153] at q; exact q) ez159 ez177 (by have o := ok.1; omega) (by rw [← w17]; omega))) hP hS (lv_sub hl [1, 2, 0] rfl)
        refine lv_icmp_ge (tgt := 145) hx hb dX3_becomeGrown_116 (by decide) (fun c116 => ?_) (fun c116 => ?_)
        · have t116 := tq_le (k := z115.toInt) (q := z109.toInt) c116 rfl rfl
          exact j145 v107_7 v107_9 _ _ _ (fun ok i hi => by have m2 : ∀ x, md (J (wo Q p1)) x (((v14_2.toInt / 2).toNat : Int) + 1) = false := (fun x => by cases q : md (J (wo Q p1)) x (((v14_2.toInt / 2).toNat : Int) + 1) with | false => rfl | true => (have w := (ok.2.2 _ _ q).2; rw [← w17] at w; omega)); rw [m2, m2, Bool.or_false, Bool.or_false]; exact h107 ok i hi) hP hS (lv_sub hl [0, 1, 2, 3, 4, 5, 6] rfl)
        · have t116 := tq_nle (k := z115.toInt) (q := z109.toInt) c116 rfl rfl
          refine lv_lload hx hb dX3_becomeGrown_119 (lv_at hl 5 rfl) ?_
          refine lv_aload_n hx hb dX3_becomeGrown_121 rfl (lv_at hl 1 rfl) ?_
          refine p_get (v := .ref y25) hx hb hts inX3 hown hK hP hLp1 hKp1 rfl rfl 2 (by decide) (hts _ pq124) (congrArg (fun q => some (va_rf q)) ey25) dX3_becomeGrown_122 ?_
          refine lv_iload_n hx hb dX3_becomeGrown_125 rfl (lv_at hl 2 rfl) ?_
          refine lv_iconst (v := 2) hx hb dX3_becomeGrown_126 (by decide +kernel) ?_
          refine lv_iadd hx hb dX3_becomeGrown_127 ?_
          refine lv_topi (fun z127 ez127 => ?_)
          have bz127 := tq_add (k := v14_2.toInt) (q := (2)) ez127 rfl (by decide +kernel) (by omega) (by omega)
          refine p_lald hx hb hK hP 2 hLy25 hKy25 rfl rfl (in_of (by omega) (by omega)) dX3_becomeGrown_128 ?_
          refine lv_topl (fun z128 ez128 => ?_)
          refine lv_lor hx hb dX3_becomeGrown_129 ?_
          refine lv_topl (fun z129 ez129 => ?_)
          have f128 : z128 = (J (wo Q p1)) (2 * ((v14_2.toInt / 2).toNat + 1)) := by rw [ez128, ← s14, wo_of ey25]; congr 1; show z127.toInt.toNat = _; omega
          refine lv_lstore (lv' := [(7, .long z129), (0, .ref p0), (1, .ref p1), (2, .int v14_2), (3, .long z29), (5, .long z38), (9, .long v107_9)]) hx hb dX3_becomeGrown_130 hl (by decide) rfl (fun ls hl => ?_)
          refine lv_lload hx hb dX3_becomeGrown_132 (lv_at hl 6 rfl) ?_
          refine lv_aload_n hx hb dX3_becomeGrown_134 rfl (lv_at hl 2 rfl) ?_
          refine p_get (v := .ref y25) hx hb hts inX3 hown hK hP hLp1 hKp1 rfl rfl 2 (by decide) (hts _ pq124) (congrArg (fun q => some (va_rf q)) ey25) dX3_becomeGrown_135 ?_
          refine lv_iload_n hx hb dX3_becomeGrown_138 rfl (lv_at hl 3 rfl) ?_
          refine lv_iconst (v := 3) hx hb dX3_becomeGrown_139 (by decide +kernel) ?_
          refine lv_iadd hx hb dX3_becomeGrown_140 ?_
          refine lv_topi (fun z140 ez140 => ?_)
          have bz140 := tq_add (k := v14_2.toInt) (q := (3)) ez140 rfl (by decide +kernel) (by omega) (by omega)
          refine p_lald hx hb hK hP 2 hLy25 hKy25 rfl rfl (in_of (by omega) (by omega)) dX3_becomeGrown_141 ?_
          refine lv_topl (fun z141 ez141 => ?_)
          refine lv_lor hx hb dX3_becomeGrown_142 ?_
          refine lv_topl (fun z142 ez142 => ?_)
          have f141 : z141 = (J (wo Q p1)) (2 * ((v14_2.toInt / 2).toNat + 1) + 1) := by rw [ez141, ← s14, wo_of ey25]; congr 1; show z140.toInt.toNat = _; omega
          refine lv_lstore (lv' := [(9, .long z142), (7, .long z129), (0, .ref p0), (1, .ref p1), (2, .int v14_2), (3, .long z29), (5, .long z38)]) hx hb dX3_becomeGrown_143 hl (by decide) rfl (fun ls hl => ?_)
          exact j145 z129 z142 _ _ _ (fun ok i hi => by have m2 : ∀ x, md (J (wo Q p1)) x (((v14_2.toInt / 2).toNat : Int) + 1) = dt z128 z141 x := (fun x => md_row (f := (J (wo Q p1))) (r := (v14_2.toInt / 2).toNat + 1) (by omega) f128 f141 x); rw [m2, m2, b64_or ez129, b64_or ez142, (h107 ok i hi).1, (h107 ok i hi).2, b64_dt (a := z128) (b := z141) hi, b64_dh (a := z128) (b := z141)]; exact ⟨rfl, rfl⟩) hP hS (lv_sub hl [2, 3, 4, 5, 6, 1, 0] rfl)
      refine lv_if_le (tgt := 107) hx hb dX3_becomeGrown_78 (by decide) (fun c78 => ?_) (fun c78 => ?_)
      · have t78 := tq_le (k := v14_2.toInt) (q := (0)) c78 rfl (by decide +kernel)
        exact j107 z55 z74 _ _ _ (fun ok i hi => ⟨by rw [(gr_lo ez44 ez45 ez48 ez49 ez54 ez55 hi), gr3_row (r := (v14_2.toInt / 2).toNat) (by omega) f29 f38, md_y (y := ((v14_2.toInt / 2).toNat : Int) - 1) (by omega), Bool.or_false], by rw [(gr_hi ez63 ez64 ez68 ez69 ez73 ez74 hi), gr3_row (r := (v14_2.toInt / 2).toNat) (by omega) f29 f38, md_y (y := ((v14_2.toInt / 2).toNat : Int) - 1) (by omega), Bool.or_false]⟩) hP hS (lv_sub hl [4, 5, 6, 3, 2, 1, 0] rfl)
      · have t78 := tq_nle (k := v14_2.toInt) (q := (0)) c78 rfl (by decide +kernel)
        refine lv_lload hx hb dX3_becomeGrown_81 (lv_at hl 1 rfl) ?_
        refine lv_aload_n hx hb dX3_becomeGrown_83 rfl (lv_at hl 5 rfl) ?_
        refine p_get (v := .ref y25) hx hb hts inX3 hown hK hP hLp1 hKp1 rfl rfl 2 (by decide) (hts _ pq124) (congrArg (fun q => some (va_rf q)) ey25) dX3_becomeGrown_84 ?_
        refine lv_iload_n hx hb dX3_becomeGrown_87 rfl (lv_at hl 6 rfl) ?_
        refine lv_iconst (v := 2) hx hb dX3_becomeGrown_88 (by decide +kernel) ?_
        refine lv_isub hx hb dX3_becomeGrown_89 ?_
        refine lv_topi (fun z89 ez89 => ?_)
        have bz89 := tq_sub (k := v14_2.toInt) (q := (2)) ez89 rfl (by decide +kernel) (by omega) (by omega)
        refine p_lald hx hb hK hP 2 hLy25 hKy25 rfl rfl (in_of (by omega) (by omega)) dX3_becomeGrown_90 ?_
        refine lv_topl (fun z90 ez90 => ?_)
        refine lv_lor hx hb dX3_becomeGrown_91 ?_
        refine lv_topl (fun z91 ez91 => ?_)
        have f90 : z90 = (J (wo Q p1)) (2 * ((v14_2.toInt / 2).toNat - 1)) := by rw [ez90, ← s14, wo_of ey25]; congr 1; show z89.toInt.toNat = _; omega
        refine lv_lstore (lv' := [(7, .long z91), (9, .long z74), (5, .long z38), (3, .long z29), (0, .ref p0), (1, .ref p1), (2, .int v14_2)]) hx hb dX3_becomeGrown_92 hl (by decide) rfl (fun ls hl => ?_)
        refine lv_lload hx hb dX3_becomeGrown_94 (lv_at hl 1 rfl) ?_
        refine lv_aload_n hx hb dX3_becomeGrown_96 rfl (lv_at hl 5 rfl) ?_
        refine p_get (v := .ref y25) hx hb hts inX3 hown hK hP hLp1 hKp1 rfl rfl 2 (by decide) (hts _ pq124) (congrArg (fun q => some (va_rf q)) ey25) dX3_becomeGrown_97 ?_
        refine lv_iload_n hx hb dX3_becomeGrown_100 rfl (lv_at hl 6 rfl) ?_
        refine lv_iconst (v := 1) hx hb dX3_becomeGrown_101 (by decide +kernel) ?_
        refine lv_isub hx hb dX3_becomeGrown_102 ?_
        refine lv_topi (fun z102 ez102 => ?_)
        have bz102 := tq_sub (k := v14_2.toInt) (q := (1)) ez102 rfl (by decide +kernel) (by omega) (by omega)
        refine p_lald hx hb hK hP 2 hLy25 hKy25 rfl rfl (in_of (by omega) (by omega)) dX3_becomeGrown_103 ?_
        refine lv_topl (fun z103 ez103 => ?_)
        refine lv_lor hx hb dX3_becomeGrown_104 ?_
        refine lv_topl (fun z104 ez104 => ?_)
        have f103 : z103 = (J (wo Q p1)) (2 * ((v14_2.toInt / 2).toNat - 1) + 1) := by rw [ez103, ← s14, wo_of ey25]; congr 1; show z102.toInt.toNat = _; omega
        refine lv_lstore (lv' := [(9, .long z104), (7, .long z91), (5, .long z38), (3, .long z29), (0, .ref p0), (1, .ref p1), (2, .int v14_2)]) hx hb dX3_becomeGrown_105 hl (by decide) rfl (fun ls hl => ?_)
        exact j107 z91 z104 _ _ _ (fun ok i hi => by have m1 : ∀ x, md (J (wo Q p1)) x (((v14_2.toInt / 2).toNat : Int) - 1) = dt z90 z103 x := (fun x => by have q := md_row (f := (J (wo Q p1))) (r := (v14_2.toInt / 2).toNat - 1) (by omega) f90 f103 x; rw [show (((v14_2.toInt / 2).toNat - 1 : Nat) : Int) = ((v14_2.toInt / 2).toNat : Int) - 1 by omega] at q; exact q); exact ⟨by rw [b64_or ez91, (gr_lo ez44 ez45 ez48 ez49 ez54 ez55 hi), gr3_row (r := (v14_2.toInt / 2).toNat) (by omega) f29 f38, m1, b64_dt (b := z103) hi], by rw [b64_or ez104, (gr_hi ez63 ez64 ez68 ez69 ez73 ez74 hi), gr3_row (r := (v14_2.toInt / 2).toNat) (by omega) f29 f38, m1, b64_dh (a := z90)]⟩) hP hS (lv_sub hl [4, 5, 6, 3, 2, 1, 0] rfl))
  exact key14 _ 0 Jz9 _ _ _ rfl ⟨by decide +kernel, by decide +kernel⟩ dj_Jz9 (by decide +kernel) (fun ok => rws_0 jz9 (fun x y a b => absurd b (by rw [show (0 : Int32).toInt / 2 = 0 from by decide +kernel]; omega))) hP hS (lv_sub hl [1, 2, 0] rfl)

set_option maxHeartbeats 4000000 in
set_option maxRecDepth 100000 in
theorem s_X3_becomeThinned (l : Launch) (dC : Nat → ClassId) (dI : Nat → Nat → Nat) (cs : Nat → ClassId) (L : List Nat) (K G : Nat → Nat) (Q : Nat → Nat → Option Nat) (hQ : Sv L K G Q) (x0 m0 : Nat) (tx : GT) (tm : GT × Int) (sz : Nat) (I : Nat → Nat → Int32) (J : Nat → Nat → Int64) (hI : Iv L K x0 m0 tx tm I) (p0 : Nat) (hLp0 : p0 ∈ L) (hKp0 : K p0 = 3) (p1 : Nat) (hLp1 : p1 ∈ L) (hKp1 : K p1 = 3) (hne : ¬ G p0 = G p1) : Met l yX3_becomeThinned (.code yX3_becomeThinned cX3_becomeThinned 7 none :: pw) ({ frames := 3, cells := 0, slots := 0, locals := 75 }) (sP (dC, dI) cs [.ref p0, .ref p1] sz L K I J Q) (va_Qv (fun (_ : Unit) => True) (fun _ t => sB (dC, dI) cs L K Q (fun I1 J1 => Iv L K x0 m0 tx tm I1 ∧ (∀ b, ¬ (b = p0) → I1 b = I b) ∧ (okm (I p1 0).toInt (I p1 1).toInt (J (wo Q p1)) → mkd Q I1 J1 p0 (I p1 0) (I p1 1) (thinD (J (wo Q p1)))) ∧ (∀ b, ¬ (K b = 12 ∧ (G b = G p0)) → J1 b = J b)) t) (fun q => q ∈ L ∨ sz ≤ q)) 0 0 (fun q => q ∈ L ∨ sz ≤ q) := by
  refine Met.ofW (cc := cX3_becomeThinned) (maxL := 7) (ret := none) (by decide +kernel) rfl ?_
  intro p e s m args below meth c s₁ B hml hv
  obtain ⟨rfl, hsz, hP, hK, hD0, hN⟩ := hv
  have hx := B.exec
  have hb := B.bytes
  have hr := B.returns
  have hts := fun w (h : w ∈ pw) => atoms_spec (ws := Cond.code yX3_becomeThinned cX3_becomeThinned 7 none :: pw) B.pre w (List.mem_cons_of_mem _ h)
  have hown : s.vm.findClass RX3 = some m.cls := findClass_of_methodNamed B.named
  have hlocks := B.notSynchronized
  subst hsz
  have hBB : 999 ≤ tm.2 ∧ tm.2 ≤ 6000000 := hI.2.2.2.2.1
  have dj_J : (∀ b, ¬ (K b = 12 ∧ (G b = G p0)) → J b = J b) := fun _ _ => rfl
  have fr_I : ∀ b, ¬ (b = p0) → I b = I b := fun _ _ => rfl
  obtain ⟨A, hAe⟩ : ∃ A : Nat → Prop, A = (fun q => q ∈ L ∨ s.heap.size ≤ q) := ⟨_, rfl⟩
  rw [← hAe]
  have hAL : ∀ q, q ∈ L → A q := fun q h => by rw [hAe]; exact Or.inl h
  have hA : ∀ q, s.heap.size ≤ q → A q := fun q h => by rw [hAe]; exact Or.inr h
  have hD : ∀ F, va_D A (va_pl L F) := fun F => (hD0 F).weaken (fun k q hk _ => hAL _ (pl_mem hk))
  obtain ⟨H, hHe⟩ : ∃ H : Heap, H = s.heap := ⟨_, rfl⟩
  have hS : va_S A s.heap H [] := by rw [hHe]; exact va_S.rf
  rw [← hHe] at hP
  have hl := lv_entry ([.ref p0, .ref p1]) (n := 7) (Nat.le_of_ble_eq_true rfl)
  rw [lg_entry_eq]
  generalize (lg_sl ([.ref p0, .ref p1]) ++ List.replicate (7 - (lg_sl ([.ref p0, .ref p1])).length) Slot.unset).toArray = ls at hl ⊢
  have hl : lv_has ls 7 [(0, .ref p0), (1, .ref p1)] := hl
  rw [← hHe]
  refine namedW (fun R Qz hR hQz => ?_)
  refine lv_aload_n hx hb dX3_becomeThinned_0 rfl (lv_at hl 0 rfl) ?_
  refine lv_aload_n hx hb dX3_becomeThinned_1 rfl (lv_at hl 1 rfl) ?_
  refine p_get hx hb hts inX3 hown hK hP hLp1 hKp1 rfl rfl 0 (by decide) (hts _ pq116) rfl dX3_becomeThinned_2 ?_
  refine lv_topi (fun z2 ez2 => ?_)
  have bz2 := oI_3_0 (Iv_at hI hLp1 hKp1)
  rw [← ez2] at bz2
  refine lv_aload_n hx hb dX3_becomeThinned_5 rfl (lv_at hl 1 rfl) ?_
  refine p_get hx hb hts inX3 hown hK hP hLp1 hKp1 rfl rfl 1 (by decide) (hts _ pq120) rfl dX3_becomeThinned_6 ?_
  refine lv_topi (fun z6 ez6 => ?_)
  have bz6 := oI_3_1 (Iv_at hI hLp1 hKp1)
  rw [← ez6] at bz6
  refine sw_v (Z := (fun I1 J1 => Iv L K x0 m0 tx tm I1 ∧ (∀ b, ¬ (b = p0) → I1 b = I b) ∧ ((I1 p0 1 = z6 ∧ I1 p0 0 = z2 ∧ ∀ b k, ¬ k = 0 → ¬ k = 1 → ¬ k = 3 → I1 b k = I b k)) ∧ (∀ k, k < 80 → J1 (wo Q p0) k = 0) ∧ (∀ b, ¬ (K b = 12 ∧ (G b = G p0)) → J1 b = J b))) (va_runV (As := [.int z2, .int z6]) (rest := []) ⟨hx, hb, hml, hown, hts⟩ (s_X3_resize l dC dI cs L K G Q hQ x0 m0 tx tm H.size I J hI p0 hLp0 hKp0 z2 ⟨by omega, by omega⟩ z6 ⟨by omega, by omega⟩) (cwV 2 hts (gV pq613 pq493 pq494 pq76 pq495) rfl rfl rfl (by decide +kernel) ⟨(by rw [hR]; exact (Nat.le_of_ble_eq_true rfl)), (by rw [hR]; exact (Nat.le_of_ble_eq_true rfl))⟩) (sP_V hP hD hK hN hLp0 hKp0 rfl rfl) rfl rfl hl.1 rfl (lv_room (Nat.le_of_ble_eq_true rfl)) dX3_becomeThinned_9 ⟨(by rw [hR]; exact (Nat.le_of_ble_eq_true rfl)), (by rw [hR]; exact (Nat.le_of_ble_eq_true rfl))⟩) hS hAL hA (fun Iz9 Jz9 H locs hz9 hIz9 hP hS => ?_)
  obtain ⟨hIz9, frc9, zp9, jz9, djc9⟩ := hIz9
  have dj_Jz9 : (∀ b, ¬ (K b = 12 ∧ (G b = G p0)) → Jz9 b = J b) := fun b hc => (djc9 b (fun z => hc (by exact ⟨z.1, by have z2 := z.2; omega⟩))).trans (dj_J b hc)
  have fr_Iz9 : ∀ b, ¬ (b = p0) → Iz9 b = I b := fun b q => (frc9 b (fun z => q (z))).trans (fr_I b q)
  refine lv_iconst (v := 2) hx hb dX3_becomeThinned_12 (by decide +kernel) ?_
  refine lv_istore_n (lv' := [(2, .int 2), (0, .ref p0), (1, .ref p1)]) hx hb dX3_becomeThinned_13 rfl hl (by decide) rfl (fun ls hl => ?_)
  have key14 := blocks (fun n => ∀ (v14_2 : Int32) (J14 : Nat → Nat → Int64) (H : Heap) (lo : List Loc) (ls : Array Slot), (81 - v14_2.toInt).toNat = n → ((2) ≤ v14_2.toInt ∧ v14_2.toInt ≤ 80) → (∀ b, ¬ (K b = 12 ∧ (G b = G p0)) → J14 b = J b) → v14_2.toInt % 2 = 0 → (okm (I p1 0).toInt (I p1 1).toInt (J (wo Q p1)) → rws (J14 (wo Q p0)) (thinD (J (wo Q p1))) (v14_2.toInt / 2)) → va_P (dC, dI) vwCl (Wd cs L K Iz9 J14 Q) H → va_S A s.heap H lo → lv_has ls 7 [(0, .ref p0), (1, .ref p1), (2, .int v14_2)] → W p l e R s m (([.ref p0, .ref p1] : List Value).toArray) below meth c H lo 0 0 Qz (F0 m 14 ls [])) (by
    intro n ih14
    intro v14_2 J14 H lo ls hmu14 bv14_2 dj_J14 hev hrw hP hS hl
    refine lv_iload_n hx hb dX3_becomeThinned_14 rfl (lv_at hl 2 rfl) ?_
    refine lv_iconst (v := 3) hx hb dX3_becomeThinned_15 (by decide +kernel) ?_
    refine lv_iadd hx hb dX3_becomeThinned_16 ?_
    refine lv_topi (fun z16 ez16 => ?_)
    have bz16 := tq_add (k := v14_2.toInt) (q := (3)) ez16 rfl (by decide +kernel) (by omega) (by omega)
    refine lv_iconst (v := 2) hx hb dX3_becomeThinned_17 (by decide +kernel) ?_
    refine lv_aload_n hx hb dX3_becomeThinned_18 rfl (lv_at hl 0 rfl) ?_
    refine p_get hx hb hts inX3 hown hK hP hLp0 hKp0 rfl rfl 1 (by decide) (hts _ pq120) rfl dX3_becomeThinned_19 ?_
    refine lv_topi (fun z19 ez19 => ?_)
    have bz19 := oI_3_1 (Iv_at hIz9 hLp0 hKp0)
    rw [← ez19] at bz19
    refine lv_imul hx hb dX3_becomeThinned_22 ?_
    refine lv_topi (fun z22 ez22 => ?_)
    have bz22 := tq_mul (k := (2)) (q := z19.toInt) ez22 (by decide +kernel) rfl (by omega) (by omega)
    have w17 : z19.toInt = (I p1 1).toInt := by rw [ez19, zp9.1, ez6]
    refine lv_icmp_ge (tgt := 131) hx hb dX3_becomeThinned_23 (by decide) (fun c23 => ?_) (fun c23 => ?_)
    · have t23 := tq_le (k := z22.toInt) (q := z16.toInt) c23 rfl rfl
      refine lv_aload_n hx hb dX3_becomeThinned_131 rfl (lv_at hl 0 rfl) ?_
      refine sw_v (Z := (fun I1 J1 => Iv L K x0 m0 tx tm I1 ∧ (∀ b, ¬ (b = p0) → I1 b = Iz9 b) ∧ I1 p0 0 = Iz9 p0 0 ∧ I1 p0 1 = Iz9 p0 1 ∧ (mcl (Iz9 p0 0).toInt (Iz9 p0 1).toInt (J14 (wo Q p0)) → msr (J14 (wo Q p0)) (I1 p0 3).toInt (I1 p0 4).toInt (I1 p0 5).toInt (I1 p0 6).toInt (I1 p0 7).toInt) ∧ J1 = J14)) (va_runV (As := []) (rest := []) ⟨hx, hb, hml, hown, hts⟩ (s_X3_measure l dC dI cs L K G Q hQ x0 m0 tx tm H.size Iz9 J14 hIz9 p0 hLp0 hKp0) (cwV 0 hts (gV pq631 pq542 pq543 pq76 pq544) rfl rfl rfl (by decide +kernel) ⟨(by rw [hR]; exact (Nat.le_of_ble_eq_true rfl)), (by rw [hR]; exact (Nat.le_of_ble_eq_true rfl))⟩) (sP_V hP hD hK hN hLp0 hKp0 rfl rfl) rfl rfl hl.1 rfl (lv_room (Nat.le_of_ble_eq_true rfl)) dX3_becomeThinned_132 ⟨(by rw [hR]; exact (Nat.le_of_ble_eq_true rfl)), (by rw [hR]; exact (Nat.le_of_ble_eq_true rfl))⟩) hS hAL hA (fun Iz132 Jz132 H locs hz132 hIz132 hP hS => ?_)
      obtain ⟨hIz132, frc132, kc132_0_0, kc132_0_1, fz132, djc132⟩ := hIz132
      obtain rfl : J14 = Jz132 := djc132.symm
      have fr_Iz132 : ∀ b, ¬ (b = p0) → Iz132 b = I b := fun b q => (frc132 b (fun z => q (z))).trans (fr_Iz9 b q)
      subst hR; subst hQz
      exact W.vret hx hb hr (fun t ht hW => ⟨⟨(), rfl, trivial, ⟨Iz132, J14, ⟨hIz132, fr_Iz132, (fun ok => mk_fin (Ia := Iz9) kc132_0_0 kc132_0_1 (zp9.2.1.trans ez2) (zp9.1.trans ez6) (hrw ok) (thinD_hi ok.2.2 (by rw [← w17]; omega)) (thinD_in ok.2.2) fz132), dj_J14⟩, by rw [ht]; exact hP⟩⟩, hS.F ht⟩) hS.2.2 dX3_becomeThinned_135
    · have t23 := tq_nle (k := z22.toInt) (q := z16.toInt) c23 rfl rfl
      refine lv_aload_n hx hb dX3_becomeThinned_26 rfl (lv_at hl 1 rfl) ?_
      obtain ⟨y27, ey27, hLy27, hKy27, hGy27⟩ := oQ_3_2 (Sv_at hQ hLp1 hKp1)
      refine p_get (v := .ref y27) hx hb hts inX3 hown hK hP hLp1 hKp1 rfl rfl 2 (by decide) (hts _ pq124) (congrArg (fun q => some (va_rf q)) ey27) dX3_becomeThinned_27 ?_
      refine lv_iload_n hx hb dX3_becomeThinned_30 rfl (lv_at hl 2 rfl) ?_
      refine p_lald hx hb hK hP 2 hLy27 hKy27 rfl rfl (in_of (by omega) (by omega)) dX3_becomeThinned_31 ?_
      refine lv_topl (fun z31 ez31 => ?_)
      refine lv_lstore_n (lv' := [(3, .long z31), (0, .ref p0), (1, .ref p1), (2, .int v14_2)]) hx hb dX3_becomeThinned_32 rfl hl (by decide) rfl (fun ls hl => ?_)
      refine lv_aload_n hx hb dX3_becomeThinned_33 rfl (lv_at hl 2 rfl) ?_
      refine p_get (v := .ref y27) hx hb hts inX3 hown hK hP hLp1 hKp1 rfl rfl 2 (by decide) (hts _ pq124) (congrArg (fun q => some (va_rf q)) ey27) dX3_becomeThinned_34 ?_
      refine lv_iload_n hx hb dX3_becomeThinned_37 rfl (lv_at hl 3 rfl) ?_
      refine lv_iconst (v := 1) hx hb dX3_becomeThinned_38 (by decide +kernel) ?_
      refine lv_iadd hx hb dX3_becomeThinned_39 ?_
      refine lv_topi (fun z39 ez39 => ?_)
      have bz39 := tq_add (k := v14_2.toInt) (q := (1)) ez39 rfl (by decide +kernel) (by omega) (by omega)
      refine p_lald hx hb hK hP 2 hLy27 hKy27 rfl rfl (in_of (by omega) (by omega)) dX3_becomeThinned_40 ?_
      refine lv_topl (fun z40 ez40 => ?_)
      refine lv_lstore (lv' := [(5, .long z40), (3, .long z31), (0, .ref p0), (1, .ref p1), (2, .int v14_2)]) hx hb dX3_becomeThinned_41 hl (by decide) rfl (fun ls hl => ?_)
      have s14 : J14 (wo Q p1) = J (wo Q p1) := dj_J14 _ (fun z => hne (by have w := z.2; rw [wo_of ey27] at w; omega))
      have f31 : z31 = (J (wo Q p1)) (2 * (v14_2.toInt / 2).toNat) := by rw [ez31, ← s14, wo_of ey27]; congr 1; show v14_2.toInt.toNat = _; omega
      have f40 : z40 = (J (wo Q p1)) (2 * (v14_2.toInt / 2).toNat + 1) := by rw [ez40, ← s14, wo_of ey27]; congr 1; show z39.toInt.toNat = _; omega
      refine lv_aload_n hx hb dX3_becomeThinned_43 rfl (lv_at hl 2 rfl) ?_
      obtain ⟨y44, ey44, hLy44, hKy44, hGy44⟩ := oQ_3_2 (Sv_at hQ hLp0 hKp0)
      refine p_get (v := .ref y44) hx hb hts inX3 hown hK hP hLp0 hKp0 rfl rfl 2 (by decide) (hts _ pq124) (congrArg (fun q => some (va_rf q)) ey44) dX3_becomeThinned_44 ?_
      refine lv_iload_n hx hb dX3_becomeThinned_47 rfl (lv_at hl 4 rfl) ?_
      refine lv_lload_n hx hb dX3_becomeThinned_48 rfl (lv_at hl 1 rfl) ?_
      refine lv_lload_n hx hb dX3_becomeThinned_49 rfl (lv_at hl 1 rfl) ?_
      refine lv_iconst (v := 1) hx hb dX3_becomeThinned_50 (by decide +kernel) ?_
      refine lv_lshl hx hb dX3_becomeThinned_51 rfl ?_
      refine lv_topl (fun z51 ez51 => ?_)
      refine lv_land hx hb dX3_becomeThinned_52 ?_
      refine lv_topl (fun z52 ez52 => ?_)
      refine lv_lload_n hx hb dX3_becomeThinned_53 rfl (lv_at hl 1 rfl) ?_
      refine lv_iconst (v := 1) hx hb dX3_becomeThinned_54 (by decide +kernel) ?_
      refine lv_lushr hx hb dX3_becomeThinned_55 rfl ?_
      refine lv_topl (fun z55 ez55 => ?_)
      refine lv_lload hx hb dX3_becomeThinned_56 (lv_at hl 0 rfl) ?_
      refine lv_bipush (v := 63) hx hb dX3_becomeThinned_58 (by decide +kernel) ?_
      refine lv_lshl hx hb dX3_becomeThinned_60 rfl ?_
      refine lv_topl (fun z60 ez60 => ?_)
      refine lv_lor hx hb dX3_becomeThinned_61 ?_
      refine lv_topl (fun z61 ez61 => ?_)
      refine lv_land hx hb dX3_becomeThinned_62 ?_
      refine lv_topl (fun z62 ez62 => ?_)
      refine lv_aload_n hx hb dX3_becomeThinned_63 rfl (lv_at hl 3 rfl) ?_
      refine p_get (v := .ref y27) hx hb hts inX3 hown hK hP hLp1 hKp1 rfl rfl 2 (by decide) (hts _ pq124) (congrArg (fun q => some (va_rf q)) ey27) dX3_becomeThinned_64 ?_
      refine lv_iload_n hx hb dX3_becomeThinned_67 rfl (lv_at hl 4 rfl) ?_
      refine lv_iconst (v := 2) hx hb dX3_becomeThinned_68 (by decide +kernel) ?_
      refine lv_isub hx hb dX3_becomeThinned_69 ?_
      refine lv_topi (fun z69 ez69 => ?_)
      have bz69 := tq_sub (k := v14_2.toInt) (q := (2)) ez69 rfl (by decide +kernel) (by omega) (by omega)
      refine p_lald hx hb hK hP 2 hLy27 hKy27 rfl rfl (in_of (by omega) (by omega)) dX3_becomeThinned_70 ?_
      refine lv_topl (fun z70 ez70 => ?_)
      have f70 : z70 = (J (wo Q p1)) (2 * ((v14_2.toInt / 2).toNat - 1)) := by rw [ez70, ← s14, wo_of ey27]; congr 1; show z69.toInt.toNat = _; omega
      refine lv_land hx hb dX3_becomeThinned_71 ?_
      refine lv_topl (fun z71 ez71 => ?_)
      refine lv_aload_n hx hb dX3_becomeThinned_72 rfl (lv_at hl 3 rfl) ?_
      refine p_get (v := .ref y27) hx hb hts inX3 hown hK hP hLp1 hKp1 rfl rfl 2 (by decide) (hts _ pq124) (congrArg (fun q => some (va_rf q)) ey27) dX3_becomeThinned_73 ?_
      refine lv_iload_n hx hb dX3_becomeThinned_76 rfl (lv_at hl 4 rfl) ?_
      refine lv_iconst (v := 2) hx hb dX3_becomeThinned_77 (by decide +kernel) ?_
      refine lv_iadd hx hb dX3_becomeThinned_78 ?_
      refine lv_topi (fun z78 ez78 => ?_)
      have bz78 := tq_add (k := v14_2.toInt) (q := (2)) ez78 rfl (by decide +kernel) (by omega) (by omega)
      refine p_lald hx hb hK hP 2 hLy27 hKy27 rfl rfl (in_of (by omega) (by omega)) dX3_becomeThinned_79 ?_
      refine lv_topl (fun z79 ez79 => ?_)
      have f79 : z79 = (J (wo Q p1)) (2 * ((v14_2.toInt / 2).toNat + 1)) := by rw [ez79, ← s14, wo_of ey27]; congr 1; show z78.toInt.toNat = _; omega
      refine lv_land hx hb dX3_becomeThinned_80 ?_
      refine lv_topl (fun z80 ez80 => ?_)
      refine p_last hx hb hK hP hD hS 2 hLy44 hKy44 rfl (fun _ => rfl) rfl (in_of (by omega) (by omega)) dX3_becomeThinned_81 (fun H locs hP hS => ?_)
      obtain ⟨Jz81, hP, qJz81⟩ : ∃ Jz81, va_P (dC, dI) vwCl (Wd cs L K Iz9 Jz81 Q) H ∧ Jz81 = va_up J14 y44 (vp_updL (J14 y44) v14_2.toNatClampNeg z80) := ⟨_, hP, rfl⟩
      have dj_Jz81 : (∀ b, ¬ (K b = 12 ∧ (G b = G p0)) → Jz81 b = J b) := fun b hc => (congrFun qJz81 b).trans ((va_up_ne _ _ (fun z => hc (by rw [z]; exact ⟨hKy44, by omega⟩))).trans (dj_J14 b hc))
      refine lv_aload_n hx hb dX3_becomeThinned_82 rfl (lv_at hl 2 rfl) ?_
      refine p_get (v := .ref y44) hx hb hts inX3 hown hK hP hLp0 hKp0 rfl rfl 2 (by decide) (hts _ pq124) (congrArg (fun q => some (va_rf q)) ey44) dX3_becomeThinned_83 ?_
      refine lv_iload_n hx hb dX3_becomeThinned_86 rfl (lv_at hl 4 rfl) ?_
      refine lv_iconst (v := 1) hx hb dX3_becomeThinned_87 (by decide +kernel) ?_
      refine lv_iadd hx hb dX3_becomeThinned_88 ?_
      refine lv_topi (fun z88 ez88 => ?_)
      have bz88 := tq_add (k := v14_2.toInt) (q := (1)) ez88 rfl (by decide +kernel) (by omega) (by omega)
      refine lv_lload hx hb dX3_becomeThinned_89 (lv_at hl 0 rfl) ?_
      refine lv_lload hx hb dX3_becomeThinned_91 (lv_at hl 0 rfl) ?_
      refine lv_iconst (v := 1) hx hb dX3_becomeThinned_93 (by decide +kernel) ?_
      refine lv_lshl hx hb dX3_becomeThinned_94 rfl ?_
      refine lv_topl (fun z94 ez94 => ?_)
      refine lv_lload_n hx hb dX3_becomeThinned_95 rfl (lv_at hl 1 rfl) ?_
      refine lv_bipush (v := 63) hx hb dX3_becomeThinned_96 (by decide +kernel) ?_
      refine lv_lushr hx hb dX3_becomeThinned_98 rfl ?_
      refine lv_topl (fun z98 ez98 => ?_)
      refine lv_lor hx hb dX3_becomeThinned_99 ?_
      refine lv_topl (fun z99 ez99 => ?_)
      refine lv_land hx hb dX3_becomeThinned_100 ?_
      refine lv_topl (fun z100 ez100 => ?_)
      refine lv_lload hx hb dX3_becomeThinned_101 (lv_at hl 0 rfl) ?_
      refine lv_iconst (v := 1) hx hb dX3_becomeThinned_103 (by decide +kernel) ?_
      refine lv_lushr hx hb dX3_becomeThinned_104 rfl ?_
      refine lv_topl (fun z104 ez104 => ?_)
      refine lv_land hx hb dX3_becomeThinned_105 ?_
      refine lv_topl (fun z105 ez105 => ?_)
      have s14b : Jz81 (wo Q p1) = J (wo Q p1) := dj_Jz81 _ (fun z => hne (by have w := z.2; rw [wo_of ey27] at w; omega))
      refine lv_aload_n hx hb dX3_becomeThinned_106 rfl (lv_at hl 3 rfl) ?_
      refine p_get (v := .ref y27) hx hb hts inX3 hown hK hP hLp1 hKp1 rfl rfl 2 (by decide) (hts _ pq124) (congrArg (fun q => some (va_rf q)) ey27) dX3_becomeThinned_107 ?_
      refine lv_iload_n hx hb dX3_becomeThinned_110 rfl (lv_at hl 4 rfl) ?_
      refine lv_iconst (v := 1) hx hb dX3_becomeThinned_111 (by decide +kernel) ?_
      refine lv_isub hx hb dX3_becomeThinned_112 ?_
      refine lv_topi (fun z112 ez112 => ?_)
      have bz112 := tq_sub (k := v14_2.toInt) (q := (1)) ez112 rfl (by decide +kernel) (by omega) (by omega)
      refine p_lald hx hb hK hP 2 hLy27 hKy27 rfl rfl (in_of (by omega) (by omega)) dX3_becomeThinned_113 ?_
      refine lv_topl (fun z113 ez113 => ?_)
      have f113 : z113 = (J (wo Q p1)) (2 * ((v14_2.toInt / 2).toNat - 1) + 1) := by rw [ez113, ← s14b, wo_of ey27]; congr 1; show z112.toInt.toNat = _; omega
      refine lv_land hx hb dX3_becomeThinned_114 ?_
      refine lv_topl (fun z114 ez114 => ?_)
      refine lv_aload_n hx hb dX3_becomeThinned_115 rfl (lv_at hl 3 rfl) ?_
      refine p_get (v := .ref y27) hx hb hts inX3 hown hK hP hLp1 hKp1 rfl rfl 2 (by decide) (hts _ pq124) (congrArg (fun q => some (va_rf q)) ey27) dX3_becomeThinned_116 ?_
      refine lv_iload_n hx hb dX3_becomeThinned_119 rfl (lv_at hl 4 rfl) ?_
      refine lv_iconst (v := 3) hx hb dX3_becomeThinned_120 (by decide +kernel) ?_
      refine lv_iadd hx hb dX3_becomeThinned_121 ?_
      refine lv_topi (fun z121 ez121 => ?_)
      have bz121 := tq_add (k := v14_2.toInt) (q := (3)) ez121 rfl (by decide +kernel) (by omega) (by omega)
      refine p_lald hx hb hK hP 2 hLy27 hKy27 rfl rfl (in_of (by omega) (by omega)) dX3_becomeThinned_122 ?_
      refine lv_topl (fun z122 ez122 => ?_)
      have f122 : z122 = (J (wo Q p1)) (2 * ((v14_2.toInt / 2).toNat + 1) + 1) := by rw [ez122, ← s14b, wo_of ey27]; congr 1; show z121.toInt.toNat = _; omega
      refine lv_land hx hb dX3_becomeThinned_123 ?_
      refine lv_topl (fun z123 ez123 => ?_)
      refine p_last hx hb hK hP hD hS 2 hLy44 hKy44 rfl (fun _ => rfl) rfl (in_of (by omega) (by omega)) dX3_becomeThinned_124 (fun H locs hP hS => ?_)
      obtain ⟨Jz124, hP, qJz124⟩ : ∃ Jz124, va_P (dC, dI) vwCl (Wd cs L K Iz9 Jz124 Q) H ∧ Jz124 = va_up Jz81 y44 (vp_updL (Jz81 y44) z88.toNatClampNeg z123) := ⟨_, hP, rfl⟩
      have dj_Jz124 : (∀ b, ¬ (K b = 12 ∧ (G b = G p0)) → Jz124 b = J b) := fun b hc => (congrFun qJz124 b).trans ((va_up_ne _ _ (fun z => hc (by rw [z]; exact ⟨hKy44, by omega⟩))).trans (dj_Jz81 b hc))
      obtain ⟨z125, ez125⟩ : ∃ y : Int32, y = v14_2 + 2 := ⟨_, rfl⟩
      refine lv_iinc (v := z125) (lv' := [(2, .int z125), (5, .long z40), (3, .long z31), (0, .ref p0), (1, .ref p1)]) hx hb dX3_becomeThinned_125 hl (k := 4) rfl (by rw [ez125]; rfl) (by decide) rfl (fun ls hl => ?_)
      have bz125 := tq_add (k := v14_2.toInt) (q := 2) ez125 rfl (by decide +kernel) (by omega) (by omega)
      refine lv_goto (tgt := 14) hx hb dX3_becomeThinned_128 (by decide) ?_
      exact ih14 _ (by omega) z125 Jz124 _ _ _ rfl ⟨by omega, by omega⟩ dj_Jz124 (by omega) (fun ok => rws_step (r := (v14_2.toInt / 2).toNat) (hrw ok) (f1 := Jz81 (wo Q p0)) (a := z80) (b := z123) (fun j => by rw [qJz81, wo_of ey44, va_up_self]; unfold vp_updL; rw [show v14_2.toNatClampNeg = 2 * (v14_2.toInt / 2).toNat from (by show v14_2.toInt.toNat = _; omega)]) (fun j => by rw [qJz124, wo_of ey44, va_up_self]; unfold vp_updL; rw [show z88.toNatClampNeg = 2 * (v14_2.toInt / 2).toNat + 1 from (by show z88.toInt.toNat = _; omega)]) (by omega) (by omega) (by omega) (th_row (by omega) f31 f40 f70 f113 f79 f122 ez51 ez52 ez55 ez60 ez61 ez62 ez71 ez80 ez94 ez98 ez99 ez100 ez104 ez105 ez114 ez123)) hP hS (lv_sub hl [3, 4, 0] rfl))
  exact key14 _ 2 Jz9 _ _ _ rfl ⟨by decide +kernel, by decide +kernel⟩ dj_Jz9 (by decide +kernel) (fun ok => rws_0 jz9 (fun x y a b => thinD_0 x y (by rw [show (2 : Int32).toInt / 2 = 1 from by decide +kernel] at b; omega))) hP hS (lv_sub hl [1, 2, 0] rfl)

set_option maxHeartbeats 4000000 in
set_option maxRecDepth 100000 in
theorem s_X3_joined (l : Launch) (dC : Nat → ClassId) (dI : Nat → Nat → Nat) (cs : Nat → ClassId) (L : List Nat) (K G : Nat → Nat) (Q : Nat → Nat → Option Nat) (hQ : Sv L K G Q) (x0 m0 : Nat) (tx : GT) (tm : GT × Int) (sz : Nat) (I : Nat → Nat → Int32) (J : Nat → Nat → Int64) (hI : Iv L K x0 m0 tx tm I) (p0 : Int64) (p1 : Int64) (p2 : Int32) : Met l yX3_joined (.code yX3_joined cX3_joined 5 (some .long) :: pw) ({ frames := 0, cells := 0, slots := 0, locals := 0 }) (sP (dC, dI) cs [.long p0, .long p1, .int p2] sz L K I J Q) (va_Ql (fun (r : Int64) (_ : Unit) => (∀ i : Nat, i < 64 → b64 r i = jop p2.toInt (b64 p0 i) (b64 p1 i))) (fun _ _ => True) (fun _ => False)) 0 0 (fun _ => False) := by
  refine Met.ofW (cc := cX3_joined) (maxL := 5) (ret := (some .long)) (by decide +kernel) rfl ?_
  intro p e s m args below meth c s₁ B hml hv
  obtain ⟨rfl, hsz, hP, hK, hD0, hN⟩ := hv
  have hx := B.exec
  have hb := B.bytes
  have hr := B.returns
  have hts := fun w (h : w ∈ pw) => atoms_spec (ws := Cond.code yX3_joined cX3_joined 5 (some .long) :: pw) B.pre w (List.mem_cons_of_mem _ h)
  have hown : s.vm.findClass RX3 = some m.cls := findClass_of_methodNamed B.named
  have hlocks := B.notSynchronized
  subst hsz
  have hBB : 999 ≤ tm.2 ∧ tm.2 ≤ 6000000 := hI.2.2.2.2.1
  have hD := hD0
  obtain ⟨H, hHe⟩ : ∃ H : Heap, H = s.heap := ⟨_, rfl⟩
  have hS : va_S (fun _ => False) s.heap H [] := by rw [hHe]; exact va_S.rf
  rw [← hHe] at hP
  have hl := lv_entry ([.long p0, .long p1, .int p2]) (n := 5) (Nat.le_of_ble_eq_true rfl)
  rw [lg_entry_eq]
  generalize (lg_sl ([.long p0, .long p1, .int p2]) ++ List.replicate (5 - (lg_sl ([.long p0, .long p1, .int p2])).length) Slot.unset).toArray = ls at hl ⊢
  have hl : lv_has ls 5 [(0, .long p0), (2, .long p1), (4, .int p2)] := hl
  rw [← hHe]
  refine namedW (fun R Qz hR hQz => ?_)
  refine lv_iload hx hb dX3_joined_0 (lv_at hl 2 rfl) ?_
  refine lv_topi (fun z2 ez2 => ?_)
  rcases sw3 z2 with rfl | rfl | rfl | hsw2
  · refine lv_tableIn (off := 26) (tgt := 28) hx hb dX3_joined_2 (by decide +kernel) (by decide +kernel) (by decide +kernel) (by decide) ?_
    have sv2 : p2.toInt = 0 := by rw [← ez2]; decide +kernel
    refine lv_lload_n hx hb dX3_joined_28 rfl (lv_at hl 0 rfl) ?_
    refine lv_lload_n hx hb dX3_joined_29 rfl (lv_at hl 1 rfl) ?_
    refine lv_lor hx hb dX3_joined_30 ?_
    refine lv_topl (fun z30 ez30 => ?_)
    subst hR; subst hQz
    exact W.lret (v := z30) hx hb hr (fun t ht hW => ⟨⟨z30, (), rfl, (fun i hi => by rw [b64_or ez30, sv2]; rfl), trivial⟩, hS.F ht⟩) hS.2.2 dX3_joined_31
  · refine lv_tableIn (off := 30) (tgt := 32) hx hb dX3_joined_2 (by decide +kernel) (by decide +kernel) (by decide +kernel) (by decide) ?_
    have sv2 : p2.toInt = 1 := by rw [← ez2]; decide +kernel
    refine lv_lload_n hx hb dX3_joined_32 rfl (lv_at hl 0 rfl) ?_
    refine lv_lload_n hx hb dX3_joined_33 rfl (lv_at hl 1 rfl) ?_
    refine lv_land hx hb dX3_joined_34 ?_
    refine lv_topl (fun z34 ez34 => ?_)
    subst hR; subst hQz
    exact W.lret (v := z34) hx hb hr (fun t ht hW => ⟨⟨z34, (), rfl, (fun i hi => by rw [b64_and ez34, sv2]; rfl), trivial⟩, hS.F ht⟩) hS.2.2 dX3_joined_35
  · refine lv_tableIn (off := 34) (tgt := 36) hx hb dX3_joined_2 (by decide +kernel) (by decide +kernel) (by decide +kernel) (by decide) ?_
    have sv2 : p2.toInt = 2 := by rw [← ez2]; decide +kernel
    refine lv_lload_n hx hb dX3_joined_36 rfl (lv_at hl 0 rfl) ?_
    refine lv_lload_n hx hb dX3_joined_37 rfl (lv_at hl 1 rfl) ?_
    refine lv_ldc2 hx hb hown (hts _ pq505) dX3_joined_38 ?_
    refine lv_lxor hx hb dX3_joined_41 ?_
    refine lv_topl (fun z41 ez41 => ?_)
    refine lv_land hx hb dX3_joined_42 ?_
    refine lv_topl (fun z42 ez42 => ?_)
    subst hR; subst hQz
    exact W.lret (v := z42) hx hb hr (fun t ht hW => ⟨⟨z42, (), rfl, (fun i hi => by rw [b64_and ez42, b64_not ez41 hi, sv2]; rfl), trivial⟩, hS.F ht⟩) hS.2.2 dX3_joined_43
  · refine lv_tableOut (tgt := 44) hx hb dX3_joined_2 hsw2 (by decide) ?_
    refine lv_lload_n hx hb dX3_joined_44 rfl (lv_at hl 0 rfl) ?_
    refine lv_lload_n hx hb dX3_joined_45 rfl (lv_at hl 1 rfl) ?_
    refine lv_lxor hx hb dX3_joined_46 ?_
    refine lv_topl (fun z46 ez46 => ?_)
    subst hR; subst hQz
    exact W.lret (v := z46) hx hb hr (fun t ht hW => ⟨⟨z46, (), rfl, (fun i hi => by unfold jop; rw [← ez2, if_neg (by omega), if_neg (by omega), if_neg (by omega)]; exact b64_xor ez46 i), trivial⟩, hS.F ht⟩) hS.2.2 dX3_joined_47

set_option maxHeartbeats 4000000 in
set_option maxRecDepth 100000 in
theorem s_X3_becomeJoined (l : Launch) (dC : Nat → ClassId) (dI : Nat → Nat → Nat) (cs : Nat → ClassId) (L : List Nat) (K G : Nat → Nat) (Q : Nat → Nat → Option Nat) (hQ : Sv L K G Q) (x0 m0 : Nat) (tx : GT) (tm : GT × Int) (sz : Nat) (I : Nat → Nat → Int32) (J : Nat → Nat → Int64) (hI : Iv L K x0 m0 tx tm I) (p0 : Nat) (hLp0 : p0 ∈ L) (hKp0 : K p0 = 3) (p1 : Nat) (hLp1 : p1 ∈ L) (hKp1 : K p1 = 3) (p2 : Nat) (hLp2 : p2 ∈ L) (hKp2 : K p2 = 3) (p3 : Int32) (bp3 : (-99) ≤ p3.toInt ∧ p3.toInt ≤ 99) (p4 : Int32) (bp4 : (-99) ≤ p4.toInt ∧ p4.toInt ≤ 99) (p5 : Int32) (bp5 : (0) ≤ p5.toInt ∧ p5.toInt ≤ 3) (hne : ¬ G p0 = G p1) (hne2 : ¬ G p0 = G p2) : Met l yX3_becomeJoined (.code yX3_becomeJoined cX3_becomeJoined 12 none :: pw) ({ frames := 3, cells := 0, slots := 0, locals := 75 }) (sP (dC, dI) cs [.ref p0, .ref p1, .ref p2, .int p3, .int p4, .int p5] sz L K I J Q) (va_Qv (fun (_ : Unit) => True) (fun _ t => sB (dC, dI) cs L K Q (fun I1 J1 => Iv L K x0 m0 tx tm I1 ∧ (∀ b, ¬ (b = p0) → I1 b = I b) ∧ (okm (I p1 0).toInt (I p1 1).toInt (J (wo Q p1)) → okm (I p2 0).toInt (I p2 1).toInt (J (wo Q p2)) → mkd Q I1 J1 p0 (I p1 0) (I p1 1) (joinD (I p1 0).toInt (I p1 1).toInt (J (wo Q p1)) (J (wo Q p2)) p3.toInt p4.toInt p5.toInt)) ∧ (∀ b, ¬ (K b = 12 ∧ (G b = G p0)) → J1 b = J b)) t) (fun q => q ∈ L ∨ sz ≤ q)) 0 0 (fun q => q ∈ L ∨ sz ≤ q) := by
  refine Met.ofW (cc := cX3_becomeJoined) (maxL := 12) (ret := none) (by decide +kernel) rfl ?_
  intro p e s m args below meth c s₁ B hml hv
  obtain ⟨rfl, hsz, hP, hK, hD0, hN⟩ := hv
  have hx := B.exec
  have hb := B.bytes
  have hr := B.returns
  have hts := fun w (h : w ∈ pw) => atoms_spec (ws := Cond.code yX3_becomeJoined cX3_becomeJoined 12 none :: pw) B.pre w (List.mem_cons_of_mem _ h)
  have hown : s.vm.findClass RX3 = some m.cls := findClass_of_methodNamed B.named
  have hlocks := B.notSynchronized
  subst hsz
  have hBB : 999 ≤ tm.2 ∧ tm.2 ≤ 6000000 := hI.2.2.2.2.1
  have dj_J : (∀ b, ¬ (K b = 12 ∧ (G b = G p0)) → J b = J b) := fun _ _ => rfl
  have fr_I : ∀ b, ¬ (b = p0) → I b = I b := fun _ _ => rfl
  obtain ⟨A, hAe⟩ : ∃ A : Nat → Prop, A = (fun q => q ∈ L ∨ s.heap.size ≤ q) := ⟨_, rfl⟩
  rw [← hAe]
  have hAL : ∀ q, q ∈ L → A q := fun q h => by rw [hAe]; exact Or.inl h
  have hA : ∀ q, s.heap.size ≤ q → A q := fun q h => by rw [hAe]; exact Or.inr h
  have hD : ∀ F, va_D A (va_pl L F) := fun F => (hD0 F).weaken (fun k q hk _ => hAL _ (pl_mem hk))
  obtain ⟨H, hHe⟩ : ∃ H : Heap, H = s.heap := ⟨_, rfl⟩
  have hS : va_S A s.heap H [] := by rw [hHe]; exact va_S.rf
  rw [← hHe] at hP
  have hl := lv_entry ([.ref p0, .ref p1, .ref p2, .int p3, .int p4, .int p5]) (n := 12) (Nat.le_of_ble_eq_true rfl)
  rw [lg_entry_eq]
  generalize (lg_sl ([.ref p0, .ref p1, .ref p2, .int p3, .int p4, .int p5]) ++ List.replicate (12 - (lg_sl ([.ref p0, .ref p1, .ref p2, .int p3, .int p4, .int p5])).length) Slot.unset).toArray = ls at hl ⊢
  have hl : lv_has ls 12 [(0, .ref p0), (1, .ref p1), (2, .ref p2), (3, .int p3), (4, .int p4), (5, .int p5)] := hl
  rw [← hHe]
  refine namedW (fun R Qz hR hQz => ?_)
  refine lv_aload_n hx hb dX3_becomeJoined_0 rfl (lv_at hl 0 rfl) ?_
  refine lv_aload_n hx hb dX3_becomeJoined_1 rfl (lv_at hl 1 rfl) ?_
  refine p_get hx hb hts inX3 hown hK hP hLp1 hKp1 rfl rfl 0 (by decide) (hts _ pq116) rfl dX3_becomeJoined_2 ?_
  refine lv_topi (fun z2 ez2 => ?_)
  have bz2 := oI_3_0 (Iv_at hI hLp1 hKp1)
  rw [← ez2] at bz2
  refine lv_aload_n hx hb dX3_becomeJoined_5 rfl (lv_at hl 1 rfl) ?_
  refine p_get hx hb hts inX3 hown hK hP hLp1 hKp1 rfl rfl 1 (by decide) (hts _ pq120) rfl dX3_becomeJoined_6 ?_
  refine lv_topi (fun z6 ez6 => ?_)
  have bz6 := oI_3_1 (Iv_at hI hLp1 hKp1)
  rw [← ez6] at bz6
  refine sw_v (Z := (fun I1 J1 => Iv L K x0 m0 tx tm I1 ∧ (∀ b, ¬ (b = p0) → I1 b = I b) ∧ ((I1 p0 1 = z6 ∧ I1 p0 0 = z2 ∧ ∀ b k, ¬ k = 0 → ¬ k = 1 → ¬ k = 3 → I1 b k = I b k)) ∧ (∀ k, k < 80 → J1 (wo Q p0) k = 0) ∧ (∀ b, ¬ (K b = 12 ∧ (G b = G p0)) → J1 b = J b))) (va_runV (As := [.int z2, .int z6]) (rest := []) ⟨hx, hb, hml, hown, hts⟩ (s_X3_resize l dC dI cs L K G Q hQ x0 m0 tx tm H.size I J hI p0 hLp0 hKp0 z2 ⟨by omega, by omega⟩ z6 ⟨by omega, by omega⟩) (cwV 2 hts (gV pq613 pq493 pq494 pq76 pq495) rfl rfl rfl (by decide +kernel) ⟨(by rw [hR]; exact (Nat.le_of_ble_eq_true rfl)), (by rw [hR]; exact (Nat.le_of_ble_eq_true rfl))⟩) (sP_V hP hD hK hN hLp0 hKp0 rfl rfl) rfl rfl hl.1 rfl (lv_room (Nat.le_of_ble_eq_true rfl)) dX3_becomeJoined_9 ⟨(by rw [hR]; exact (Nat.le_of_ble_eq_true rfl)), (by rw [hR]; exact (Nat.le_of_ble_eq_true rfl))⟩) hS hAL hA (fun Iz9 Jz9 H locs hz9 hIz9 hP hS => ?_)
  obtain ⟨hIz9, frc9, zp9, jz9, djc9⟩ := hIz9
  have dj_Jz9 : (∀ b, ¬ (K b = 12 ∧ (G b = G p0)) → Jz9 b = J b) := fun b hc => (djc9 b (fun z => hc (by exact ⟨z.1, by have z2 := z.2; omega⟩))).trans (dj_J b hc)
  have fr_Iz9 : ∀ b, ¬ (b = p0) → Iz9 b = I b := fun b q => (frc9 b (fun z => q (z))).trans (fr_I b q)
  refine lv_iconst (v := 0) hx hb dX3_becomeJoined_12 (by decide +kernel) ?_
  refine lv_istore (lv' := [(6, .int 0), (0, .ref p0), (1, .ref p1), (2, .ref p2), (3, .int p3), (4, .int p4), (5, .int p5)]) hx hb dX3_becomeJoined_13 hl (by decide) rfl (fun ls hl => ?_)
  have key15 := blocks (fun n => ∀ (v15_6 : Int32) (J15 : Nat → Nat → Int64) (H : Heap) (lo : List Loc) (ls : Array Slot), (41 - v15_6.toInt).toNat = n → ((0) ≤ v15_6.toInt ∧ v15_6.toInt ≤ 40) → (∀ b, ¬ (K b = 12 ∧ (G b = G p0)) → J15 b = J b) → (okm (I p1 0).toInt (I p1 1).toInt (J (wo Q p1)) → okm (I p2 0).toInt (I p2 1).toInt (J (wo Q p2)) → rws (J15 (wo Q p0)) (joinD (I p1 0).toInt (I p1 1).toInt (J (wo Q p1)) (J (wo Q p2)) p3.toInt p4.toInt p5.toInt) v15_6.toInt) → va_P (dC, dI) vwCl (Wd cs L K Iz9 J15 Q) H → va_S A s.heap H lo → lv_has ls 12 [(0, .ref p0), (1, .ref p1), (2, .ref p2), (3, .int p3), (4, .int p4), (5, .int p5), (6, .int v15_6)] → W p l e R s m (([.ref p0, .ref p1, .ref p2, .int p3, .int p4, .int p5] : List Value).toArray) below meth c H lo 0 0 Qz (F0 m 15 ls [])) (by
    intro n ih15
    intro v15_6 J15 H lo ls hmu15 bv15_6 dj_J15 hrw hP hS hl
    refine lv_iload hx hb dX3_becomeJoined_15 (lv_at hl 6 rfl) ?_
    refine lv_aload_n hx hb dX3_becomeJoined_17 rfl (lv_at hl 0 rfl) ?_
    refine p_get hx hb hts inX3 hown hK hP hLp0 hKp0 rfl rfl 1 (by decide) (hts _ pq120) rfl dX3_becomeJoined_18 ?_
    refine lv_topi (fun z18 ez18 => ?_)
    have bz18 := oI_3_1 (Iv_at hIz9 hLp0 hKp0)
    rw [← ez18] at bz18
    have w18 : z18.toInt = (I p1 1).toInt := by rw [ez18, zp9.1, ez6]
    have s1 : J15 (wo Q p1) = J (wo Q p1) := dj_J15 _ (fun z => hne (by have w := z.2; have g := (wo_g hQ hLp1 hKp1).2.2; omega))
    have s2 : J15 (wo Q p2) = J (wo Q p2) := dj_J15 _ (fun z => hne2 (by have w := z.2; have g := (wo_g hQ hLp2 hKp2).2.2; omega))
    refine lv_icmp_ge (tgt := 179) hx hb dX3_becomeJoined_21 (by decide) (fun c21 => ?_) (fun c21 => ?_)
    · have t21 := tq_le (k := z18.toInt) (q := v15_6.toInt) c21 rfl rfl
      refine lv_aload_n hx hb dX3_becomeJoined_179 rfl (lv_at hl 0 rfl) ?_
      refine sw_v (Z := (fun I1 J1 => Iv L K x0 m0 tx tm I1 ∧ (∀ b, ¬ (b = p0) → I1 b = Iz9 b) ∧ I1 p0 0 = Iz9 p0 0 ∧ I1 p0 1 = Iz9 p0 1 ∧ (mcl (Iz9 p0 0).toInt (Iz9 p0 1).toInt (J15 (wo Q p0)) → msr (J15 (wo Q p0)) (I1 p0 3).toInt (I1 p0 4).toInt (I1 p0 5).toInt (I1 p0 6).toInt (I1 p0 7).toInt) ∧ J1 = J15)) (va_runV (As := []) (rest := []) ⟨hx, hb, hml, hown, hts⟩ (s_X3_measure l dC dI cs L K G Q hQ x0 m0 tx tm H.size Iz9 J15 hIz9 p0 hLp0 hKp0) (cwV 0 hts (gV pq631 pq542 pq543 pq76 pq544) rfl rfl rfl (by decide +kernel) ⟨(by rw [hR]; exact (Nat.le_of_ble_eq_true rfl)), (by rw [hR]; exact (Nat.le_of_ble_eq_true rfl))⟩) (sP_V hP hD hK hN hLp0 hKp0 rfl rfl) rfl rfl hl.1 rfl (lv_room (Nat.le_of_ble_eq_true rfl)) dX3_becomeJoined_180 ⟨(by rw [hR]; exact (Nat.le_of_ble_eq_true rfl)), (by rw [hR]; exact (Nat.le_of_ble_eq_true rfl))⟩) hS hAL hA (fun Iz180 Jz180 H locs hz180 hIz180 hP hS => ?_)
      obtain ⟨hIz180, frc180, kc180_0_0, kc180_0_1, fz180, djc180⟩ := hIz180
      obtain rfl : J15 = Jz180 := djc180.symm
      have fr_Iz180 : ∀ b, ¬ (b = p0) → Iz180 b = I b := fun b q => (frc180 b (fun z => q (z))).trans (fr_Iz9 b q)
      subst hR; subst hQz
      exact W.vret hx hb hr (fun t ht hW => ⟨⟨(), rfl, trivial, ⟨Iz180, J15, ⟨hIz180, fr_Iz180, (fun ok ok2 => mk_fin (Ia := Iz9) kc180_0_0 kc180_0_1 (zp9.2.1.trans ez2) (zp9.1.trans ez6) (hrw ok ok2) (joinD_hi (by rw [← w18]; omega)) joinD_in fz180), dj_J15⟩, by rw [ht]; exact hP⟩⟩, hS.F ht⟩) hS.2.2 dX3_becomeJoined_183
    · have t21 := tq_nle (k := z18.toInt) (q := v15_6.toInt) c21 rfl rfl
      refine lv_lconst (v := 0) hx hb dX3_becomeJoined_24 (by decide +kernel) ?_
      refine lv_lstore (lv' := [(7, .long 0), (0, .ref p0), (1, .ref p1), (2, .ref p2), (3, .int p3), (4, .int p4), (5, .int p5), (6, .int v15_6)]) hx hb dX3_becomeJoined_25 hl (by decide) rfl (fun ls hl => ?_)
      refine lv_lconst (v := 0) hx hb dX3_becomeJoined_27 (by decide +kernel) ?_
      refine lv_lstore (lv' := [(9, .long 0), (7, .long 0), (0, .ref p0), (1, .ref p1), (2, .ref p2), (3, .int p3), (4, .int p4), (5, .int p5), (6, .int v15_6)]) hx hb dX3_becomeJoined_28 hl (by decide) rfl (fun ls hl => ?_)
      refine lv_iload hx hb dX3_becomeJoined_30 (lv_at hl 8 rfl) ?_
      refine lv_iload hx hb dX3_becomeJoined_32 (lv_at hl 6 rfl) ?_
      refine lv_isub hx hb dX3_becomeJoined_34 ?_
      refine lv_topi (fun z34 ez34 => ?_)
      have bz34 := tq_sub (k := v15_6.toInt) (q := p4.toInt) ez34 rfl rfl (by omega) (by omega)
      refine lv_istore (lv' := [(11, .int z34), (9, .long 0), (7, .long 0), (0, .ref p0), (1, .ref p1), (2, .ref p2), (3, .int p3), (4, .int p4), (5, .int p5), (6, .int v15_6)]) hx hb dX3_becomeJoined_35 hl (by decide) rfl (fun ls hl => ?_)
      refine lv_iload hx hb dX3_becomeJoined_37 (lv_at hl 0 rfl) ?_
      have j119 : ∀ (v119_7 : Int64) (v119_9 : Int64) (H : Heap) (lo : List Loc) (ls : Array Slot), (okm (I p1 0).toInt (I p1 1).toInt (J (wo Q p1)) → okm (I p2 0).toInt (I p2 1).toInt (J (wo Q p2)) → ∀ i : Nat, i < 64 → b64 v119_7 i = (md (J (wo Q p2)) ((i : Int) - p3.toInt) (v15_6.toInt - p4.toInt) && decide ((i : Int) < (I p1 0).toInt)) ∧ b64 v119_9 i = (md (J (wo Q p2)) ((i : Int) + 64 - p3.toInt) (v15_6.toInt - p4.toInt) && decide ((i : Int) + 64 < (I p1 0).toInt))) → va_P (dC, dI) vwCl (Wd cs L K Iz9 J15 Q) H → va_S A s.heap H lo → lv_has ls 12 [(0, .ref p0), (1, .ref p1), (2, .ref p2), (3, .int p3), (4, .int p4), (5, .int p5), (6, .int v15_6), (7, .long v119_7), (9, .long v119_9), (11, .int z34)] → W p l e R s m (([.ref p0, .ref p1, .ref p2, .int p3, .int p4, .int p5] : List Value).toArray) below meth c H lo 0 0 Qz (F0 m 119 ls []) := by
        intro v119_7 v119_9 H lo ls h119 hP hS hl
        refine lv_aload_n hx hb dX3_becomeJoined_119 rfl (lv_at hl 0 rfl) ?_
        obtain ⟨y120, ey120, hLy120, hKy120, hGy120⟩ := oQ_3_2 (Sv_at hQ hLp0 hKp0)
        refine p_get (v := .ref y120) hx hb hts inX3 hown hK hP hLp0 hKp0 rfl rfl 2 (by decide) (hts _ pq124) (congrArg (fun q => some (va_rf q)) ey120) dX3_becomeJoined_120 ?_
        refine lv_iconst (v := 2) hx hb dX3_becomeJoined_123 (by decide +kernel) ?_
        refine lv_iload hx hb dX3_becomeJoined_124 (lv_at hl 6 rfl) ?_
        refine lv_imul hx hb dX3_becomeJoined_126 ?_
        refine lv_topi (fun z126 ez126 => ?_)
        have bz126 := tq_mul (k := (2)) (q := v15_6.toInt) ez126 (by decide +kernel) rfl (by omega) (by omega)
        refine lv_aload_n hx hb dX3_becomeJoined_127 rfl (lv_at hl 1 rfl) ?_
        obtain ⟨y128, ey128, hLy128, hKy128, hGy128⟩ := oQ_3_2 (Sv_at hQ hLp1 hKp1)
        refine p_get (v := .ref y128) hx hb hts inX3 hown hK hP hLp1 hKp1 rfl rfl 2 (by decide) (hts _ pq124) (congrArg (fun q => some (va_rf q)) ey128) dX3_becomeJoined_128 ?_
        refine lv_iconst (v := 2) hx hb dX3_becomeJoined_131 (by decide +kernel) ?_
        refine lv_iload hx hb dX3_becomeJoined_132 (lv_at hl 6 rfl) ?_
        refine lv_imul hx hb dX3_becomeJoined_134 ?_
        refine lv_topi (fun z134 ez134 => ?_)
        have bz134 := tq_mul (k := (2)) (q := v15_6.toInt) ez134 (by decide +kernel) rfl (by omega) (by omega)
        refine p_lald hx hb hK hP 2 hLy128 hKy128 rfl rfl (in_of (by omega) (by omega)) dX3_becomeJoined_135 ?_
        refine lv_topl (fun z135 ez135 => ?_)
        have f135 : z135 = (J (wo Q p1)) (2 * v15_6.toInt.toNat) := by rw [ez135, ← s1, wo_of ey128]; congr 1; show z134.toInt.toNat = _; omega
        refine lv_lload hx hb dX3_becomeJoined_136 (lv_at hl 7 rfl) ?_
        refine lv_iload hx hb dX3_becomeJoined_138 (lv_at hl 5 rfl) ?_
        refine ro_l (va_runS (As := [.long z135, .long v119_7, .int p5]) (rest := [.int z126, .ref y120]) ⟨hx, hb, hml, hown, hts⟩ (s_X3_joined l dC dI cs L K G Q hQ x0 m0 tx tm H.size Iz9 J15 hIz9 z135 v119_7 p5) (va_cwS 3 hts (gS pq708 pq709 pq76 pq710) rfl rfl rfl (by decide +kernel) ⟨(by rw [hR]; exact (Nat.le_of_ble_eq_true rfl)), (by rw [hR]; exact (Nat.le_of_ble_eq_true rfl))⟩) (sP_S hP hD hK hN) rfl rfl hl.1 rfl (lv_room (Nat.le_of_ble_eq_true rfl)) dX3_becomeJoined_140 ⟨(by rw [hR]; exact (Nat.le_of_ble_eq_true rfl)), (by rw [hR]; exact (Nat.le_of_ble_eq_true rfl))⟩) hS hP (fun z140 H locs hz140 hP hS => ?_)
        have xpz140 := hz140
        refine p_last hx hb hK hP hD hS 2 hLy120 hKy120 rfl (fun _ => rfl) rfl (in_of (by omega) (by omega)) dX3_becomeJoined_143 (fun H locs hP hS => ?_)
        obtain ⟨Jz143, hP, qJz143⟩ : ∃ Jz143, va_P (dC, dI) vwCl (Wd cs L K Iz9 Jz143 Q) H ∧ Jz143 = va_up J15 y120 (vp_updL (J15 y120) z126.toNatClampNeg z140) := ⟨_, hP, rfl⟩
        have dj_Jz143 : (∀ b, ¬ (K b = 12 ∧ (G b = G p0)) → Jz143 b = J b) := fun b hc => (congrFun qJz143 b).trans ((va_up_ne _ _ (fun z => hc (by rw [z]; exact ⟨hKy120, by omega⟩))).trans (dj_J15 b hc))
        refine lv_aload_n hx hb dX3_becomeJoined_144 rfl (lv_at hl 0 rfl) ?_
        refine p_get (v := .ref y120) hx hb hts inX3 hown hK hP hLp0 hKp0 rfl rfl 2 (by decide) (hts _ pq124) (congrArg (fun q => some (va_rf q)) ey120) dX3_becomeJoined_145 ?_
        refine lv_iconst (v := 2) hx hb dX3_becomeJoined_148 (by decide +kernel) ?_
        refine lv_iload hx hb dX3_becomeJoined_149 (lv_at hl 6 rfl) ?_
        refine lv_imul hx hb dX3_becomeJoined_151 ?_
        refine lv_topi (fun z151 ez151 => ?_)
        have bz151 := tq_mul (k := (2)) (q := v15_6.toInt) ez151 (by decide +kernel) rfl (by omega) (by omega)
        refine lv_iconst (v := 1) hx hb dX3_becomeJoined_152 (by decide +kernel) ?_
        refine lv_iadd hx hb dX3_becomeJoined_153 ?_
        refine lv_topi (fun z153 ez153 => ?_)
        have bz153 := tq_add (k := z151.toInt) (q := (1)) ez153 rfl (by decide +kernel) (by omega) (by omega)
        refine lv_aload_n hx hb dX3_becomeJoined_154 rfl (lv_at hl 1 rfl) ?_
        refine p_get (v := .ref y128) hx hb hts inX3 hown hK hP hLp1 hKp1 rfl rfl 2 (by decide) (hts _ pq124) (congrArg (fun q => some (va_rf q)) ey128) dX3_becomeJoined_155 ?_
        refine lv_iconst (v := 2) hx hb dX3_becomeJoined_158 (by decide +kernel) ?_
        refine lv_iload hx hb dX3_becomeJoined_159 (lv_at hl 6 rfl) ?_
        refine lv_imul hx hb dX3_becomeJoined_161 ?_
        refine lv_topi (fun z161 ez161 => ?_)
        have bz161 := tq_mul (k := (2)) (q := v15_6.toInt) ez161 (by decide +kernel) rfl (by omega) (by omega)
        refine lv_iconst (v := 1) hx hb dX3_becomeJoined_162 (by decide +kernel) ?_
        refine lv_iadd hx hb dX3_becomeJoined_163 ?_
        refine lv_topi (fun z163 ez163 => ?_)
        have bz163 := tq_add (k := z161.toInt) (q := (1)) ez163 rfl (by decide +kernel) (by omega) (by omega)
        refine p_lald hx hb hK hP 2 hLy128 hKy128 rfl rfl (in_of (by omega) (by omega)) dX3_becomeJoined_164 ?_
        refine lv_topl (fun z164 ez164 => ?_)
        have s3 : Jz143 (wo Q p1) = J (wo Q p1) := dj_Jz143 _ (fun z => hne (by have w := z.2; have g := (wo_g hQ hLp1 hKp1).2.2; omega))
        have f164 : z164 = (J (wo Q p1)) (2 * v15_6.toInt.toNat + 1) := by rw [ez164, ← s3, wo_of ey128]; congr 1; show z163.toInt.toNat = _; omega
        refine lv_lload hx hb dX3_becomeJoined_165 (lv_at hl 8 rfl) ?_
        refine lv_iload hx hb dX3_becomeJoined_167 (lv_at hl 5 rfl) ?_
        refine ro_l (va_runS (As := [.long z164, .long v119_9, .int p5]) (rest := [.int z153, .ref y120]) ⟨hx, hb, hml, hown, hts⟩ (s_X3_joined l dC dI cs L K G Q hQ x0 m0 tx tm H.size Iz9 Jz143 hIz9 z164 v119_9 p5) (va_cwS 3 hts (gS pq708 pq709 pq76 pq710) rfl rfl rfl (by decide +kernel) ⟨(by rw [hR]; exact (Nat.le_of_ble_eq_true rfl)), (by rw [hR]; exact (Nat.le_of_ble_eq_true rfl))⟩) (sP_S hP hD hK hN) rfl rfl hl.1 rfl (lv_room (Nat.le_of_ble_eq_true rfl)) dX3_becomeJoined_169 ⟨(by rw [hR]; exact (Nat.le_of_ble_eq_true rfl)), (by rw [hR]; exact (Nat.le_of_ble_eq_true rfl))⟩) hS hP (fun z169 H locs hz169 hP hS => ?_)
        have xpz169 := hz169
        refine p_last hx hb hK hP hD hS 2 hLy120 hKy120 rfl (fun _ => rfl) rfl (in_of (by omega) (by omega)) dX3_becomeJoined_172 (fun H locs hP hS => ?_)
        obtain ⟨Jz172, hP, qJz172⟩ : ∃ Jz172, va_P (dC, dI) vwCl (Wd cs L K Iz9 Jz172 Q) H ∧ Jz172 = va_up Jz143 y120 (vp_updL (Jz143 y120) z153.toNatClampNeg z169) := ⟨_, hP, rfl⟩
        have dj_Jz172 : (∀ b, ¬ (K b = 12 ∧ (G b = G p0)) → Jz172 b = J b) := fun b hc => (congrFun qJz172 b).trans ((va_up_ne _ _ (fun z => hc (by rw [z]; exact ⟨hKy120, by omega⟩))).trans (dj_Jz143 b hc))
        obtain ⟨z173, ez173⟩ : ∃ y : Int32, y = v15_6 + 1 := ⟨_, rfl⟩
        refine lv_iinc (v := z173) (lv' := [(6, .int z173), (0, .ref p0), (1, .ref p1), (2, .ref p2), (3, .int p3), (4, .int p4), (5, .int p5), (7, .long v119_7), (9, .long v119_9), (11, .int z34)]) hx hb dX3_becomeJoined_173 hl (k := 6) rfl (by rw [ez173]; rfl) (by decide) rfl (fun ls hl => ?_)
        have bz173 := tq_add (k := v15_6.toInt) (q := 1) ez173 rfl (by decide +kernel) (by omega) (by omega)
        refine lv_goto (tgt := 15) hx hb dX3_becomeJoined_176 (by decide) ?_
        exact ih15 _ (by omega) z173 Jz172 _ _ _ rfl ⟨by omega, by omega⟩ dj_Jz172 (fun ok ok2 => rws_step (r := v15_6.toInt.toNat) (hrw ok ok2) (f1 := Jz143 (wo Q p0)) (a := z140) (b := z169) (fun j => by rw [qJz143, wo_of ey120, va_up_self]; unfold vp_updL; rw [show z126.toNatClampNeg = 2 * v15_6.toInt.toNat from (by show z126.toInt.toNat = _; omega)]) (fun j => by rw [qJz172, wo_of ey120, va_up_self]; unfold vp_updL; rw [show z153.toNatClampNeg = 2 * v15_6.toInt.toNat + 1 from (by show z153.toInt.toNat = _; omega)]) (by omega) (by omega) (by omega) (jn_row ok.2.2 (by omega) (by have o := ok.1; omega) (by rw [← w18]; omega) f135 f164 (fun i hi => by have q := (h119 ok ok2 i hi).1; rw [show ((v15_6.toInt.toNat : Nat) : Int) = v15_6.toInt by omega]; exact q) (fun i hi => by have q := (h119 ok ok2 i hi).2; rw [show ((v15_6.toInt.toNat : Nat) : Int) = v15_6.toInt by omega]; exact q) xpz140 xpz169)) hP hS (lv_sub hl [1, 2, 3, 4, 5, 6, 0] rfl)
      refine lv_if_lt (tgt := 119) hx hb dX3_becomeJoined_39 (by decide) (fun c39 => ?_) (fun c39 => ?_)
      · have t39 := tq_lt (k := z34.toInt) (q := (0)) c39 rfl (by decide +kernel)
        exact j119 0 0 _ _ _ (fun ok ok2 i hi => by have m : ∀ x, md (J (wo Q p2)) x (v15_6.toInt - p4.toInt) = false := (fun x => by cases q : md (J (wo Q p2)) x (v15_6.toInt - p4.toInt) with | false => rfl | true => (have a := md_rng q; have b := ok2.2.2 _ _ q; first | (rw [← w45] at b; omega) | omega)); rw [m, m, b64_0]; exact ⟨rfl, rfl⟩) hP hS (lv_sub hl [3, 4, 5, 6, 7, 8, 9, 2, 1, 0] rfl)
      · have t39 := tq_nlt (k := z34.toInt) (q := (0)) c39 rfl (by decide +kernel)
        refine lv_iload hx hb dX3_becomeJoined_42 (lv_at hl 0 rfl) ?_
        refine lv_aload_n hx hb dX3_becomeJoined_44 rfl (lv_at hl 5 rfl) ?_
        refine p_get hx hb hts inX3 hown hK hP hLp2 hKp2 rfl rfl 1 (by decide) (hts _ pq120) rfl dX3_becomeJoined_45 ?_
        refine lv_topi (fun z45 ez45 => ?_)
        have bz45 := oI_3_1 (Iv_at hIz9 hLp2 hKp2)
        rw [← ez45] at bz45
        have w45 : z45.toInt = (I p2 1).toInt := by rw [ez45, frc9 p2 (fun z => hne2 (by rw [z]))]
        refine lv_icmp_ge (tgt := 119) hx hb dX3_becomeJoined_48 (by decide) (fun c48 => ?_) (fun c48 => ?_)
        · have t48 := tq_le (k := z45.toInt) (q := z34.toInt) c48 rfl rfl
          exact j119 0 0 _ _ _ (fun ok ok2 i hi => by have m : ∀ x, md (J (wo Q p2)) x (v15_6.toInt - p4.toInt) = false := (fun x => by cases q : md (J (wo Q p2)) x (v15_6.toInt - p4.toInt) with | false => rfl | true => (have a := md_rng q; have b := ok2.2.2 _ _ q; first | (rw [← w45] at b; omega) | omega)); rw [m, m, b64_0]; exact ⟨rfl, rfl⟩) hP hS (lv_sub hl [3, 4, 5, 6, 7, 8, 9, 2, 1, 0] rfl)
        · have t48 := tq_nle (k := z45.toInt) (q := z34.toInt) c48 rfl rfl
          refine lv_aload_n hx hb dX3_becomeJoined_51 rfl (lv_at hl 5 rfl) ?_
          obtain ⟨y52, ey52, hLy52, hKy52, hGy52⟩ := oQ_3_2 (Sv_at hQ hLp2 hKp2)
          refine p_get (v := .ref y52) hx hb hts inX3 hown hK hP hLp2 hKp2 rfl rfl 2 (by decide) (hts _ pq124) (congrArg (fun q => some (va_rf q)) ey52) dX3_becomeJoined_52 ?_
          refine lv_iconst (v := 2) hx hb dX3_becomeJoined_55 (by decide +kernel) ?_
          refine lv_iload hx hb dX3_becomeJoined_56 (lv_at hl 0 rfl) ?_
          refine lv_imul hx hb dX3_becomeJoined_58 ?_
          refine lv_topi (fun z58 ez58 => ?_)
          have bz58 := tq_mul (k := (2)) (q := z34.toInt) ez58 (by decide +kernel) rfl (by omega) (by omega)
          refine p_lald hx hb hK hP 2 hLy52 hKy52 rfl rfl (in_of (by omega) (by omega)) dX3_becomeJoined_59 ?_
          refine lv_topl (fun z59 ez59 => ?_)
          refine lv_aload_n hx hb dX3_becomeJoined_60 rfl (lv_at hl 5 rfl) ?_
          refine p_get (v := .ref y52) hx hb hts inX3 hown hK hP hLp2 hKp2 rfl rfl 2 (by decide) (hts _ pq124) (congrArg (fun q => some (va_rf q)) ey52) dX3_becomeJoined_61 ?_
          refine lv_iconst (v := 2) hx hb dX3_becomeJoined_64 (by decide +kernel) ?_
          refine lv_iload hx hb dX3_becomeJoined_65 (lv_at hl 0 rfl) ?_
          refine lv_imul hx hb dX3_becomeJoined_67 ?_
          refine lv_topi (fun z67 ez67 => ?_)
          have bz67 := tq_mul (k := (2)) (q := z34.toInt) ez67 (by decide +kernel) rfl (by omega) (by omega)
          refine lv_iconst (v := 1) hx hb dX3_becomeJoined_68 (by decide +kernel) ?_
          refine lv_iadd hx hb dX3_becomeJoined_69 ?_
          refine lv_topi (fun z69 ez69 => ?_)
          have bz69 := tq_add (k := z67.toInt) (q := (1)) ez69 rfl (by decide +kernel) (by omega) (by omega)
          refine p_lald hx hb hK hP 2 hLy52 hKy52 rfl rfl (in_of (by omega) (by omega)) dX3_becomeJoined_70 ?_
          refine lv_topl (fun z70 ez70 => ?_)
          have f59 : z59 = (J (wo Q p2)) (2 * (v15_6.toInt - p4.toInt).toNat) := by rw [ez59, ← s2, wo_of ey52]; congr 1; show z58.toInt.toNat = _; omega
          have f70 : z70 = (J (wo Q p2)) (2 * (v15_6.toInt - p4.toInt).toNat + 1) := by rw [ez70, ← s2, wo_of ey52]; congr 1; show z69.toInt.toNat = _; omega
          refine lv_iload_n hx hb dX3_becomeJoined_71 rfl (lv_at hl 6 rfl) ?_
          refine ro_l (va_runS (As := [.long z59, .long z70, .int p3]) (rest := []) ⟨hx, hb, hml, hown, hts⟩ (s_X3_shiftedLow l dC dI cs L K G Q hQ x0 m0 tx tm H.size Iz9 J15 hIz9 z59 z70 p3) (va_cwS 3 hts (gS pq622 pq623 pq76 pq624) rfl rfl rfl (by decide +kernel) ⟨(by rw [hR]; exact (Nat.le_of_ble_eq_true rfl)), (by rw [hR]; exact (Nat.le_of_ble_eq_true rfl))⟩) (sP_S hP hD hK hN) rfl rfl hl.1 rfl (lv_room (Nat.le_of_ble_eq_true rfl)) dX3_becomeJoined_72 ⟨(by rw [hR]; exact (Nat.le_of_ble_eq_true rfl)), (by rw [hR]; exact (Nat.le_of_ble_eq_true rfl))⟩) hS hP (fun z72 H locs hz72 hP hS => ?_)
          have xpz72 := hz72
          refine lv_aload_n hx hb dX3_becomeJoined_75 rfl (lv_at hl 3 rfl) ?_
          refine p_get hx hb hts inX3 hown hK hP hLp0 hKp0 rfl rfl 0 (by decide) (hts _ pq116) rfl dX3_becomeJoined_76 ?_
          refine lv_topi (fun z76 ez76 => ?_)
          have bz76 := oI_3_0 (Iv_at hIz9 hLp0 hKp0)
          rw [← ez76] at bz76
          have w76 : z76.toInt = (I p1 0).toInt := by rw [ez76, zp9.2.1, ez2]
          refine ro_l (va_runS (As := [.int z76]) (rest := [.long z72]) ⟨hx, hb, hml, hown, hts⟩ (s_X3_lowOnes l dC dI cs L K G Q hQ x0 m0 tx tm H.size Iz9 J15 hIz9 z76) (va_cwS 1 hts (gS pq685 pq503 pq76 pq504) rfl rfl rfl (by decide +kernel) ⟨(by rw [hR]; exact (Nat.le_of_ble_eq_true rfl)), (by rw [hR]; exact (Nat.le_of_ble_eq_true rfl))⟩) (sP_S hP hD hK hN) rfl rfl hl.1 rfl (lv_room (Nat.le_of_ble_eq_true rfl)) dX3_becomeJoined_79 ⟨(by rw [hR]; exact (Nat.le_of_ble_eq_true rfl)), (by rw [hR]; exact (Nat.le_of_ble_eq_true rfl))⟩) hS hP (fun z79 H locs hz79 hP hS => ?_)
          have xpz79 := hz79
          refine lv_land hx hb dX3_becomeJoined_82 ?_
          refine lv_topl (fun z82 ez82 => ?_)
          refine lv_lstore (lv' := [(7, .long z82), (11, .int z34), (9, .long 0), (0, .ref p0), (1, .ref p1), (2, .ref p2), (3, .int p3), (4, .int p4), (5, .int p5), (6, .int v15_6)]) hx hb dX3_becomeJoined_83 hl (by decide) rfl (fun ls hl => ?_)
          refine lv_aload_n hx hb dX3_becomeJoined_85 rfl (lv_at hl 5 rfl) ?_
          refine p_get (v := .ref y52) hx hb hts inX3 hown hK hP hLp2 hKp2 rfl rfl 2 (by decide) (hts _ pq124) (congrArg (fun q => some (va_rf q)) ey52) dX3_becomeJoined_86 ?_
          refine lv_iconst (v := 2) hx hb dX3_becomeJoined_89 (by decide +kernel) ?_
          refine lv_iload hx hb dX3_becomeJoined_90 (lv_at hl 1 rfl) ?_
          refine lv_imul hx hb dX3_becomeJoined_92 ?_
          refine lv_topi (fun z92 ez92 => ?_)
          have bz92 := tq_mul (k := (2)) (q := z34.toInt) ez92 (by decide +kernel) rfl (by omega) (by omega)
          refine p_lald hx hb hK hP 2 hLy52 hKy52 rfl rfl (in_of (by omega) (by omega)) dX3_becomeJoined_93 ?_
          refine lv_topl (fun z93 ez93 => ?_)
          refine lv_aload_n hx hb dX3_becomeJoined_94 rfl (lv_at hl 5 rfl) ?_
          refine p_get (v := .ref y52) hx hb hts inX3 hown hK hP hLp2 hKp2 rfl rfl 2 (by decide) (hts _ pq124) (congrArg (fun q => some (va_rf q)) ey52) dX3_becomeJoined_95 ?_
          refine lv_iconst (v := 2) hx hb dX3_becomeJoined_98 (by decide +kernel) ?_
          refine lv_iload hx hb dX3_becomeJoined_99 (lv_at hl 1 rfl) ?_
          refine lv_imul hx hb dX3_becomeJoined_101 ?_
          refine lv_topi (fun z101 ez101 => ?_)
          have bz101 := tq_mul (k := (2)) (q := z34.toInt) ez101 (by decide +kernel) rfl (by omega) (by omega)
          refine lv_iconst (v := 1) hx hb dX3_becomeJoined_102 (by decide +kernel) ?_
          refine lv_iadd hx hb dX3_becomeJoined_103 ?_
          refine lv_topi (fun z103 ez103 => ?_)
          have bz103 := tq_add (k := z101.toInt) (q := (1)) ez103 rfl (by decide +kernel) (by omega) (by omega)
          refine p_lald hx hb hK hP 2 hLy52 hKy52 rfl rfl (in_of (by omega) (by omega)) dX3_becomeJoined_104 ?_
          refine lv_topl (fun z104 ez104 => ?_)
          have f93 : z93 = (J (wo Q p2)) (2 * (v15_6.toInt - p4.toInt).toNat) := by rw [ez93, ← s2, wo_of ey52]; congr 1; show z92.toInt.toNat = _; omega
          have f104 : z104 = (J (wo Q p2)) (2 * (v15_6.toInt - p4.toInt).toNat + 1) := by rw [ez104, ← s2, wo_of ey52]; congr 1; show z103.toInt.toNat = _; omega
          refine lv_iload_n hx hb dX3_becomeJoined_105 rfl (lv_at hl 6 rfl) ?_
          refine ro_l (va_runS (As := [.long z93, .long z104, .int p3]) (rest := []) ⟨hx, hb, hml, hown, hts⟩ (s_X3_shiftedHigh l dC dI cs L K G Q hQ x0 m0 tx tm H.size Iz9 J15 hIz9 z93 z104 p3) (va_cwS 3 hts (gS pq625 pq626 pq76 pq627) rfl rfl rfl (by decide +kernel) ⟨(by rw [hR]; exact (Nat.le_of_ble_eq_true rfl)), (by rw [hR]; exact (Nat.le_of_ble_eq_true rfl))⟩) (sP_S hP hD hK hN) rfl rfl hl.1 rfl (lv_room (Nat.le_of_ble_eq_true rfl)) dX3_becomeJoined_106 ⟨(by rw [hR]; exact (Nat.le_of_ble_eq_true rfl)), (by rw [hR]; exact (Nat.le_of_ble_eq_true rfl))⟩) hS hP (fun z106 H locs hz106 hP hS => ?_)
          have xpz106 := hz106
          refine lv_aload_n hx hb dX3_becomeJoined_109 rfl (lv_at hl 3 rfl) ?_
          refine p_get hx hb hts inX3 hown hK hP hLp0 hKp0 rfl rfl 0 (by decide) (hts _ pq116) rfl dX3_becomeJoined_110 ?_
          refine lv_topi (fun z110 ez110 => ?_)
          obtain rfl : z76 = z110 := ez76.trans ez110.symm
          refine ro_l (va_runS (As := [.int z76]) (rest := [.long z106]) ⟨hx, hb, hml, hown, hts⟩ (s_X3_highOnes l dC dI cs L K G Q hQ x0 m0 tx tm H.size Iz9 J15 hIz9 z76) (va_cwS 1 hts (gS pq686 pq507 pq76 pq508) rfl rfl rfl (by decide +kernel) ⟨(by rw [hR]; exact (Nat.le_of_ble_eq_true rfl)), (by rw [hR]; exact (Nat.le_of_ble_eq_true rfl))⟩) (sP_S hP hD hK hN) rfl rfl hl.1 rfl (lv_room (Nat.le_of_ble_eq_true rfl)) dX3_becomeJoined_113 ⟨(by rw [hR]; exact (Nat.le_of_ble_eq_true rfl)), (by rw [hR]; exact (Nat.le_of_ble_eq_true rfl))⟩) hS hP (fun z113 H locs hz113 hP hS => ?_)
          have xpz113 := hz113
          refine lv_land hx hb dX3_becomeJoined_116 ?_
          refine lv_topl (fun z116 ez116 => ?_)
          refine lv_lstore (lv' := [(9, .long z116), (7, .long z82), (11, .int z34), (0, .ref p0), (1, .ref p1), (2, .ref p2), (3, .int p3), (4, .int p4), (5, .int p5), (6, .int v15_6)]) hx hb dX3_becomeJoined_117 hl (by decide) rfl (fun ls hl => ?_)
          exact j119 z82 z116 _ _ _ (fun ok ok2 i hi => by have m : ∀ x, md (J (wo Q p2)) x (v15_6.toInt - p4.toInt) = dt z59 z70 x := (fun x => by have q := md_row (f := (J (wo Q p2))) (r := (v15_6.toInt - p4.toInt).toNat) (by omega) f59 f70 x; rw [show (((v15_6.toInt - p4.toInt).toNat : Nat) : Int) = (v15_6.toInt - p4.toInt) by omega] at q; exact q); have l := xpz79 (by rw [w76]; have o := ok.1; omega) i hi; have l2 := xpz113 (by rw [w76]; have o := ok.1; omega) i hi; rw [w76] at l l2; rw [m, m, b64_and ez82, b64_and ez116, l, l2, xpz72 i hi, xpz106 i hi, f93.trans f59.symm, f104.trans f70.symm]; exact ⟨rfl, rfl⟩) hP hS (lv_sub hl [3, 4, 5, 6, 7, 8, 9, 1, 0, 2] rfl))
  exact key15 _ 0 Jz9 _ _ _ rfl ⟨by decide +kernel, by decide +kernel⟩ dj_Jz9 (fun ok ok2 => rws_0 jz9 (fun x y a b => absurd b (by rw [show (0 : Int32).toInt = 0 from by decide +kernel]; omega))) hP hS (lv_sub hl [1, 2, 3, 4, 5, 6, 0] rfl)

set_option maxHeartbeats 4000000 in
set_option maxRecDepth 100000 in
theorem s_X3_becomeCropped (l : Launch) (dC : Nat → ClassId) (dI : Nat → Nat → Nat) (cs : Nat → ClassId) (L : List Nat) (K G : Nat → Nat) (Q : Nat → Nat → Option Nat) (hQ : Sv L K G Q) (x0 m0 : Nat) (tx : GT) (tm : GT × Int) (sz : Nat) (I : Nat → Nat → Int32) (J : Nat → Nat → Int64) (hI : Iv L K x0 m0 tx tm I) (p0 : Nat) (hLp0 : p0 ∈ L) (hKp0 : K p0 = 3) (p1 : Nat) (hLp1 : p1 ∈ L) (hKp1 : K p1 = 3) (hne : ¬ G p0 = G p1) : Met l yX3_becomeCropped (.code yX3_becomeCropped cX3_becomeCropped 4 none :: pw) ({ frames := 3, cells := 0, slots := 0, locals := 81 }) (sP (dC, dI) cs [.ref p0, .ref p1] sz L K I J Q) (va_Qv (fun (_ : Unit) => True) (fun _ t => sB (dC, dI) cs L K Q (fun I1 J1 => Iv L K x0 m0 tx tm I1 ∧ (∀ b, ¬ (b = p0) → I1 b = I b) ∧ (okm (I p1 0).toInt (I p1 1).toInt (J (wo Q p1)) → msr (J (wo Q p1)) (I p1 3).toInt (I p1 4).toInt (I p1 5).toInt (I p1 6).toInt (I p1 7).toInt → ((I p1 3).toInt = 0 → mkd Q I1 J1 p0 (I p1 0) (I p1 1) (md (J (wo Q p1)))) ∧ (¬ (I p1 3).toInt = 0 → (I1 p0 0).toInt = (I p1 6).toInt - (I p1 4).toInt + 1 ∧ (I1 p0 1).toInt = (I p1 7).toInt - (I p1 5).toInt + 1 ∧ mkd Q I1 J1 p0 (I1 p0 0) (I1 p0 1) (cropD (I p1 4).toInt (I p1 5).toInt (I p1 6).toInt (I p1 7).toInt (J (wo Q p1))))) ∧ (∀ b, ¬ (K b = 12 ∧ (G b = G p0)) → J1 b = J b)) t) (fun q => q ∈ L ∨ sz ≤ q)) 0 0 (fun q => q ∈ L ∨ sz ≤ q) := by
  refine Met.ofW (cc := cX3_becomeCropped) (maxL := 4) (ret := none) (by decide +kernel) rfl ?_
  intro p e s m args below meth c s₁ B hml hv
  obtain ⟨rfl, hsz, hP, hK, hD0, hN⟩ := hv
  have hx := B.exec
  have hb := B.bytes
  have hr := B.returns
  have hts := fun w (h : w ∈ pw) => atoms_spec (ws := Cond.code yX3_becomeCropped cX3_becomeCropped 4 none :: pw) B.pre w (List.mem_cons_of_mem _ h)
  have hown : s.vm.findClass RX3 = some m.cls := findClass_of_methodNamed B.named
  have hlocks := B.notSynchronized
  subst hsz
  have hBB : 999 ≤ tm.2 ∧ tm.2 ≤ 6000000 := hI.2.2.2.2.1
  have dj_J : (∀ b, ¬ (K b = 12 ∧ (G b = G p0)) → J b = J b) := fun _ _ => rfl
  have fr_I : ∀ b, ¬ (b = p0) → I b = I b := fun _ _ => rfl
  obtain ⟨A, hAe⟩ : ∃ A : Nat → Prop, A = (fun q => q ∈ L ∨ s.heap.size ≤ q) := ⟨_, rfl⟩
  rw [← hAe]
  have hAL : ∀ q, q ∈ L → A q := fun q h => by rw [hAe]; exact Or.inl h
  have hA : ∀ q, s.heap.size ≤ q → A q := fun q h => by rw [hAe]; exact Or.inr h
  have hD : ∀ F, va_D A (va_pl L F) := fun F => (hD0 F).weaken (fun k q hk _ => hAL _ (pl_mem hk))
  obtain ⟨H, hHe⟩ : ∃ H : Heap, H = s.heap := ⟨_, rfl⟩
  have hS : va_S A s.heap H [] := by rw [hHe]; exact va_S.rf
  rw [← hHe] at hP
  have hl := lv_entry ([.ref p0, .ref p1]) (n := 4) (Nat.le_of_ble_eq_true rfl)
  rw [lg_entry_eq]
  generalize (lg_sl ([.ref p0, .ref p1]) ++ List.replicate (4 - (lg_sl ([.ref p0, .ref p1])).length) Slot.unset).toArray = ls at hl ⊢
  have hl : lv_has ls 4 [(0, .ref p0), (1, .ref p1)] := hl
  rw [← hHe]
  refine namedW (fun R Qz hR hQz => ?_)
  refine lv_aload_n hx hb dX3_becomeCropped_0 rfl (lv_at hl 1 rfl) ?_
  refine p_get hx hb hts inX3 hown hK hP hLp1 hKp1 rfl rfl 3 (by decide) (hts _ pq129) rfl dX3_becomeCropped_1 ?_
  refine lv_topi (fun z1 ez1 => ?_)
  refine lv_if_ne (tgt := 13) hx hb dX3_becomeCropped_4 (by decide) (fun c4 => ?_) (fun c4 => ?_)
  · have t4 := tq_ne (k := z1.toInt) (q := (0)) c4 rfl (by decide +kernel)
    refine lv_aload_n hx hb dX3_becomeCropped_13 rfl (lv_at hl 0 rfl) ?_
    refine lv_aload_n hx hb dX3_becomeCropped_14 rfl (lv_at hl 1 rfl) ?_
    refine p_get hx hb hts inX3 hown hK hP hLp1 hKp1 rfl rfl 6 (by decide) (hts _ pq140) rfl dX3_becomeCropped_15 ?_
    refine lv_topi (fun z15 ez15 => ?_)
    have bz15 := oI_3_6 (Iv_at hI hLp1 hKp1)
    rw [← ez15] at bz15
    refine lv_aload_n hx hb dX3_becomeCropped_18 rfl (lv_at hl 1 rfl) ?_
    refine p_get hx hb hts inX3 hown hK hP hLp1 hKp1 rfl rfl 4 (by decide) (hts _ pq134) rfl dX3_becomeCropped_19 ?_
    refine lv_topi (fun z19 ez19 => ?_)
    have bz19 := oI_3_4 (Iv_at hI hLp1 hKp1)
    rw [← ez19] at bz19
    refine lv_isub hx hb dX3_becomeCropped_22 ?_
    refine lv_topi (fun z22 ez22 => ?_)
    have bz22 := tq_sub (k := z15.toInt) (q := z19.toInt) ez22 rfl rfl (by omega) (by omega)
    refine lv_iconst (v := 1) hx hb dX3_becomeCropped_23 (by decide +kernel) ?_
    refine lv_iadd hx hb dX3_becomeCropped_24 ?_
    refine lv_topi (fun z24 ez24 => ?_)
    have bz24 := tq_add (k := z22.toInt) (q := (1)) ez24 rfl (by decide +kernel) (by omega) (by omega)
    refine lv_aload_n hx hb dX3_becomeCropped_25 rfl (lv_at hl 1 rfl) ?_
    refine p_get hx hb hts inX3 hown hK hP hLp1 hKp1 rfl rfl 7 (by decide) (hts _ pq143) rfl dX3_becomeCropped_26 ?_
    refine lv_topi (fun z26 ez26 => ?_)
    have bz26 := oI_3_7 (Iv_at hI hLp1 hKp1)
    rw [← ez26] at bz26
    refine lv_aload_n hx hb dX3_becomeCropped_29 rfl (lv_at hl 1 rfl) ?_
    refine p_get hx hb hts inX3 hown hK hP hLp1 hKp1 rfl rfl 5 (by decide) (hts _ pq137) rfl dX3_becomeCropped_30 ?_
    refine lv_topi (fun z30 ez30 => ?_)
    have bz30 := oI_3_5 (Iv_at hI hLp1 hKp1)
    rw [← ez30] at bz30
    refine lv_isub hx hb dX3_becomeCropped_33 ?_
    refine lv_topi (fun z33 ez33 => ?_)
    have bz33 := tq_sub (k := z26.toInt) (q := z30.toInt) ez33 rfl rfl (by omega) (by omega)
    refine lv_iconst (v := 1) hx hb dX3_becomeCropped_34 (by decide +kernel) ?_
    refine lv_iadd hx hb dX3_becomeCropped_35 ?_
    refine lv_topi (fun z35 ez35 => ?_)
    have bz35 := tq_add (k := z33.toInt) (q := (1)) ez35 rfl (by decide +kernel) (by omega) (by omega)
    have rt := oI_3_t (Iv_at hI hLp1 hKp1)
    rw [← ez1, ← ez30, ← ez19] at rt
    have w15 := congrArg Int32.toInt ez15
    have w19 := congrArg Int32.toInt ez19
    have w26 := congrArg Int32.toInt ez26
    have w30 := congrArg Int32.toInt ez30
    refine sw_v (Z := (fun I1 J1 => Iv L K x0 m0 tx tm I1 ∧ (∀ b, ¬ (b = p0) → I1 b = I b) ∧ ((I1 p0 1 = z35 ∧ I1 p0 0 = z24 ∧ ∀ b k, ¬ k = 0 → ¬ k = 1 → ¬ k = 3 → I1 b k = I b k)) ∧ (∀ k, k < 80 → J1 (wo Q p0) k = 0) ∧ (∀ b, ¬ (K b = 12 ∧ (G b = G p0)) → J1 b = J b))) (va_runV (As := [.int z24, .int z35]) (rest := []) ⟨hx, hb, hml, hown, hts⟩ (s_X3_resize l dC dI cs L K G Q hQ x0 m0 tx tm H.size I J hI p0 hLp0 hKp0 z24 ⟨by omega, by omega⟩ z35 ⟨by omega, by omega⟩) (cwV 2 hts (gV pq613 pq493 pq494 pq76 pq495) rfl rfl rfl (by decide +kernel) ⟨(by rw [hR]; exact (Nat.le_of_ble_eq_true rfl)), (by rw [hR]; exact (Nat.le_of_ble_eq_true rfl))⟩) (sP_V hP hD hK hN hLp0 hKp0 rfl rfl) rfl rfl hl.1 rfl (lv_room (Nat.le_of_ble_eq_true rfl)) dX3_becomeCropped_36 ⟨(by rw [hR]; exact (Nat.le_of_ble_eq_true rfl)), (by rw [hR]; exact (Nat.le_of_ble_eq_true rfl))⟩) hS hAL hA (fun Iz36 Jz36 H locs hz36 hIz36 hP hS => ?_)
    obtain ⟨hIz36, frc36, zp36, jz36, djc36⟩ := hIz36
    have dj_Jz36 : (∀ b, ¬ (K b = 12 ∧ (G b = G p0)) → Jz36 b = J b) := fun b hc => (djc36 b (fun z => hc (by exact ⟨z.1, by have z2 := z.2; omega⟩))).trans (dj_J b hc)
    have fr_Iz36 : ∀ b, ¬ (b = p0) → Iz36 b = I b := fun b q => (frc36 b (fun z => q (z))).trans (fr_I b q)
    refine lv_iconst (v := 0) hx hb dX3_becomeCropped_39 (by decide +kernel) ?_
    refine lv_istore_n (lv' := [(2, .int 0), (0, .ref p0), (1, .ref p1)]) hx hb dX3_becomeCropped_40 rfl hl (by decide) rfl (fun ls hl => ?_)
    have key41 := blocks (fun n => ∀ (v41_2 : Int32) (J41 : Nat → Nat → Int64) (H : Heap) (lo : List Loc) (ls : Array Slot), (41 - v41_2.toInt).toNat = n → ((0) ≤ v41_2.toInt ∧ v41_2.toInt ≤ 40) → (∀ b, ¬ (K b = 12 ∧ (G b = G p0)) → J41 b = J b) → (okm (I p1 0).toInt (I p1 1).toInt (J (wo Q p1)) → msr (J (wo Q p1)) (I p1 3).toInt (I p1 4).toInt (I p1 5).toInt (I p1 6).toInt (I p1 7).toInt → rws (J41 (wo Q p0)) (cropD (I p1 4).toInt (I p1 5).toInt (I p1 6).toInt (I p1 7).toInt (J (wo Q p1))) v41_2.toInt) → va_P (dC, dI) vwCl (Wd cs L K Iz36 J41 Q) H → va_S A s.heap H lo → lv_has ls 4 [(0, .ref p0), (1, .ref p1), (2, .int v41_2)] → W p l e R s m (([.ref p0, .ref p1] : List Value).toArray) below meth c H lo 0 0 Qz (F0 m 41 ls [])) (by
      intro n ih41
      intro v41_2 J41 H lo ls hmu41 bv41_2 dj_J41 hrw hP hS hl
      refine lv_iload_n hx hb dX3_becomeCropped_41 rfl (lv_at hl 2 rfl) ?_
      refine lv_aload_n hx hb dX3_becomeCropped_42 rfl (lv_at hl 0 rfl) ?_
      refine p_get hx hb hts inX3 hown hK hP hLp0 hKp0 rfl rfl 1 (by decide) (hts _ pq120) rfl dX3_becomeCropped_43 ?_
      refine lv_topi (fun z43 ez43 => ?_)
      have bz43 := oI_3_1 (Iv_at hIz36 hLp0 hKp0)
      rw [← ez43] at bz43
      have qh := congrArg Int32.toInt (ez43.trans zp36.1)
      have s1 : J41 (wo Q p1) = J (wo Q p1) := dj_J41 _ (fun z => hne (by have w := z.2; have g := (wo_g hQ hLp1 hKp1).2.2; omega))
      refine lv_icmp_ge (tgt := 126) hx hb dX3_becomeCropped_46 (by decide) (fun c46 => ?_) (fun c46 => ?_)
      · have t46 := tq_le (k := z43.toInt) (q := v41_2.toInt) c46 rfl rfl
        refine lv_aload_n hx hb dX3_becomeCropped_126 rfl (lv_at hl 0 rfl) ?_
        refine sw_v (Z := (fun I1 J1 => Iv L K x0 m0 tx tm I1 ∧ (∀ b, ¬ (b = p0) → I1 b = Iz36 b) ∧ I1 p0 0 = Iz36 p0 0 ∧ I1 p0 1 = Iz36 p0 1 ∧ (mcl (Iz36 p0 0).toInt (Iz36 p0 1).toInt (J41 (wo Q p0)) → msr (J41 (wo Q p0)) (I1 p0 3).toInt (I1 p0 4).toInt (I1 p0 5).toInt (I1 p0 6).toInt (I1 p0 7).toInt) ∧ J1 = J41)) (va_runV (As := []) (rest := []) ⟨hx, hb, hml, hown, hts⟩ (s_X3_measure l dC dI cs L K G Q hQ x0 m0 tx tm H.size Iz36 J41 hIz36 p0 hLp0 hKp0) (cwV 0 hts (gV pq631 pq542 pq543 pq76 pq544) rfl rfl rfl (by decide +kernel) ⟨(by rw [hR]; exact (Nat.le_of_ble_eq_true rfl)), (by rw [hR]; exact (Nat.le_of_ble_eq_true rfl))⟩) (sP_V hP hD hK hN hLp0 hKp0 rfl rfl) rfl rfl hl.1 rfl (lv_room (Nat.le_of_ble_eq_true rfl)) dX3_becomeCropped_127 ⟨(by rw [hR]; exact (Nat.le_of_ble_eq_true rfl)), (by rw [hR]; exact (Nat.le_of_ble_eq_true rfl))⟩) hS hAL hA (fun Iz127 Jz127 H locs hz127 hIz127 hP hS => ?_)
        obtain ⟨hIz127, frc127, kc127_0_0, kc127_0_1, fz127, djc127⟩ := hIz127
        obtain rfl : J41 = Jz127 := djc127.symm
        have fr_Iz127 : ∀ b, ¬ (b = p0) → Iz127 b = I b := fun b q => (frc127 b (fun z => q (z))).trans (fr_Iz36 b q)
        subst hR; subst hQz
        exact W.vret hx hb hr (fun t ht hW => ⟨⟨(), rfl, trivial, ⟨Iz127, J41, ⟨hIz127, fr_Iz127, (fun ok ms => ⟨fun q => absurd (by rw [ez1]; exact q) t4, fun q => ⟨by rw [kc127_0_0, zp36.2.1]; omega, by rw [kc127_0_1, zp36.1]; omega, mk_fin (Ia := Iz36) kc127_0_0 kc127_0_1 kc127_0_0.symm kc127_0_1.symm (hrw ok ms) (cropD_hi (by omega)) (cropD_in (by rw [kc127_0_0, zp36.2.1]; omega) (by rw [kc127_0_1, zp36.1]; omega)) fz127⟩⟩), dj_J41⟩, by rw [ht]; exact hP⟩⟩, hS.F ht⟩) hS.2.2 dX3_becomeCropped_130
      · have t46 := tq_nle (k := z43.toInt) (q := v41_2.toInt) c46 rfl rfl
        refine lv_iconst (v := 2) hx hb dX3_becomeCropped_49 (by decide +kernel) ?_
        refine lv_iload_n hx hb dX3_becomeCropped_50 rfl (lv_at hl 2 rfl) ?_
        refine lv_aload_n hx hb dX3_becomeCropped_51 rfl (lv_at hl 1 rfl) ?_
        refine p_get hx hb hts inX3 hown hK hP hLp1 hKp1 rfl rfl 5 (by decide) (hts _ pq137) rfl dX3_becomeCropped_52 ?_
        refine lv_topi (fun z52 ez52 => ?_)
        have bz52 := oI_3_5 (Iv_at hIz36 hLp1 hKp1)
        rw [← ez52] at bz52
        have qt := congrArg Int32.toInt (ez52.trans ((zp36.2.2 p1 5 (by decide) (by decide) (by decide)).trans ez30.symm))
        refine lv_iadd hx hb dX3_becomeCropped_55 ?_
        refine lv_topi (fun z55 ez55 => ?_)
        have bz55 := tq_add (k := v41_2.toInt) (q := z52.toInt) ez55 rfl rfl (by omega) (by omega)
        refine lv_imul hx hb dX3_becomeCropped_56 ?_
        refine lv_topi (fun z56 ez56 => ?_)
        have bz56 := tq_mul (k := (2)) (q := z55.toInt) ez56 (by decide +kernel) rfl (by omega) (by omega)
        refine lv_istore_n (lv' := [(3, .int z56), (0, .ref p0), (1, .ref p1), (2, .int v41_2)]) hx hb dX3_becomeCropped_57 rfl hl (by decide) rfl (fun ls hl => ?_)
        refine lv_aload_n hx hb dX3_becomeCropped_58 rfl (lv_at hl 1 rfl) ?_
        obtain ⟨y59, ey59, hLy59, hKy59, hGy59⟩ := oQ_3_2 (Sv_at hQ hLp0 hKp0)
        refine p_get (v := .ref y59) hx hb hts inX3 hown hK hP hLp0 hKp0 rfl rfl 2 (by decide) (hts _ pq124) (congrArg (fun q => some (va_rf q)) ey59) dX3_becomeCropped_59 ?_
        refine lv_iconst (v := 2) hx hb dX3_becomeCropped_62 (by decide +kernel) ?_
        refine lv_iload_n hx hb dX3_becomeCropped_63 rfl (lv_at hl 3 rfl) ?_
        refine lv_imul hx hb dX3_becomeCropped_64 ?_
        refine lv_topi (fun z64 ez64 => ?_)
        have bz64 := tq_mul (k := (2)) (q := v41_2.toInt) ez64 (by decide +kernel) rfl (by omega) (by omega)
        refine lv_aload_n hx hb dX3_becomeCropped_65 rfl (lv_at hl 2 rfl) ?_
        obtain ⟨y66, ey66, hLy66, hKy66, hGy66⟩ := oQ_3_2 (Sv_at hQ hLp1 hKp1)
        refine p_get (v := .ref y66) hx hb hts inX3 hown hK hP hLp1 hKp1 rfl rfl 2 (by decide) (hts _ pq124) (congrArg (fun q => some (va_rf q)) ey66) dX3_becomeCropped_66 ?_
        refine lv_iload_n hx hb dX3_becomeCropped_69 rfl (lv_at hl 0 rfl) ?_
        refine p_lald hx hb hK hP 2 hLy66 hKy66 rfl rfl (in_of (by omega) (by omega)) dX3_becomeCropped_70 ?_
        refine lv_topl (fun z70 ez70 => ?_)
        refine lv_aload_n hx hb dX3_becomeCropped_71 rfl (lv_at hl 2 rfl) ?_
        refine p_get (v := .ref y66) hx hb hts inX3 hown hK hP hLp1 hKp1 rfl rfl 2 (by decide) (hts _ pq124) (congrArg (fun q => some (va_rf q)) ey66) dX3_becomeCropped_72 ?_
        refine lv_iload_n hx hb dX3_becomeCropped_75 rfl (lv_at hl 0 rfl) ?_
        refine lv_iconst (v := 1) hx hb dX3_becomeCropped_76 (by decide +kernel) ?_
        refine lv_iadd hx hb dX3_becomeCropped_77 ?_
        refine lv_topi (fun z77 ez77 => ?_)
        have bz77 := tq_add (k := z56.toInt) (q := (1)) ez77 rfl (by decide +kernel) (by omega) (by omega)
        refine p_lald hx hb hK hP 2 hLy66 hKy66 rfl rfl (in_of (by omega) (by omega)) dX3_becomeCropped_78 ?_
        refine lv_topl (fun z78 ez78 => ?_)
        have f70 : z70 = (J (wo Q p1)) (2 * (v41_2.toInt + (I p1 5).toInt).toNat) := by rw [ez70, ← s1, wo_of ey66]; congr 1; show z56.toInt.toNat = _; omega
        have f78 : z78 = (J (wo Q p1)) (2 * (v41_2.toInt + (I p1 5).toInt).toNat + 1) := by rw [ez78, ← s1, wo_of ey66]; congr 1; show z77.toInt.toNat = _; omega
        refine lv_aload_n hx hb dX3_becomeCropped_79 rfl (lv_at hl 2 rfl) ?_
        refine p_get hx hb hts inX3 hown hK hP hLp1 hKp1 rfl rfl 4 (by decide) (hts _ pq134) rfl dX3_becomeCropped_80 ?_
        refine lv_topi (fun z80 ez80 => ?_)
        have bz80 := oI_3_4 (Iv_at hIz36 hLp1 hKp1)
        rw [← ez80] at bz80
        have w80 : z80.toInt = (I p1 4).toInt := by rw [ez80, zp36.2.2 p1 4 (by decide) (by decide) (by decide)]
        refine lv_ineg hx hb dX3_becomeCropped_83 ?_
        refine lv_topi (fun z83 ez83 => ?_)
        have bz83 := tq_neg (k := z80.toInt) ez83 rfl (by omega) (by omega)
        refine ro_l (va_runS (As := [.long z70, .long z78, .int z83]) (rest := [.int z64, .ref y59]) ⟨hx, hb, hml, hown, hts⟩ (s_X3_shiftedLow l dC dI cs L K G Q hQ x0 m0 tx tm H.size Iz36 J41 hIz36 z70 z78 z83) (va_cwS 3 hts (gS pq622 pq623 pq76 pq624) rfl rfl rfl (by decide +kernel) ⟨(by rw [hR]; exact (Nat.le_of_ble_eq_true rfl)), (by rw [hR]; exact (Nat.le_of_ble_eq_true rfl))⟩) (sP_S hP hD hK hN) rfl rfl hl.1 rfl (lv_room (Nat.le_of_ble_eq_true rfl)) dX3_becomeCropped_84 ⟨(by rw [hR]; exact (Nat.le_of_ble_eq_true rfl)), (by rw [hR]; exact (Nat.le_of_ble_eq_true rfl))⟩) hS hP (fun z84 H locs hz84 hP hS => ?_)
        have xpz84 := hz84
        refine p_last hx hb hK hP hD hS 2 hLy59 hKy59 rfl (fun _ => rfl) rfl (in_of (by omega) (by omega)) dX3_becomeCropped_87 (fun H locs hP hS => ?_)
        obtain ⟨Jz87, hP, qJz87⟩ : ∃ Jz87, va_P (dC, dI) vwCl (Wd cs L K Iz36 Jz87 Q) H ∧ Jz87 = va_up J41 y59 (vp_updL (J41 y59) z64.toNatClampNeg z84) := ⟨_, hP, rfl⟩
        have dj_Jz87 : (∀ b, ¬ (K b = 12 ∧ (G b = G p0)) → Jz87 b = J b) := fun b hc => (congrFun qJz87 b).trans ((va_up_ne _ _ (fun z => hc (by rw [z]; exact ⟨hKy59, by omega⟩))).trans (dj_J41 b hc))
        refine lv_aload_n hx hb dX3_becomeCropped_88 rfl (lv_at hl 1 rfl) ?_
        refine p_get (v := .ref y59) hx hb hts inX3 hown hK hP hLp0 hKp0 rfl rfl 2 (by decide) (hts _ pq124) (congrArg (fun q => some (va_rf q)) ey59) dX3_becomeCropped_89 ?_
        refine lv_iconst (v := 2) hx hb dX3_becomeCropped_92 (by decide +kernel) ?_
        refine lv_iload_n hx hb dX3_becomeCropped_93 rfl (lv_at hl 3 rfl) ?_
        refine lv_imul hx hb dX3_becomeCropped_94 ?_
        refine lv_topi (fun z94 ez94 => ?_)
        have bz94 := tq_mul (k := (2)) (q := v41_2.toInt) ez94 (by decide +kernel) rfl (by omega) (by omega)
        refine lv_iconst (v := 1) hx hb dX3_becomeCropped_95 (by decide +kernel) ?_
        refine lv_iadd hx hb dX3_becomeCropped_96 ?_
        refine lv_topi (fun z96 ez96 => ?_)
        have bz96 := tq_add (k := z94.toInt) (q := (1)) ez96 rfl (by decide +kernel) (by omega) (by omega)
        refine lv_aload_n hx hb dX3_becomeCropped_97 rfl (lv_at hl 2 rfl) ?_
        refine p_get (v := .ref y66) hx hb hts inX3 hown hK hP hLp1 hKp1 rfl rfl 2 (by decide) (hts _ pq124) (congrArg (fun q => some (va_rf q)) ey66) dX3_becomeCropped_98 ?_
        refine lv_iload_n hx hb dX3_becomeCropped_101 rfl (lv_at hl 0 rfl) ?_
        refine p_lald hx hb hK hP 2 hLy66 hKy66 rfl rfl (in_of (by omega) (by omega)) dX3_becomeCropped_102 ?_
        refine lv_topl (fun z102 ez102 => ?_)
        refine lv_aload_n hx hb dX3_becomeCropped_103 rfl (lv_at hl 2 rfl) ?_
        refine p_get (v := .ref y66) hx hb hts inX3 hown hK hP hLp1 hKp1 rfl rfl 2 (by decide) (hts _ pq124) (congrArg (fun q => some (va_rf q)) ey66) dX3_becomeCropped_104 ?_
        refine lv_iload_n hx hb dX3_becomeCropped_107 rfl (lv_at hl 0 rfl) ?_
        refine lv_iconst (v := 1) hx hb dX3_becomeCropped_108 (by decide +kernel) ?_
        refine lv_iadd hx hb dX3_becomeCropped_109 ?_
        refine lv_topi (fun z109 ez109 => ?_)
        have bz109 := tq_add (k := z56.toInt) (q := (1)) ez109 rfl (by decide +kernel) (by omega) (by omega)
        refine p_lald hx hb hK hP 2 hLy66 hKy66 rfl rfl (in_of (by omega) (by omega)) dX3_becomeCropped_110 ?_
        refine lv_topl (fun z110 ez110 => ?_)
        have s2 : Jz87 (wo Q p1) = J (wo Q p1) := dj_Jz87 _ (fun z => hne (by have w := z.2; have g := (wo_g hQ hLp1 hKp1).2.2; omega))
        have f102 : z102 = (J (wo Q p1)) (2 * (v41_2.toInt + (I p1 5).toInt).toNat) := by rw [ez102, ← s2, wo_of ey66]; congr 1; show z56.toInt.toNat = _; omega
        have f110 : z110 = (J (wo Q p1)) (2 * (v41_2.toInt + (I p1 5).toInt).toNat + 1) := by rw [ez110, ← s2, wo_of ey66]; congr 1; show z109.toInt.toNat = _; omega
        refine lv_aload_n hx hb dX3_becomeCropped_111 rfl (lv_at hl 2 rfl) ?_
        refine p_get hx hb hts inX3 hown hK hP hLp1 hKp1 rfl rfl 4 (by decide) (hts _ pq134) rfl dX3_becomeCropped_112 ?_
        refine lv_topi (fun z112 ez112 => ?_)
        obtain rfl : z80 = z112 := ez80.trans ez112.symm
        refine lv_ineg hx hb dX3_becomeCropped_115 ?_
        refine lv_topi (fun z115 ez115 => ?_)
        have bz115 := tq_neg (k := z80.toInt) ez115 rfl (by omega) (by omega)
        refine ro_l (va_runS (As := [.long z102, .long z110, .int z115]) (rest := [.int z96, .ref y59]) ⟨hx, hb, hml, hown, hts⟩ (s_X3_shiftedHigh l dC dI cs L K G Q hQ x0 m0 tx tm H.size Iz36 Jz87 hIz36 z102 z110 z115) (va_cwS 3 hts (gS pq625 pq626 pq76 pq627) rfl rfl rfl (by decide +kernel) ⟨(by rw [hR]; exact (Nat.le_of_ble_eq_true rfl)), (by rw [hR]; exact (Nat.le_of_ble_eq_true rfl))⟩) (sP_S hP hD hK hN) rfl rfl hl.1 rfl (lv_room (Nat.le_of_ble_eq_true rfl)) dX3_becomeCropped_116 ⟨(by rw [hR]; exact (Nat.le_of_ble_eq_true rfl)), (by rw [hR]; exact (Nat.le_of_ble_eq_true rfl))⟩) hS hP (fun z116 H locs hz116 hP hS => ?_)
        have xpz116 := hz116
        refine p_last hx hb hK hP hD hS 2 hLy59 hKy59 rfl (fun _ => rfl) rfl (in_of (by omega) (by omega)) dX3_becomeCropped_119 (fun H locs hP hS => ?_)
        obtain ⟨Jz119, hP, qJz119⟩ : ∃ Jz119, va_P (dC, dI) vwCl (Wd cs L K Iz36 Jz119 Q) H ∧ Jz119 = va_up Jz87 y59 (vp_updL (Jz87 y59) z96.toNatClampNeg z116) := ⟨_, hP, rfl⟩
        have dj_Jz119 : (∀ b, ¬ (K b = 12 ∧ (G b = G p0)) → Jz119 b = J b) := fun b hc => (congrFun qJz119 b).trans ((va_up_ne _ _ (fun z => hc (by rw [z]; exact ⟨hKy59, by omega⟩))).trans (dj_Jz87 b hc))
        obtain ⟨z120, ez120⟩ : ∃ y : Int32, y = v41_2 + 1 := ⟨_, rfl⟩
        refine lv_iinc (v := z120) (lv' := [(2, .int z120), (3, .int z56), (0, .ref p0), (1, .ref p1)]) hx hb dX3_becomeCropped_120 hl (k := 3) rfl (by rw [ez120]; rfl) (by decide) rfl (fun ls hl => ?_)
        have bz120 := tq_add (k := v41_2.toInt) (q := 1) ez120 rfl (by decide +kernel) (by omega) (by omega)
        refine lv_goto (tgt := 41) hx hb dX3_becomeCropped_123 (by decide) ?_
        exact ih41 _ (by omega) z120 Jz119 _ _ _ rfl ⟨by omega, by omega⟩ dj_Jz119 (fun ok ms => rws_step (r := v41_2.toInt.toNat) (hrw ok ms) (f1 := Jz87 (wo Q p0)) (a := z84) (b := z116) (fun j => by rw [qJz87, wo_of ey59, va_up_self]; unfold vp_updL; rw [show z64.toNatClampNeg = 2 * v41_2.toInt.toNat from (by show z64.toInt.toNat = _; omega)]) (fun j => by rw [qJz119, wo_of ey59, va_up_self]; unfold vp_updL; rw [show z96.toNatClampNeg = 2 * v41_2.toInt.toNat + 1 from (by show z96.toInt.toNat = _; omega)]) (by omega) (by omega) (by omega) (cr_row (n := (v41_2.toInt + (I p1 5).toInt).toNat) (by omega) (by omega) (by omega) f70 f78 (fun x y q => ((ms.2.1 (by rw [← ez1]; exact t4)).2.2.2.2 x y q).1.2) (fun i hi => by rw [xpz84 i hi, show z83.toInt = -(I p1 4).toInt from (by omega)]) (fun i hi => by rw [xpz116 i hi, f102.trans f70.symm, f110.trans f78.symm, show z115.toInt = -(I p1 4).toInt from (by omega)]) (by obtain ⟨⟨_, ml⟩, -, ⟨_, mr⟩, -⟩ := ms.2.1 (by rw [← ez1]; exact t4); have a := md_rng ml; have b := md_rng mr; omega))) hP hS (lv_sub hl [2, 3, 0] rfl))
    exact key41 _ 0 Jz36 _ _ _ rfl ⟨by decide +kernel, by decide +kernel⟩ dj_Jz36 (fun ok ms => rws_0 jz36 (fun x y a b => absurd b (by rw [show (0 : Int32).toInt = 0 from by decide +kernel]; omega))) hP hS (lv_sub hl [1, 2, 0] rfl)
  · have t4 := tq_eq (k := z1.toInt) (q := (0)) c4 rfl (by decide +kernel)
    refine lv_aload_n hx hb dX3_becomeCropped_7 rfl (lv_at hl 0 rfl) ?_
    refine lv_aload_n hx hb dX3_becomeCropped_8 rfl (lv_at hl 1 rfl) ?_
    refine sw_v (Z := (fun I1 J1 => Iv L K x0 m0 tx tm I1 ∧ (∀ b, ¬ (b = p0) → I1 b = I b) ∧ (¬ p1 = p0 → ∀ k, k < 8 → ¬ k = 2 → I1 p0 k = I p1 k) ∧ (∀ k, k < 80 → J1 (wo Q p0) k = J (wo Q p1) k) ∧ (∀ b, ¬ (K b = 12 ∧ (G b = G p0)) → J1 b = J b))) (va_runV (As := [.ref p1]) (rest := []) ⟨hx, hb, hml, hown, hts⟩ (s_X3_become l dC dI cs L K G Q hQ x0 m0 tx tm H.size I J hI p0 hLp0 hKp0 p1 hLp1 hKp1) (cwV 1 hts (gV pq612 pq594 pq595 pq76 pq596) rfl rfl rfl (by decide +kernel) ⟨(by rw [hR]; exact (Nat.le_of_ble_eq_true rfl)), (by rw [hR]; exact (Nat.le_of_ble_eq_true rfl))⟩) (sP_V hP hD hK hN hLp0 hKp0 rfl rfl) rfl rfl hl.1 rfl (lv_room (Nat.le_of_ble_eq_true rfl)) dX3_becomeCropped_9 ⟨(by rw [hR]; exact (Nat.le_of_ble_eq_true rfl)), (by rw [hR]; exact (Nat.le_of_ble_eq_true rfl))⟩) hS hAL hA (fun Iz9 Jz9 H locs hz9 hIz9 hP hS => ?_)
    obtain ⟨hIz9, frc9, fz9, jz9, djc9⟩ := hIz9
    have dj_Jz9 : (∀ b, ¬ (K b = 12 ∧ (G b = G p0)) → Jz9 b = J b) := fun b hc => (djc9 b (fun z => hc (by exact ⟨z.1, by have z2 := z.2; omega⟩))).trans (dj_J b hc)
    have fr_Iz9 : ∀ b, ¬ (b = p0) → Iz9 b = I b := fun b q => (frc9 b (fun z => q (z))).trans (fr_I b q)
    subst hR; subst hQz
    exact W.vret hx hb hr (fun t ht hW => ⟨⟨(), rfl, trivial, ⟨Iz9, Jz9, ⟨hIz9, fr_Iz9, (fun ok ms => ⟨fun _ => mk_cpy (fz9 (fun z => hne (by rw [z]))) jz9 (fun _ _ _ _ => rfl) ms, fun q => absurd (by rw [← ez1]; exact t4) q⟩), dj_Jz9⟩, by rw [ht]; exact hP⟩⟩, hS.F ht⟩) hS.2.2 dX3_becomeCropped_12
