def yX4_takeWord : MethodName := ⟨RX4, "takeWord", "(Ljava/lang/String;)Z"⟩
abbrev cX4_takeWord : ByteArray := prog_6_method_17_code
def yJ0_length_8abf5 : MethodName := ⟨RJ0, "length", "()I"⟩
abbrev cJ0_length_8abf5 : ByteArray := prog_15_method_54_code
def yJ0_coder_7d493 : MethodName := ⟨RJ0, "coder", "()B"⟩
abbrev cJ0_coder_7d493 : ByteArray := prog_15_method_152_code
def yJ0_charAt_5068e : MethodName := ⟨RJ0, "charAt", "(I)C"⟩
abbrev cJ0_charAt_5068e : ByteArray := prog_15_method_56_code
def yJ0_isLatin1_aae02 : MethodName := ⟨RJ0, "isLatin1", "()Z"⟩
abbrev cJ0_isLatin1_aae02 : ByteArray := prog_15_method_154_code
def yJ1_charAt_3b067 : MethodName := ⟨RJ1, "charAt", "([BI)C"⟩
abbrev cJ1_charAt_3b067 : ByteArray := prog_16_method_2_code
def yJ0_checkIndex_df160 : MethodName := ⟨RJ0, "checkIndex", "(II)V"⟩
abbrev cJ0_checkIndex_df160 : ByteArray := prog_15_method_155_code
def yJ3_checkIndex_8e157 : MethodName := ⟨RJ3, "checkIndex", "(IILjava/util/function/BiFunction;)I"⟩
abbrev cJ3_checkIndex_8e157 : ByteArray := prog_20_method_11_code
def yX4_readFlip : MethodName := ⟨RX4, "readFlip", "(LMaskTouch$Body;)Z"⟩
abbrev cX4_readFlip : ByteArray := prog_6_method_12_code
def yX4_readLayers : MethodName := ⟨RX4, "readLayers", "(LMaskTouch$Body;)Z"⟩
abbrev cX4_readLayers : ByteArray := prog_6_method_13_code
def yX4_readMoves : MethodName := ⟨RX4, "readMoves", "(LMaskTouch$Body;)Z"⟩
abbrev cX4_readMoves : ByteArray := prog_6_method_14_code
abbrev cX4_readBody : ByteArray := prog_6_method_11_code
def yX4_readBody : MethodName := ⟨RX4, "readBody", "(LMaskTouch$Field;)Z"⟩
theorem dJ0_charAt_5068e_0 : decode cJ0_charAt_5068e 0 = .ok (.aload_n 0, 1) := by decide +kernel
theorem dJ0_charAt_5068e_1 : decode cJ0_charAt_5068e 1 = .ok (.invokevirtual 492, 3) := by decide +kernel
theorem dJ0_charAt_5068e_4 : decode cJ0_charAt_5068e 4 = .ok (.ifCond .eq 12, 3) := by decide +kernel
theorem dJ0_charAt_5068e_7 : decode cJ0_charAt_5068e 7 = .ok (.aload_n 0, 1) := by decide +kernel
theorem dJ0_charAt_5068e_8 : decode cJ0_charAt_5068e 8 = .ok (.getfield 9, 3) := by decide +kernel
theorem dJ0_charAt_5068e_11 : decode cJ0_charAt_5068e 11 = .ok (.iload_n 1, 1) := by decide +kernel
theorem dJ0_charAt_5068e_12 : decode cJ0_charAt_5068e 12 = .ok (.invokestatic 495, 3) := by decide +kernel
theorem dJ0_charAt_5068e_15 : decode cJ0_charAt_5068e 15 = .ok (.ireturn, 1) := by decide +kernel
theorem dJ0_checkIndex_df160_0 : decode cJ0_checkIndex_df160 0 = .ok (.iload_n 0, 1) := by decide +kernel
theorem dJ0_checkIndex_df160_1 : decode cJ0_checkIndex_df160 1 = .ok (.iload_n 1, 1) := by decide +kernel
theorem dJ0_checkIndex_df160_2 : decode cJ0_checkIndex_df160 2 = .ok (.getstatic 1053, 3) := by decide +kernel
theorem dJ0_checkIndex_df160_5 : decode cJ0_checkIndex_df160 5 = .ok (.invokestatic 1059, 3) := by decide +kernel
theorem dJ0_checkIndex_df160_8 : decode cJ0_checkIndex_df160 8 = .ok (.pop, 1) := by decide +kernel
theorem dJ0_checkIndex_df160_9 : decode cJ0_checkIndex_df160 9 = .ok (.return_, 1) := by decide +kernel
theorem dJ0_coder_7d493_0 : decode cJ0_coder_7d493 0 = .ok (.getstatic 38, 3) := by decide +kernel
theorem dJ0_coder_7d493_3 : decode cJ0_coder_7d493 3 = .ok (.ifCond .eq 10, 3) := by decide +kernel
theorem dJ0_coder_7d493_6 : decode cJ0_coder_7d493 6 = .ok (.aload_n 0, 1) := by decide +kernel
theorem dJ0_coder_7d493_7 : decode cJ0_coder_7d493 7 = .ok (.getfield 15, 3) := by decide +kernel
theorem dJ0_coder_7d493_10 : decode cJ0_coder_7d493 10 = .ok (.goto 4, 3) := by decide +kernel
theorem dJ0_coder_7d493_14 : decode cJ0_coder_7d493 14 = .ok (.ireturn, 1) := by decide +kernel
theorem dJ0_isLatin1_aae02_0 : decode cJ0_isLatin1_aae02 0 = .ok (.getstatic 38, 3) := by decide +kernel
theorem dJ0_isLatin1_aae02_3 : decode cJ0_isLatin1_aae02 3 = .ok (.ifCond .eq 14, 3) := by decide +kernel
theorem dJ0_isLatin1_aae02_6 : decode cJ0_isLatin1_aae02 6 = .ok (.aload_n 0, 1) := by decide +kernel
theorem dJ0_isLatin1_aae02_7 : decode cJ0_isLatin1_aae02 7 = .ok (.getfield 15, 3) := by decide +kernel
theorem dJ0_isLatin1_aae02_10 : decode cJ0_isLatin1_aae02 10 = .ok (.ifCond .ne 7, 3) := by decide +kernel
theorem dJ0_isLatin1_aae02_13 : decode cJ0_isLatin1_aae02 13 = .ok (.iconst 1, 1) := by decide +kernel
theorem dJ0_isLatin1_aae02_14 : decode cJ0_isLatin1_aae02 14 = .ok (.goto 4, 3) := by decide +kernel
theorem dJ0_isLatin1_aae02_18 : decode cJ0_isLatin1_aae02 18 = .ok (.ireturn, 1) := by decide +kernel
theorem dJ0_length_8abf5_0 : decode cJ0_length_8abf5 0 = .ok (.aload_n 0, 1) := by decide +kernel
theorem dJ0_length_8abf5_1 : decode cJ0_length_8abf5 1 = .ok (.getfield 9, 3) := by decide +kernel
theorem dJ0_length_8abf5_4 : decode cJ0_length_8abf5 4 = .ok (.arraylength, 1) := by decide +kernel
theorem dJ0_length_8abf5_5 : decode cJ0_length_8abf5 5 = .ok (.aload_n 0, 1) := by decide +kernel
theorem dJ0_length_8abf5_6 : decode cJ0_length_8abf5 6 = .ok (.invokevirtual 335, 3) := by decide +kernel
theorem dJ0_length_8abf5_9 : decode cJ0_length_8abf5 9 = .ok (.ishr, 1) := by decide +kernel
theorem dJ0_length_8abf5_10 : decode cJ0_length_8abf5 10 = .ok (.ireturn, 1) := by decide +kernel
theorem dJ1_charAt_3b067_0 : decode cJ1_charAt_3b067 0 = .ok (.iload_n 1, 1) := by decide +kernel
theorem dJ1_charAt_3b067_1 : decode cJ1_charAt_3b067 1 = .ok (.aload_n 0, 1) := by decide +kernel
theorem dJ1_charAt_3b067_2 : decode cJ1_charAt_3b067 2 = .ok (.arraylength, 1) := by decide +kernel
theorem dJ1_charAt_3b067_3 : decode cJ1_charAt_3b067 3 = .ok (.invokestatic 9, 3) := by decide +kernel
theorem dJ1_charAt_3b067_6 : decode cJ1_charAt_3b067 6 = .ok (.aload_n 0, 1) := by decide +kernel
theorem dJ1_charAt_3b067_7 : decode cJ1_charAt_3b067 7 = .ok (.iload_n 1, 1) := by decide +kernel
theorem dJ1_charAt_3b067_8 : decode cJ1_charAt_3b067 8 = .ok (.baload, 1) := by decide +kernel
theorem dJ1_charAt_3b067_9 : decode cJ1_charAt_3b067 9 = .ok (.sipush 255, 3) := by decide +kernel
theorem dJ1_charAt_3b067_12 : decode cJ1_charAt_3b067 12 = .ok (.iand, 1) := by decide +kernel
theorem dJ1_charAt_3b067_13 : decode cJ1_charAt_3b067 13 = .ok (.i2c, 1) := by decide +kernel
theorem dJ1_charAt_3b067_14 : decode cJ1_charAt_3b067 14 = .ok (.ireturn, 1) := by decide +kernel
theorem dJ3_checkIndex_8e157_0 : decode cJ3_checkIndex_8e157 0 = .ok (.iload_n 0, 1) := by decide +kernel
theorem dJ3_checkIndex_8e157_1 : decode cJ3_checkIndex_8e157 1 = .ok (.ifCond .lt 8, 3) := by decide +kernel
theorem dJ3_checkIndex_8e157_4 : decode cJ3_checkIndex_8e157 4 = .ok (.iload_n 0, 1) := by decide +kernel
theorem dJ3_checkIndex_8e157_5 : decode cJ3_checkIndex_8e157 5 = .ok (.iload_n 1, 1) := by decide +kernel
theorem dJ3_checkIndex_8e157_6 : decode cJ3_checkIndex_8e157 6 = .ok (.if_icmp .lt 10, 3) := by decide +kernel
theorem dJ3_checkIndex_8e157_16 : decode cJ3_checkIndex_8e157 16 = .ok (.iload_n 0, 1) := by decide +kernel
theorem dJ3_checkIndex_8e157_17 : decode cJ3_checkIndex_8e157 17 = .ok (.ireturn, 1) := by decide +kernel
theorem dX4_readBody_0 : decode cX4_readBody 0 = .ok (.aload_n 1, 1) := by decide +kernel
theorem dX4_readBody_1 : decode cX4_readBody 1 = .ok (.getfield 142, 3) := by decide +kernel
theorem dX4_readBody_4 : decode cX4_readBody 4 = .ok (.bipush 10, 2) := by decide +kernel
theorem dX4_readBody_6 : decode cX4_readBody 6 = .ok (.if_icmp .lt 13, 3) := by decide +kernel
theorem dX4_readBody_9 : decode cX4_readBody 9 = .ok (.aload_n 0, 1) := by decide +kernel
theorem dX4_readBody_10 : decode cX4_readBody 10 = .ok (.aload_n 0, 1) := by decide +kernel
theorem dX4_readBody_11 : decode cX4_readBody 11 = .ok (.getfield 18, 3) := by decide +kernel
theorem dX4_readBody_14 : decode cX4_readBody 14 = .ok (.iconst 3, 1) := by decide +kernel
theorem dX4_readBody_15 : decode cX4_readBody 15 = .ok (.invokevirtual 64, 3) := by decide +kernel
theorem dX4_readBody_18 : decode cX4_readBody 18 = .ok (.ireturn, 1) := by decide +kernel
theorem dX4_readBody_19 : decode cX4_readBody 19 = .ok (.aload_n 0, 1) := by decide +kernel
theorem dX4_readBody_20 : decode cX4_readBody 20 = .ok (.iconst 0, 1) := by decide +kernel
theorem dX4_readBody_21 : decode cX4_readBody 21 = .ok (.aload_n 1, 1) := by decide +kernel
theorem dX4_readBody_22 : decode cX4_readBody 22 = .ok (.getfield 72, 3) := by decide +kernel
theorem dX4_readBody_25 : decode cX4_readBody 25 = .ok (.iconst 1, 1) := by decide +kernel
theorem dX4_readBody_26 : decode cX4_readBody 26 = .ok (.isub, 1) := by decide +kernel
theorem dX4_readBody_27 : decode cX4_readBody 27 = .ok (.invokevirtual 95, 3) := by decide +kernel
theorem dX4_readBody_30 : decode cX4_readBody 30 = .ok (.ifCond .ne 5, 3) := by decide +kernel
theorem dX4_readBody_33 : decode cX4_readBody 33 = .ok (.iconst 0, 1) := by decide +kernel
theorem dX4_readBody_34 : decode cX4_readBody 34 = .ok (.ireturn, 1) := by decide +kernel
theorem dX4_readBody_35 : decode cX4_readBody 35 = .ok (.aload_n 0, 1) := by decide +kernel
theorem dX4_readBody_36 : decode cX4_readBody 36 = .ok (.getfield 21, 3) := by decide +kernel
theorem dX4_readBody_39 : decode cX4_readBody 39 = .ok (.istore_n 2, 1) := by decide +kernel
theorem dX4_readBody_40 : decode cX4_readBody 40 = .ok (.aload_n 0, 1) := by decide +kernel
theorem dX4_readBody_41 : decode cX4_readBody 41 = .ok (.sipush 999, 3) := by decide +kernel
theorem dX4_readBody_44 : decode cX4_readBody 44 = .ok (.invokevirtual 145, 3) := by decide +kernel
theorem dX4_readBody_47 : decode cX4_readBody 47 = .ok (.ifCond .ne 5, 3) := by decide +kernel
theorem dX4_readBody_50 : decode cX4_readBody 50 = .ok (.iconst 0, 1) := by decide +kernel
theorem dX4_readBody_51 : decode cX4_readBody 51 = .ok (.ireturn, 1) := by decide +kernel
theorem dX4_readBody_52 : decode cX4_readBody 52 = .ok (.aload_n 0, 1) := by decide +kernel
theorem dX4_readBody_53 : decode cX4_readBody 53 = .ok (.getfield 21, 3) := by decide +kernel
theorem dX4_readBody_56 : decode cX4_readBody 56 = .ok (.istore_n 3, 1) := by decide +kernel
theorem dX4_readBody_57 : decode cX4_readBody 57 = .ok (.aload_n 0, 1) := by decide +kernel
theorem dX4_readBody_58 : decode cX4_readBody 58 = .ok (.sipush 999, 3) := by decide +kernel
theorem dX4_readBody_61 : decode cX4_readBody 61 = .ok (.invokevirtual 145, 3) := by decide +kernel
theorem dX4_readBody_64 : decode cX4_readBody 64 = .ok (.ifCond .ne 5, 3) := by decide +kernel
theorem dX4_readBody_67 : decode cX4_readBody 67 = .ok (.iconst 0, 1) := by decide +kernel
theorem dX4_readBody_68 : decode cX4_readBody 68 = .ok (.ireturn, 1) := by decide +kernel
theorem dX4_readBody_69 : decode cX4_readBody 69 = .ok (.aload_n 1, 1) := by decide +kernel
theorem dX4_readBody_70 : decode cX4_readBody 70 = .ok (.getfield 149, 3) := by decide +kernel
theorem dX4_readBody_73 : decode cX4_readBody 73 = .ok (.aload_n 1, 1) := by decide +kernel
theorem dX4_readBody_74 : decode cX4_readBody 74 = .ok (.getfield 142, 3) := by decide +kernel
theorem dX4_readBody_77 : decode cX4_readBody 77 = .ok (.aaload, 1) := by decide +kernel
theorem dX4_readBody_78 : decode cX4_readBody 78 = .ok (.astore 4, 2) := by decide +kernel
theorem dX4_readBody_80 : decode cX4_readBody 80 = .ok (.aload_n 1, 1) := by decide +kernel
theorem dX4_readBody_81 : decode cX4_readBody 81 = .ok (.dup, 1) := by decide +kernel
theorem dX4_readBody_82 : decode cX4_readBody 82 = .ok (.getfield 142, 3) := by decide +kernel
theorem dX4_readBody_85 : decode cX4_readBody 85 = .ok (.iconst 1, 1) := by decide +kernel
theorem dX4_readBody_86 : decode cX4_readBody 86 = .ok (.iadd, 1) := by decide +kernel
theorem dX4_readBody_87 : decode cX4_readBody 87 = .ok (.putfield 142, 3) := by decide +kernel
theorem dX4_readBody_90 : decode cX4_readBody 90 = .ok (.aload 4, 2) := by decide +kernel
theorem dX4_readBody_92 : decode cX4_readBody 92 = .ok (.iload_n 2, 1) := by decide +kernel
theorem dX4_readBody_93 : decode cX4_readBody 93 = .ok (.iload_n 3, 1) := by decide +kernel
theorem dX4_readBody_94 : decode cX4_readBody 94 = .ok (.aload_n 0, 1) := by decide +kernel
theorem dX4_readBody_95 : decode cX4_readBody 95 = .ok (.getfield 21, 3) := by decide +kernel
theorem dX4_readBody_98 : decode cX4_readBody 98 = .ok (.invokevirtual 153, 3) := by decide +kernel
theorem dX4_readBody_101 : decode cX4_readBody 101 = .ok (.aload_n 0, 1) := by decide +kernel
theorem dX4_readBody_102 : decode cX4_readBody 102 = .ok (.aload 4, 2) := by decide +kernel
theorem dX4_readBody_104 : decode cX4_readBody 104 = .ok (.invokevirtual 159, 3) := by decide +kernel
theorem dX4_readBody_107 : decode cX4_readBody 107 = .ok (.ifCond .eq 25, 3) := by decide +kernel
theorem dX4_readBody_110 : decode cX4_readBody 110 = .ok (.aload_n 0, 1) := by decide +kernel
theorem dX4_readBody_111 : decode cX4_readBody 111 = .ok (.aload 4, 2) := by decide +kernel
theorem dX4_readBody_113 : decode cX4_readBody 113 = .ok (.invokevirtual 163, 3) := by decide +kernel
theorem dX4_readBody_116 : decode cX4_readBody 116 = .ok (.ifCond .eq 16, 3) := by decide +kernel
theorem dX4_readBody_119 : decode cX4_readBody 119 = .ok (.aload_n 0, 1) := by decide +kernel
theorem dX4_readBody_120 : decode cX4_readBody 120 = .ok (.aload 4, 2) := by decide +kernel
theorem dX4_readBody_122 : decode cX4_readBody 122 = .ok (.invokevirtual 166, 3) := by decide +kernel
theorem dX4_readBody_125 : decode cX4_readBody 125 = .ok (.ifCond .eq 7, 3) := by decide +kernel
theorem dX4_readBody_128 : decode cX4_readBody 128 = .ok (.iconst 1, 1) := by decide +kernel
theorem dX4_readBody_129 : decode cX4_readBody 129 = .ok (.goto 4, 3) := by decide +kernel
theorem dX4_readBody_132 : decode cX4_readBody 132 = .ok (.iconst 0, 1) := by decide +kernel
theorem dX4_readBody_133 : decode cX4_readBody 133 = .ok (.ireturn, 1) := by decide +kernel
theorem dX4_readFlip_0 : decode cX4_readFlip 0 = .ok (.aload_n 0, 1) := by decide +kernel
theorem dX4_readFlip_1 : decode cX4_readFlip 1 = .ok (.ldc 169, 2) := by decide +kernel
theorem dX4_readFlip_3 : decode cX4_readFlip 3 = .ok (.invokevirtual 51, 3) := by decide +kernel
theorem dX4_readFlip_6 : decode cX4_readFlip 6 = .ok (.ifCond .ne 5, 3) := by decide +kernel
theorem dX4_readFlip_9 : decode cX4_readFlip 9 = .ok (.iconst 1, 1) := by decide +kernel
theorem dX4_readFlip_10 : decode cX4_readFlip 10 = .ok (.ireturn, 1) := by decide +kernel
theorem dX4_readFlip_11 : decode cX4_readFlip 11 = .ok (.aload_n 0, 1) := by decide +kernel
theorem dX4_readFlip_12 : decode cX4_readFlip 12 = .ok (.iconst 0, 1) := by decide +kernel
theorem dX4_readFlip_13 : decode cX4_readFlip 13 = .ok (.iconst 3, 1) := by decide +kernel
theorem dX4_readFlip_14 : decode cX4_readFlip 14 = .ok (.invokevirtual 95, 3) := by decide +kernel
theorem dX4_readFlip_17 : decode cX4_readFlip 17 = .ok (.ifCond .ne 5, 3) := by decide +kernel
theorem dX4_readFlip_20 : decode cX4_readFlip 20 = .ok (.iconst 0, 1) := by decide +kernel
theorem dX4_readFlip_21 : decode cX4_readFlip 21 = .ok (.ireturn, 1) := by decide +kernel
theorem dX4_readFlip_22 : decode cX4_readFlip 22 = .ok (.aload_n 1, 1) := by decide +kernel
theorem dX4_readFlip_23 : decode cX4_readFlip 23 = .ok (.aload_n 0, 1) := by decide +kernel
theorem dX4_readFlip_24 : decode cX4_readFlip 24 = .ok (.getfield 21, 3) := by decide +kernel
theorem dX4_readFlip_27 : decode cX4_readFlip 27 = .ok (.putfield 171, 3) := by decide +kernel
theorem dX4_readFlip_30 : decode cX4_readFlip 30 = .ok (.iconst 1, 1) := by decide +kernel
theorem dX4_readFlip_31 : decode cX4_readFlip 31 = .ok (.ireturn, 1) := by decide +kernel
theorem dX4_readLayers_0 : decode cX4_readLayers 0 = .ok (.aload_n 0, 1) := by decide +kernel
theorem dX4_readLayers_1 : decode cX4_readLayers 1 = .ok (.ldc 173, 2) := by decide +kernel
theorem dX4_readLayers_3 : decode cX4_readLayers 3 = .ok (.invokevirtual 51, 3) := by decide +kernel
theorem dX4_readLayers_6 : decode cX4_readLayers 6 = .ok (.ifCond .ne 5, 3) := by decide +kernel
theorem dX4_readLayers_9 : decode cX4_readLayers 9 = .ok (.iconst 1, 1) := by decide +kernel
theorem dX4_readLayers_10 : decode cX4_readLayers 10 = .ok (.ireturn, 1) := by decide +kernel
theorem dX4_readLayers_11 : decode cX4_readLayers 11 = .ok (.aload_n 0, 1) := by decide +kernel
theorem dX4_readLayers_12 : decode cX4_readLayers 12 = .ok (.iconst 0, 1) := by decide +kernel
theorem dX4_readLayers_13 : decode cX4_readLayers 13 = .ok (.bipush 15, 2) := by decide +kernel
theorem dX4_readLayers_15 : decode cX4_readLayers 15 = .ok (.invokevirtual 95, 3) := by decide +kernel
theorem dX4_readLayers_18 : decode cX4_readLayers 18 = .ok (.ifCond .ne 5, 3) := by decide +kernel
theorem dX4_readLayers_21 : decode cX4_readLayers 21 = .ok (.iconst 0, 1) := by decide +kernel
theorem dX4_readLayers_22 : decode cX4_readLayers 22 = .ok (.ireturn, 1) := by decide +kernel
theorem dX4_readLayers_23 : decode cX4_readLayers 23 = .ok (.aload_n 1, 1) := by decide +kernel
theorem dX4_readLayers_24 : decode cX4_readLayers 24 = .ok (.aload_n 0, 1) := by decide +kernel
theorem dX4_readLayers_25 : decode cX4_readLayers 25 = .ok (.getfield 21, 3) := by decide +kernel
theorem dX4_readLayers_28 : decode cX4_readLayers 28 = .ok (.putfield 175, 3) := by decide +kernel
theorem dX4_readLayers_31 : decode cX4_readLayers 31 = .ok (.aload_n 0, 1) := by decide +kernel
theorem dX4_readLayers_32 : decode cX4_readLayers 32 = .ok (.iconst 0, 1) := by decide +kernel
theorem dX4_readLayers_33 : decode cX4_readLayers 33 = .ok (.bipush 15, 2) := by decide +kernel
theorem dX4_readLayers_35 : decode cX4_readLayers 35 = .ok (.invokevirtual 95, 3) := by decide +kernel
theorem dX4_readLayers_38 : decode cX4_readLayers 38 = .ok (.ifCond .ne 5, 3) := by decide +kernel
theorem dX4_readLayers_41 : decode cX4_readLayers 41 = .ok (.iconst 0, 1) := by decide +kernel
theorem dX4_readLayers_42 : decode cX4_readLayers 42 = .ok (.ireturn, 1) := by decide +kernel
theorem dX4_readLayers_43 : decode cX4_readLayers 43 = .ok (.aload_n 1, 1) := by decide +kernel
theorem dX4_readLayers_44 : decode cX4_readLayers 44 = .ok (.aload_n 0, 1) := by decide +kernel
theorem dX4_readLayers_45 : decode cX4_readLayers 45 = .ok (.getfield 21, 3) := by decide +kernel
theorem dX4_readLayers_48 : decode cX4_readLayers 48 = .ok (.putfield 178, 3) := by decide +kernel
theorem dX4_readLayers_51 : decode cX4_readLayers 51 = .ok (.iconst 1, 1) := by decide +kernel
theorem dX4_readLayers_52 : decode cX4_readLayers 52 = .ok (.ireturn, 1) := by decide +kernel
theorem dX4_readMoves_0 : decode cX4_readMoves 0 = .ok (.aload_n 0, 1) := by decide +kernel
theorem dX4_readMoves_1 : decode cX4_readMoves 1 = .ok (.ldc 181, 2) := by decide +kernel
theorem dX4_readMoves_3 : decode cX4_readMoves 3 = .ok (.invokevirtual 51, 3) := by decide +kernel
theorem dX4_readMoves_6 : decode cX4_readMoves 6 = .ok (.ifCond .ne 5, 3) := by decide +kernel
theorem dX4_readMoves_9 : decode cX4_readMoves 9 = .ok (.iconst 1, 1) := by decide +kernel
theorem dX4_readMoves_10 : decode cX4_readMoves 10 = .ok (.ireturn, 1) := by decide +kernel
theorem dX4_readMoves_11 : decode cX4_readMoves 11 = .ok (.aload_n 0, 1) := by decide +kernel
theorem dX4_readMoves_12 : decode cX4_readMoves 12 = .ok (.bipush 20, 2) := by decide +kernel
theorem dX4_readMoves_14 : decode cX4_readMoves 14 = .ok (.invokevirtual 145, 3) := by decide +kernel
theorem dX4_readMoves_17 : decode cX4_readMoves 17 = .ok (.ifCond .ne 5, 3) := by decide +kernel
theorem dX4_readMoves_20 : decode cX4_readMoves 20 = .ok (.iconst 0, 1) := by decide +kernel
theorem dX4_readMoves_21 : decode cX4_readMoves 21 = .ok (.ireturn, 1) := by decide +kernel
theorem dX4_readMoves_22 : decode cX4_readMoves 22 = .ok (.aload_n 1, 1) := by decide +kernel
theorem dX4_readMoves_23 : decode cX4_readMoves 23 = .ok (.aload_n 0, 1) := by decide +kernel
theorem dX4_readMoves_24 : decode cX4_readMoves 24 = .ok (.getfield 21, 3) := by decide +kernel
theorem dX4_readMoves_27 : decode cX4_readMoves 27 = .ok (.putfield 183, 3) := by decide +kernel
theorem dX4_readMoves_30 : decode cX4_readMoves 30 = .ok (.aload_n 0, 1) := by decide +kernel
theorem dX4_readMoves_31 : decode cX4_readMoves 31 = .ok (.bipush 20, 2) := by decide +kernel
theorem dX4_readMoves_33 : decode cX4_readMoves 33 = .ok (.invokevirtual 145, 3) := by decide +kernel
theorem dX4_readMoves_36 : decode cX4_readMoves 36 = .ok (.ifCond .ne 5, 3) := by decide +kernel
theorem dX4_readMoves_39 : decode cX4_readMoves 39 = .ok (.iconst 0, 1) := by decide +kernel
theorem dX4_readMoves_40 : decode cX4_readMoves 40 = .ok (.ireturn, 1) := by decide +kernel
theorem dX4_readMoves_41 : decode cX4_readMoves 41 = .ok (.aload_n 1, 1) := by decide +kernel
theorem dX4_readMoves_42 : decode cX4_readMoves 42 = .ok (.aload_n 0, 1) := by decide +kernel
theorem dX4_readMoves_43 : decode cX4_readMoves 43 = .ok (.getfield 21, 3) := by decide +kernel
theorem dX4_readMoves_46 : decode cX4_readMoves 46 = .ok (.putfield 186, 3) := by decide +kernel
theorem dX4_readMoves_49 : decode cX4_readMoves 49 = .ok (.iconst 1, 1) := by decide +kernel
theorem dX4_readMoves_50 : decode cX4_readMoves 50 = .ok (.ireturn, 1) := by decide +kernel
theorem dX4_takeWord_0 : decode cX4_takeWord 0 = .ok (.aload_n 0, 1) := by decide +kernel
theorem dX4_takeWord_1 : decode cX4_takeWord 1 = .ok (.invokevirtual 46, 3) := by decide +kernel
theorem dX4_takeWord_4 : decode cX4_takeWord 4 = .ok (.aload_n 0, 1) := by decide +kernel
theorem dX4_takeWord_5 : decode cX4_takeWord 5 = .ok (.getfield 15, 3) := by decide +kernel
theorem dX4_takeWord_8 : decode cX4_takeWord 8 = .ok (.istore_n 2, 1) := by decide +kernel
theorem dX4_takeWord_9 : decode cX4_takeWord 9 = .ok (.iload_n 2, 1) := by decide +kernel
theorem dX4_takeWord_10 : decode cX4_takeWord 10 = .ok (.aload_n 0, 1) := by decide +kernel
theorem dX4_takeWord_11 : decode cX4_takeWord 11 = .ok (.getfield 9, 3) := by decide +kernel
theorem dX4_takeWord_14 : decode cX4_takeWord 14 = .ok (.if_icmp .ge 31, 3) := by decide +kernel
theorem dX4_takeWord_17 : decode cX4_takeWord 17 = .ok (.aload_n 0, 1) := by decide +kernel
theorem dX4_takeWord_18 : decode cX4_takeWord 18 = .ok (.getfield 27, 3) := by decide +kernel
theorem dX4_takeWord_21 : decode cX4_takeWord 21 = .ok (.iload_n 2, 1) := by decide +kernel
theorem dX4_takeWord_22 : decode cX4_takeWord 22 = .ok (.baload, 1) := by decide +kernel
theorem dX4_takeWord_23 : decode cX4_takeWord 23 = .ok (.bipush 97, 2) := by decide +kernel
theorem dX4_takeWord_25 : decode cX4_takeWord 25 = .ok (.if_icmp .lt 20, 3) := by decide +kernel
theorem dX4_takeWord_28 : decode cX4_takeWord 28 = .ok (.aload_n 0, 1) := by decide +kernel
theorem dX4_takeWord_29 : decode cX4_takeWord 29 = .ok (.getfield 27, 3) := by decide +kernel
theorem dX4_takeWord_32 : decode cX4_takeWord 32 = .ok (.iload_n 2, 1) := by decide +kernel
theorem dX4_takeWord_33 : decode cX4_takeWord 33 = .ok (.baload, 1) := by decide +kernel
theorem dX4_takeWord_34 : decode cX4_takeWord 34 = .ok (.bipush 122, 2) := by decide +kernel
theorem dX4_takeWord_36 : decode cX4_takeWord 36 = .ok (.if_icmp .gt 9, 3) := by decide +kernel
theorem dX4_takeWord_39 : decode cX4_takeWord 39 = .ok (.iinc 2 1, 3) := by decide +kernel
theorem dX4_takeWord_42 : decode cX4_takeWord 42 = .ok (.goto (-33), 3) := by decide +kernel
theorem dX4_takeWord_45 : decode cX4_takeWord 45 = .ok (.iload_n 2, 1) := by decide +kernel
theorem dX4_takeWord_46 : decode cX4_takeWord 46 = .ok (.aload_n 0, 1) := by decide +kernel
theorem dX4_takeWord_47 : decode cX4_takeWord 47 = .ok (.getfield 15, 3) := by decide +kernel
theorem dX4_takeWord_50 : decode cX4_takeWord 50 = .ok (.isub, 1) := by decide +kernel
theorem dX4_takeWord_51 : decode cX4_takeWord 51 = .ok (.aload_n 1, 1) := by decide +kernel
theorem dX4_takeWord_52 : decode cX4_takeWord 52 = .ok (.invokevirtual 190, 3) := by decide +kernel
theorem dX4_takeWord_55 : decode cX4_takeWord 55 = .ok (.if_icmp .eq 5, 3) := by decide +kernel
theorem dX4_takeWord_58 : decode cX4_takeWord 58 = .ok (.iconst 0, 1) := by decide +kernel
theorem dX4_takeWord_59 : decode cX4_takeWord 59 = .ok (.ireturn, 1) := by decide +kernel
theorem dX4_takeWord_60 : decode cX4_takeWord 60 = .ok (.iconst 0, 1) := by decide +kernel
theorem dX4_takeWord_61 : decode cX4_takeWord 61 = .ok (.istore_n 3, 1) := by decide +kernel
theorem dX4_takeWord_62 : decode cX4_takeWord 62 = .ok (.iload_n 3, 1) := by decide +kernel
theorem dX4_takeWord_63 : decode cX4_takeWord 63 = .ok (.aload_n 1, 1) := by decide +kernel
theorem dX4_takeWord_64 : decode cX4_takeWord 64 = .ok (.invokevirtual 190, 3) := by decide +kernel
theorem dX4_takeWord_67 : decode cX4_takeWord 67 = .ok (.if_icmp .ge 43, 3) := by decide +kernel
theorem dX4_takeWord_70 : decode cX4_takeWord 70 = .ok (.aload_n 0, 1) := by decide +kernel
theorem dX4_takeWord_71 : decode cX4_takeWord 71 = .ok (.getfield 15, 3) := by decide +kernel
theorem dX4_takeWord_74 : decode cX4_takeWord 74 = .ok (.iload_n 3, 1) := by decide +kernel
theorem dX4_takeWord_75 : decode cX4_takeWord 75 = .ok (.iadd, 1) := by decide +kernel
theorem dX4_takeWord_76 : decode cX4_takeWord 76 = .ok (.aload_n 0, 1) := by decide +kernel
theorem dX4_takeWord_77 : decode cX4_takeWord 77 = .ok (.getfield 9, 3) := by decide +kernel
theorem dX4_takeWord_80 : decode cX4_takeWord 80 = .ok (.if_icmp .ge 30, 3) := by decide +kernel
theorem dX4_takeWord_83 : decode cX4_takeWord 83 = .ok (.aload_n 0, 1) := by decide +kernel
theorem dX4_takeWord_84 : decode cX4_takeWord 84 = .ok (.getfield 27, 3) := by decide +kernel
theorem dX4_takeWord_87 : decode cX4_takeWord 87 = .ok (.aload_n 0, 1) := by decide +kernel
theorem dX4_takeWord_88 : decode cX4_takeWord 88 = .ok (.getfield 15, 3) := by decide +kernel
theorem dX4_takeWord_91 : decode cX4_takeWord 91 = .ok (.iload_n 3, 1) := by decide +kernel
theorem dX4_takeWord_92 : decode cX4_takeWord 92 = .ok (.iadd, 1) := by decide +kernel
theorem dX4_takeWord_93 : decode cX4_takeWord 93 = .ok (.baload, 1) := by decide +kernel
theorem dX4_takeWord_94 : decode cX4_takeWord 94 = .ok (.aload_n 1, 1) := by decide +kernel
theorem dX4_takeWord_95 : decode cX4_takeWord 95 = .ok (.iload_n 3, 1) := by decide +kernel
theorem dX4_takeWord_96 : decode cX4_takeWord 96 = .ok (.invokevirtual 194, 3) := by decide +kernel
theorem dX4_takeWord_99 : decode cX4_takeWord 99 = .ok (.if_icmp .eq 5, 3) := by decide +kernel
theorem dX4_takeWord_102 : decode cX4_takeWord 102 = .ok (.iconst 0, 1) := by decide +kernel
theorem dX4_takeWord_103 : decode cX4_takeWord 103 = .ok (.ireturn, 1) := by decide +kernel
theorem dX4_takeWord_104 : decode cX4_takeWord 104 = .ok (.iinc 3 1, 3) := by decide +kernel
theorem dX4_takeWord_107 : decode cX4_takeWord 107 = .ok (.goto (-45), 3) := by decide +kernel
theorem dX4_takeWord_110 : decode cX4_takeWord 110 = .ok (.aload_n 0, 1) := by decide +kernel
theorem dX4_takeWord_111 : decode cX4_takeWord 111 = .ok (.aload_n 0, 1) := by decide +kernel
theorem dX4_takeWord_112 : decode cX4_takeWord 112 = .ok (.getfield 15, 3) := by decide +kernel
theorem dX4_takeWord_115 : decode cX4_takeWord 115 = .ok (.putfield 18, 3) := by decide +kernel
theorem dX4_takeWord_118 : decode cX4_takeWord 118 = .ok (.aload_n 0, 1) := by decide +kernel
theorem dX4_takeWord_119 : decode cX4_takeWord 119 = .ok (.iload_n 2, 1) := by decide +kernel
theorem dX4_takeWord_120 : decode cX4_takeWord 120 = .ok (.putfield 15, 3) := by decide +kernel
theorem dX4_takeWord_123 : decode cX4_takeWord 123 = .ok (.iconst 1, 1) := by decide +kernel
theorem dX4_takeWord_124 : decode cX4_takeWord 124 = .ok (.ireturn, 1) := by decide +kernel
set_option maxRecDepth 100000 in
theorem pq83 : Cond.initialized RJ0 ∈ pw := pw_mem (i := 83) (by decide +kernel) rfl
set_option maxRecDepth 100000 in
theorem pq84 : Cond.initialized RJ1 ∈ pw := pw_mem (i := 84) (by decide +kernel) rfl
set_option maxRecDepth 100000 in
theorem pq85 : Cond.initialized RJ3 ∈ pw := pw_mem (i := 85) (by decide +kernel) rfl
set_option maxRecDepth 100000 in
theorem pq181 : Cond.fieldLink RX4 171 "MaskTouch$Body" "flip" "I" ∈ pw := pw_mem (i := 181) (by decide +kernel) rfl
set_option maxRecDepth 100000 in
theorem pq185 : Cond.fieldLink RX4 175 "MaskTouch$Body" "own" "I" ∈ pw := pw_mem (i := 185) (by decide +kernel) rfl
set_option maxRecDepth 100000 in
theorem pq189 : Cond.fieldLink RX4 178 "MaskTouch$Body" "sees" "I" ∈ pw := pw_mem (i := 189) (by decide +kernel) rfl
set_option maxRecDepth 100000 in
theorem pq192 : Cond.fieldLink RX4 183 "MaskTouch$Body" "vx" "I" ∈ pw := pw_mem (i := 192) (by decide +kernel) rfl
set_option maxRecDepth 100000 in
theorem pq195 : Cond.fieldLink RX4 186 "MaskTouch$Body" "vy" "I" ∈ pw := pw_mem (i := 195) (by decide +kernel) rfl
set_option maxRecDepth 100000 in
theorem pq220 : Cond.fieldLink RX4 149 "MaskTouch$Field" "bodies" "[LMaskTouch$Body;" ∈ pw := pw_mem (i := 220) (by decide +kernel) rfl
set_option maxRecDepth 100000 in
theorem pq222 : Cond.fieldLink RX4 72 "MaskTouch$Field" "maskCount" "I" ∈ pw := pw_mem (i := 222) (by decide +kernel) rfl
set_option maxRecDepth 100000 in
theorem pq227 : Cond.fieldLink RX4 142 "MaskTouch$Field" "bodyCount" "I" ∈ pw := pw_mem (i := 227) (by decide +kernel) rfl
set_option maxRecDepth 100000 in
theorem pq250 : Cond.fieldLink RX4 18 "MaskTouch$Reader" "wordStart" "I" ∈ pw := pw_mem (i := 250) (by decide +kernel) rfl
set_option maxRecDepth 100000 in
theorem pq422 : Cond.methodLink RX4 51 yX4_takeWord ∈ pw := pw_mem (i := 422) (by decide +kernel) rfl
set_option maxRecDepth 100000 in
theorem pq423 : Cond.instanceMethod yX4_takeWord ∈ pw := pw_mem (i := 423) (by decide +kernel) rfl
set_option maxRecDepth 100000 in
theorem pq424 : Cond.selects RX4 yX4_takeWord yX4_takeWord ∈ pw := pw_mem (i := 424) (by decide +kernel) rfl
set_option maxRecDepth 100000 in
theorem pq425 : Cond.code yX4_takeWord cX4_takeWord 4 (some .boolean) ∈ pw := pw_mem (i := 425) (by rfl) rfl
set_option maxRecDepth 100000 in
theorem pq426 : Cond.methodLink RX4 190 yJ0_length_8abf5 ∈ pw := pw_mem (i := 426) (by decide +kernel) rfl
set_option maxRecDepth 100000 in
theorem pq427 : Cond.instanceMethod yJ0_length_8abf5 ∈ pw := pw_mem (i := 427) (by decide +kernel) rfl
set_option maxRecDepth 100000 in
theorem pq428 : Cond.selects RJ0 yJ0_length_8abf5 yJ0_length_8abf5 ∈ pw := pw_mem (i := 428) (by decide +kernel) rfl
set_option maxRecDepth 100000 in
theorem pq429 : Cond.code yJ0_length_8abf5 cJ0_length_8abf5 1 (some .int) ∈ pw := pw_mem (i := 429) (by rfl) rfl
set_option maxRecDepth 100000 in
theorem pq430 : Cond.methodLink RJ0 335 yJ0_coder_7d493 ∈ pw := pw_mem (i := 430) (by decide +kernel) rfl
set_option maxRecDepth 100000 in
theorem pq431 : Cond.instanceMethod yJ0_coder_7d493 ∈ pw := pw_mem (i := 431) (by decide +kernel) rfl
set_option maxRecDepth 100000 in
theorem pq432 : Cond.selects RJ0 yJ0_coder_7d493 yJ0_coder_7d493 ∈ pw := pw_mem (i := 432) (by decide +kernel) rfl
set_option maxRecDepth 100000 in
theorem pq433 : Cond.code yJ0_coder_7d493 cJ0_coder_7d493 1 (some .byte) ∈ pw := pw_mem (i := 433) (by rfl) rfl
set_option maxRecDepth 100000 in
theorem pq434 : Cond.fieldLink RJ0 38 "java/lang/String" "COMPACT_STRINGS" "Z" ∈ pw := pw_mem (i := 434) (by decide +kernel) rfl
set_option maxRecDepth 100000 in
theorem pq436 : Cond.methodLink RX4 194 yJ0_charAt_5068e ∈ pw := pw_mem (i := 436) (by decide +kernel) rfl
set_option maxRecDepth 100000 in
theorem pq437 : Cond.instanceMethod yJ0_charAt_5068e ∈ pw := pw_mem (i := 437) (by decide +kernel) rfl
set_option maxRecDepth 100000 in
theorem pq438 : Cond.selects RJ0 yJ0_charAt_5068e yJ0_charAt_5068e ∈ pw := pw_mem (i := 438) (by decide +kernel) rfl
set_option maxRecDepth 100000 in
theorem pq439 : Cond.code yJ0_charAt_5068e cJ0_charAt_5068e 2 (some .char) ∈ pw := pw_mem (i := 439) (by rfl) rfl
set_option maxRecDepth 100000 in
theorem pq440 : Cond.methodLink RJ0 492 yJ0_isLatin1_aae02 ∈ pw := pw_mem (i := 440) (by decide +kernel) rfl
set_option maxRecDepth 100000 in
theorem pq441 : Cond.instanceMethod yJ0_isLatin1_aae02 ∈ pw := pw_mem (i := 441) (by decide +kernel) rfl
set_option maxRecDepth 100000 in
theorem pq442 : Cond.selects RJ0 yJ0_isLatin1_aae02 yJ0_isLatin1_aae02 ∈ pw := pw_mem (i := 442) (by decide +kernel) rfl
set_option maxRecDepth 100000 in
theorem pq443 : Cond.code yJ0_isLatin1_aae02 cJ0_isLatin1_aae02 1 (some .boolean) ∈ pw := pw_mem (i := 443) (by rfl) rfl
set_option maxRecDepth 100000 in
theorem pq444 : Cond.methodLink RJ0 495 yJ1_charAt_3b067 ∈ pw := pw_mem (i := 444) (by decide +kernel) rfl
set_option maxRecDepth 100000 in
theorem pq445 : Cond.static yJ1_charAt_3b067 ∈ pw := pw_mem (i := 445) (by decide +kernel) rfl
set_option maxRecDepth 100000 in
theorem pq446 : Cond.code yJ1_charAt_3b067 cJ1_charAt_3b067 2 (some .char) ∈ pw := pw_mem (i := 446) (by rfl) rfl
set_option maxRecDepth 100000 in
theorem pq447 : Cond.methodLink RJ1 9 yJ0_checkIndex_df160 ∈ pw := pw_mem (i := 447) (by decide +kernel) rfl
set_option maxRecDepth 100000 in
theorem pq448 : Cond.static yJ0_checkIndex_df160 ∈ pw := pw_mem (i := 448) (by decide +kernel) rfl
set_option maxRecDepth 100000 in
theorem pq449 : Cond.code yJ0_checkIndex_df160 cJ0_checkIndex_df160 2 none ∈ pw := pw_mem (i := 449) (by rfl) rfl
set_option maxRecDepth 100000 in
theorem pq450 : Cond.fieldLink RJ0 1053 "jdk/internal/util/Preconditions" "SIOOBE_FORMATTER" "Ljava/util/function/BiFunction;" ∈ pw := pw_mem (i := 450) (by decide +kernel) rfl
set_option maxRecDepth 100000 in
theorem pq452 : Cond.methodLink RJ0 1059 yJ3_checkIndex_8e157 ∈ pw := pw_mem (i := 452) (by decide +kernel) rfl
set_option maxRecDepth 100000 in
theorem pq453 : Cond.static yJ3_checkIndex_8e157 ∈ pw := pw_mem (i := 453) (by decide +kernel) rfl
set_option maxRecDepth 100000 in
theorem pq454 : Cond.code yJ3_checkIndex_8e157 cJ3_checkIndex_8e157 3 (some .int) ∈ pw := pw_mem (i := 454) (by rfl) rfl
set_option maxRecDepth 100000 in
theorem pq562 : Cond.methodLink RX4 145 yX4_readSigned ∈ pw := pw_mem (i := 562) (by decide +kernel) rfl
set_option maxRecDepth 100000 in
theorem pq563 : Cond.instanceMethod yX4_readSigned ∈ pw := pw_mem (i := 563) (by decide +kernel) rfl
set_option maxRecDepth 100000 in
theorem pq564 : Cond.selects RX4 yX4_readSigned yX4_readSigned ∈ pw := pw_mem (i := 564) (by decide +kernel) rfl
set_option maxRecDepth 100000 in
theorem pq565 : Cond.code yX4_readSigned cX4_readSigned 3 (some .boolean) ∈ pw := pw_mem (i := 565) (by rfl) rfl
set_option maxRecDepth 100000 in
theorem pq566 : Cond.methodLink RX4 153 yX0_settle ∈ pw := pw_mem (i := 566) (by decide +kernel) rfl
set_option maxRecDepth 100000 in
theorem pq567 : Cond.instanceMethod yX0_settle ∈ pw := pw_mem (i := 567) (by decide +kernel) rfl
set_option maxRecDepth 100000 in
theorem pq568 : Cond.selects RX0 yX0_settle yX0_settle ∈ pw := pw_mem (i := 568) (by decide +kernel) rfl
set_option maxRecDepth 100000 in
theorem pq569 : Cond.code yX0_settle cX0_settle 4 none ∈ pw := pw_mem (i := 569) (by rfl) rfl
set_option maxRecDepth 100000 in
theorem pq570 : Cond.methodLink RX4 159 yX4_readFlip ∈ pw := pw_mem (i := 570) (by decide +kernel) rfl
set_option maxRecDepth 100000 in
theorem pq571 : Cond.instanceMethod yX4_readFlip ∈ pw := pw_mem (i := 571) (by decide +kernel) rfl
set_option maxRecDepth 100000 in
theorem pq572 : Cond.selects RX4 yX4_readFlip yX4_readFlip ∈ pw := pw_mem (i := 572) (by decide +kernel) rfl
set_option maxRecDepth 100000 in
theorem pq573 : Cond.code yX4_readFlip cX4_readFlip 2 (some .boolean) ∈ pw := pw_mem (i := 573) (by rfl) rfl
set_option maxRecDepth 100000 in
theorem pq575 : Cond.methodLink RX4 163 yX4_readLayers ∈ pw := pw_mem (i := 575) (by decide +kernel) rfl
set_option maxRecDepth 100000 in
theorem pq576 : Cond.instanceMethod yX4_readLayers ∈ pw := pw_mem (i := 576) (by decide +kernel) rfl
set_option maxRecDepth 100000 in
theorem pq577 : Cond.selects RX4 yX4_readLayers yX4_readLayers ∈ pw := pw_mem (i := 577) (by decide +kernel) rfl
set_option maxRecDepth 100000 in
theorem pq578 : Cond.code yX4_readLayers cX4_readLayers 2 (some .boolean) ∈ pw := pw_mem (i := 578) (by rfl) rfl
set_option maxRecDepth 100000 in
theorem pq580 : Cond.methodLink RX4 166 yX4_readMoves ∈ pw := pw_mem (i := 580) (by decide +kernel) rfl
set_option maxRecDepth 100000 in
theorem pq581 : Cond.instanceMethod yX4_readMoves ∈ pw := pw_mem (i := 581) (by decide +kernel) rfl
set_option maxRecDepth 100000 in
theorem pq582 : Cond.selects RX4 yX4_readMoves yX4_readMoves ∈ pw := pw_mem (i := 582) (by decide +kernel) rfl
set_option maxRecDepth 100000 in
theorem pq583 : Cond.code yX4_readMoves cX4_readMoves 2 (some .boolean) ∈ pw := pw_mem (i := 583) (by rfl) rfl
set_option maxRecDepth 100000 in
theorem pq1732 : Cond.fieldLink RJ0 9 "java/lang/String" "value" "[B" ∈ pw := pw_mem (i := 1732) (by decide +kernel) rfl
set_option maxRecDepth 100000 in
theorem pq1733 : Cond.fieldLink RJ0 15 "java/lang/String" "coder" "B" ∈ pw := pw_mem (i := 1733) (by decide +kernel) rfl
set_option maxHeartbeats 4000000 in
set_option maxRecDepth 100000 in
theorem s_J0_coder (l : Launch) (dC : Nat → ClassId) (dI : Nat → Nat → Nat) (cs : Nat → ClassId) (L : List Nat) (K : Nat → Nat) (Q : Nat → Nat → Option Nat) (sz : Nat) (I : Nat → Nat → Int32) (J : Nat → Nat → Int64) (p0 : Nat) (n0 : List Int32) : Met l yJ0_coder_7d493 (.code yJ0_coder_7d493 cJ0_coder_7d493 1 (some .byte) :: pw) ({ frames := 0, cells := 0, slots := 0, locals := 0 }) (sPX (dC, dI) cs [.ref p0] sz L K I J Q (fun _ => False) (fun A U H => sOK p0 n0 A U H ∧ tS A U H)) (va_Qi (fun (r : Int32) (_ : Unit) => ((0) ≤ r.toInt ∧ r.toInt ≤ 0)) (fun _ _ => True) (fun _ => False)) 0 0 (fun _ => False) := by
  refine va_MetF (l := l) (cc := cJ0_coder_7d493) (maxL := 1) (ret := (some .byte)) (by decide +kernel) rfl ?_
  intro p e s m args below meth c s₁ B hml hv
  obtain ⟨rfl, ⟨hsz, hP, hK, hD0, hN⟩, hXs⟩ := hv
  have hx := B.exec
  have hb := B.bytes
  have hr := B.returns
  have hts := fun w (h : w ∈ pw) => atoms_spec (ws := Cond.code yJ0_coder_7d493 cJ0_coder_7d493 1 (some .byte) :: pw) B.pre w (List.mem_cons_of_mem _ h)
  have hown : s.vm.findClass RJ0 = some m.cls := findClass_of_methodNamed B.named
  have hlocks := B.notSynchronized
  subst hsz
  have hD := hD0
  obtain ⟨hx_p0, hxt⟩ := hXs
  obtain ⟨H, hHe⟩ : ∃ H : Heap, H = s.heap := ⟨_, rfl⟩
  have hS : va_S (fun _ => False) s.heap H [] := by rw [hHe]; exact va_S.rf
  rw [← hHe] at hP
  have hl := lv_entry ([.ref p0]) (n := 1) (Nat.le_of_ble_eq_true rfl)
  rw [lg_entry_eq]
  generalize (lg_sl ([.ref p0]) ++ List.replicate (1 - (lg_sl ([.ref p0])).length) Slot.unset).toArray = ls at hl ⊢
  have hl : lv_has ls 1 [(0, .ref p0)] := hl
  rw [← hHe]
  refine namedW (fun R Qz hR hQz => ?_)
  refine va_gets hx hb hxt.1 hS hown (hts _ pq434) (fun _ h => h) dJ0_coder_7d493_0 ?_
  refine lv_if_eq (tgt := 13) hx hb dJ0_coder_7d493_3 (by decide) (fun c3 => by have t3 := tq_eq (k := (1)) (q := (0)) c3 (by decide +kernel) (by decide +kernel); omega) (fun c3 => ?_)
  have t3 := tq_ne (k := (1)) (q := (0)) c3 (by decide +kernel) (by decide +kernel)
  refine lv_aload_n hx hb dJ0_coder_7d493_6 rfl (lv_at hl 0 rfl) ?_
  refine vk_getf hx hb hx_p0.2.2.1 hS hown (hts _ pq1733) (fun _ h => h) dJ0_coder_7d493_7 ?_
  refine lv_goto (tgt := 14) hx hb dJ0_coder_7d493_10 (by decide) ?_
  subst hR; subst hQz
  exact W.zret (v := 0) hx hb hr (by decide +kernel) (fun t ht hW => ⟨⟨0, (), rfl, ⟨by decide +kernel, by decide +kernel⟩, trivial⟩, hS.F ht⟩) hS.2.2 dJ0_coder_7d493_14

set_option maxHeartbeats 4000000 in
set_option maxRecDepth 100000 in
theorem s_J0_length (l : Launch) (dC : Nat → ClassId) (dI : Nat → Nat → Nat) (cs : Nat → ClassId) (L : List Nat) (K : Nat → Nat) (Q : Nat → Nat → Option Nat) (sz : Nat) (I : Nat → Nat → Int32) (J : Nat → Nat → Int64) (p0 : Nat) (n0 : List Int32) : Met l yJ0_length_8abf5 (.code yJ0_length_8abf5 cJ0_length_8abf5 1 (some .int) :: pw) ({ frames := 1, cells := 0, slots := 0, locals := 20 }) (sPX (dC, dI) cs [.ref p0] sz L K I J Q (fun _ => False) (fun A U H => sOK p0 n0 A U H ∧ tS A U H)) (va_Qi (fun (r : Int32) (_ : Unit) => ((0) ≤ r.toInt ∧ r.toInt ≤ 2147483647) ∧ (r.toInt = (n0.length : Int))) (fun _ _ => True) (fun _ => False)) 0 0 (fun _ => False) := by
  refine va_MetF (l := l) (cc := cJ0_length_8abf5) (maxL := 1) (ret := (some .int)) (by decide +kernel) rfl ?_
  intro p e s m args below meth c s₁ B hml hv
  obtain ⟨rfl, ⟨hsz, hP, hK, hD0, hN⟩, hXs⟩ := hv
  have hx := B.exec
  have hb := B.bytes
  have hr := B.returns
  have hts := fun w (h : w ∈ pw) => atoms_spec (ws := Cond.code yJ0_length_8abf5 cJ0_length_8abf5 1 (some .int) :: pw) B.pre w (List.mem_cons_of_mem _ h)
  have hown : s.vm.findClass RJ0 = some m.cls := findClass_of_methodNamed B.named
  have hlocks := B.notSynchronized
  subst hsz
  have hD := hD0
  obtain ⟨hx_p0, hxt⟩ := hXs
  obtain ⟨H, hHe⟩ : ∃ H : Heap, H = s.heap := ⟨_, rfl⟩
  have hS : va_S (fun _ => False) s.heap H [] := by rw [hHe]; exact va_S.rf
  rw [← hHe] at hP
  have hl := lv_entry ([.ref p0]) (n := 1) (Nat.le_of_ble_eq_true rfl)
  rw [lg_entry_eq]
  generalize (lg_sl ([.ref p0]) ++ List.replicate (1 - (lg_sl ([.ref p0])).length) Slot.unset).toArray = ls at hl ⊢
  have hl : lv_has ls 1 [(0, .ref p0)] := hl
  rw [← hHe]
  refine namedW (fun R Qz hR hQz => ?_)
  refine lv_aload_n hx hb dJ0_length_8abf5_0 rfl (lv_at hl 0 rfl) ?_
  obtain ⟨y1, hv1, hT1⟩ := hx_p0.2.2.2
  have hx_y1 : bOK y1 n0 _ s s.heap := ⟨hx_p0.1, hT1⟩
  refine vk_getf hx hb hv1 hS hown (hts _ pq1732) (fun _ h => h) dJ0_length_8abf5_1 ?_
  have hT4 := hx_y1.2
  refine va_tlen hx hb hT4 hS rfl dJ0_length_8abf5_4 ?_
  refine lv_topi (fun z4 ez4 => ?_)
  have bz4 := str_len ez4 hx_y1.1.1
  refine lv_aload_n hx hb dJ0_length_8abf5_5 rfl (lv_at hl 0 rfl) ?_
  refine ro_i (va_runV (As := []) (rest := [.int z4]) ⟨hx, hb, hml, hown, hts⟩ (s_J0_coder l dC dI cs L K Q H.size I J p0 n0) (cwV 0 hts (gV pq430 pq431 pq432 pq83 pq433) rfl rfl rfl (by decide +kernel) ⟨(by rw [hR]; exact (Nat.le_of_ble_eq_true rfl)), (by rw [hR]; exact (Nat.le_of_ble_eq_true rfl))⟩) (sPX_VS hP hD hK hN hx_p0 (gX_and (gX_s _ _) gX_t) hS ⟨hx_p0, hxt⟩ (fun _ h => False.elim h)) rfl rfl hl.1 rfl (lv_room (Nat.le_of_ble_eq_true rfl)) dJ0_length_8abf5_6 ⟨(by rw [hR]; exact (Nat.le_of_ble_eq_true rfl)), (by rw [hR]; exact (Nat.le_of_ble_eq_true rfl))⟩) hS hP (fun z6 H locs hz6 hP hS => ?_)
  have bz6 := hz6
  refine lv_ishr hx hb dJ0_length_8abf5_9 ?_
  refine lv_topi (fun z9 ez9 => ?_)
  have bz9 := shr0 ez9 bz6
  subst hR; subst hQz
  exact W.iret (v := z9) hx hb hr (fun t ht hW => ⟨⟨z9, (), rfl, ⟨⟨by omega, by have := fb_rng z9; omega⟩, (by omega)⟩, trivial⟩, hS.F ht⟩) hS.2.2 dJ0_length_8abf5_10

set_option maxHeartbeats 4000000 in
set_option maxRecDepth 100000 in
theorem s_J0_isLatin1 (l : Launch) (dC : Nat → ClassId) (dI : Nat → Nat → Nat) (cs : Nat → ClassId) (L : List Nat) (K : Nat → Nat) (Q : Nat → Nat → Option Nat) (sz : Nat) (I : Nat → Nat → Int32) (J : Nat → Nat → Int64) (p0 : Nat) (n0 : List Int32) : Met l yJ0_isLatin1_aae02 (.code yJ0_isLatin1_aae02 cJ0_isLatin1_aae02 1 (some .boolean) :: pw) ({ frames := 0, cells := 0, slots := 0, locals := 0 }) (sPX (dC, dI) cs [.ref p0] sz L K I J Q (fun _ => False) (fun A U H => sOK p0 n0 A U H ∧ tS A U H)) (va_Qi (fun (r : Int32) (_ : Unit) => ((1) ≤ r.toInt ∧ r.toInt ≤ 1)) (fun _ _ => True) (fun _ => False)) 0 0 (fun _ => False) := by
  refine va_MetF (l := l) (cc := cJ0_isLatin1_aae02) (maxL := 1) (ret := (some .boolean)) (by decide +kernel) rfl ?_
  intro p e s m args below meth c s₁ B hml hv
  obtain ⟨rfl, ⟨hsz, hP, hK, hD0, hN⟩, hXs⟩ := hv
  have hx := B.exec
  have hb := B.bytes
  have hr := B.returns
  have hts := fun w (h : w ∈ pw) => atoms_spec (ws := Cond.code yJ0_isLatin1_aae02 cJ0_isLatin1_aae02 1 (some .boolean) :: pw) B.pre w (List.mem_cons_of_mem _ h)
  have hown : s.vm.findClass RJ0 = some m.cls := findClass_of_methodNamed B.named
  have hlocks := B.notSynchronized
  subst hsz
  have hD := hD0
  obtain ⟨hx_p0, hxt⟩ := hXs
  obtain ⟨H, hHe⟩ : ∃ H : Heap, H = s.heap := ⟨_, rfl⟩
  have hS : va_S (fun _ => False) s.heap H [] := by rw [hHe]; exact va_S.rf
  rw [← hHe] at hP
  have hl := lv_entry ([.ref p0]) (n := 1) (Nat.le_of_ble_eq_true rfl)
  rw [lg_entry_eq]
  generalize (lg_sl ([.ref p0]) ++ List.replicate (1 - (lg_sl ([.ref p0])).length) Slot.unset).toArray = ls at hl ⊢
  have hl : lv_has ls 1 [(0, .ref p0)] := hl
  rw [← hHe]
  refine namedW (fun R Qz hR hQz => ?_)
  refine va_gets hx hb hxt.1 hS hown (hts _ pq434) (fun _ h => h) dJ0_isLatin1_aae02_0 ?_
  refine lv_if_eq (tgt := 17) hx hb dJ0_isLatin1_aae02_3 (by decide) (fun c3 => by have t3 := tq_eq (k := (1)) (q := (0)) c3 (by decide +kernel) (by decide +kernel); omega) (fun c3 => ?_)
  have t3 := tq_ne (k := (1)) (q := (0)) c3 (by decide +kernel) (by decide +kernel)
  refine lv_aload_n hx hb dJ0_isLatin1_aae02_6 rfl (lv_at hl 0 rfl) ?_
  refine vk_getf hx hb hx_p0.2.2.1 hS hown (hts _ pq1733) (fun _ h => h) dJ0_isLatin1_aae02_7 ?_
  refine lv_if_ne (tgt := 17) hx hb dJ0_isLatin1_aae02_10 (by decide) (fun c10 => by have t10 := tq_ne (k := (0)) (q := (0)) c10 (by decide +kernel) (by decide +kernel); omega) (fun c10 => ?_)
  have t10 := tq_eq (k := (0)) (q := (0)) c10 (by decide +kernel) (by decide +kernel)
  refine lv_iconst (v := 1) hx hb dJ0_isLatin1_aae02_13 (by decide +kernel) ?_
  refine lv_goto (tgt := 18) hx hb dJ0_isLatin1_aae02_14 (by decide) ?_
  subst hR; subst hQz
  exact W.zret (v := 1) hx hb hr (by decide +kernel) (fun t ht hW => ⟨⟨1, (), rfl, ⟨by decide +kernel, by decide +kernel⟩, trivial⟩, hS.F ht⟩) hS.2.2 dJ0_isLatin1_aae02_18

set_option maxHeartbeats 4000000 in
set_option maxRecDepth 100000 in
theorem s_J3_checkIndexN (l : Launch) (dC : Nat → ClassId) (dI : Nat → Nat → Nat) (cs : Nat → ClassId) (L : List Nat) (K : Nat → Nat) (Q : Nat → Nat → Option Nat) (sz : Nat) (I : Nat → Nat → Int32) (J : Nat → Nat → Int64) (p0 : Int32) (bp0 : (0) ≤ p0.toInt ∧ p0.toInt ≤ 2147483647) (p1 : Int32) (hi : p0.toInt < p1.toInt) : Met l yJ3_checkIndex_8e157 (.code yJ3_checkIndex_8e157 cJ3_checkIndex_8e157 3 (some .int) :: pw) ({ frames := 0, cells := 0, slots := 0, locals := 0 }) (sP (dC, dI) cs [.int p0, .int p1, .null] sz L K I J Q) (va_Qi (fun (r : Int32) (_ : Unit) => True) (fun _ _ => True) (fun _ => False)) 0 0 (fun _ => False) := by
  refine va_MetF (l := l) (cc := cJ3_checkIndex_8e157) (maxL := 3) (ret := (some .int)) (by decide +kernel) rfl ?_
  intro p e s m args below meth c s₁ B hml hv
  obtain ⟨rfl, hsz, hP, hK, hD0, hN⟩ := hv
  have hx := B.exec
  have hb := B.bytes
  have hr := B.returns
  have hts := fun w (h : w ∈ pw) => atoms_spec (ws := Cond.code yJ3_checkIndex_8e157 cJ3_checkIndex_8e157 3 (some .int) :: pw) B.pre w (List.mem_cons_of_mem _ h)
  have hown : s.vm.findClass RJ3 = some m.cls := findClass_of_methodNamed B.named
  have hlocks := B.notSynchronized
  subst hsz
  have hD := hD0
  obtain ⟨H, hHe⟩ : ∃ H : Heap, H = s.heap := ⟨_, rfl⟩
  have hS : va_S (fun _ => False) s.heap H [] := by rw [hHe]; exact va_S.rf
  rw [← hHe] at hP
  have hl := lv_entry ([.int p0, .int p1, .null]) (n := 3) (Nat.le_of_ble_eq_true rfl)
  rw [lg_entry_eq]
  generalize (lg_sl ([.int p0, .int p1, .null]) ++ List.replicate (3 - (lg_sl ([.int p0, .int p1, .null])).length) Slot.unset).toArray = ls at hl ⊢
  have hl : lv_has ls 3 [(0, .int p0), (1, .int p1), (2, .null)] := hl
  rw [← hHe]
  refine namedW (fun R Qz hR hQz => ?_)
  refine lv_iload_n hx hb dJ3_checkIndex_8e157_0 rfl (lv_at hl 0 rfl) ?_
  refine lv_if_lt (tgt := 9) hx hb dJ3_checkIndex_8e157_1 (by decide) (fun c1 => by have t1 := tq_lt (k := p0.toInt) (q := (0)) c1 rfl (by decide +kernel); omega) (fun c1 => ?_)
  have t1 := tq_nlt (k := p0.toInt) (q := (0)) c1 rfl (by decide +kernel)
  refine lv_iload_n hx hb dJ3_checkIndex_8e157_4 rfl (lv_at hl 0 rfl) ?_
  refine lv_iload_n hx hb dJ3_checkIndex_8e157_5 rfl (lv_at hl 1 rfl) ?_
  refine lv_icmp_lt (tgt := 16) hx hb dJ3_checkIndex_8e157_6 (by decide) (fun c6 => ?_) (fun c6 => by have t6 := tq_nlt (k := p0.toInt) (q := p1.toInt) c6 rfl rfl; omega)
  have t6 := tq_lt (k := p0.toInt) (q := p1.toInt) c6 rfl rfl
  refine lv_iload_n hx hb dJ3_checkIndex_8e157_16 rfl (lv_at hl 0 rfl) ?_
  subst hR; subst hQz
  exact W.iret (v := p0) hx hb hr (fun t ht hW => ⟨⟨p0, (), rfl, trivial, trivial⟩, hS.F ht⟩) hS.2.2 dJ3_checkIndex_8e157_17

set_option maxHeartbeats 4000000 in
set_option maxRecDepth 100000 in
theorem s_J3_checkIndexR (l : Launch) (dC : Nat → ClassId) (dI : Nat → Nat → Nat) (cs : Nat → ClassId) (L : List Nat) (K : Nat → Nat) (Q : Nat → Nat → Option Nat) (sz : Nat) (I : Nat → Nat → Int32) (J : Nat → Nat → Int64) (p0 : Int32) (bp0 : (0) ≤ p0.toInt ∧ p0.toInt ≤ 2147483647) (p1 : Int32) (p2 : Nat) (hi : p0.toInt < p1.toInt) : Met l yJ3_checkIndex_8e157 (.code yJ3_checkIndex_8e157 cJ3_checkIndex_8e157 3 (some .int) :: pw) ({ frames := 0, cells := 0, slots := 0, locals := 0 }) (sP (dC, dI) cs [.int p0, .int p1, .ref p2] sz L K I J Q) (va_Qi (fun (r : Int32) (_ : Unit) => True) (fun _ _ => True) (fun _ => False)) 0 0 (fun _ => False) := by
  refine va_MetF (l := l) (cc := cJ3_checkIndex_8e157) (maxL := 3) (ret := (some .int)) (by decide +kernel) rfl ?_
  intro p e s m args below meth c s₁ B hml hv
  obtain ⟨rfl, hsz, hP, hK, hD0, hN⟩ := hv
  have hx := B.exec
  have hb := B.bytes
  have hr := B.returns
  have hts := fun w (h : w ∈ pw) => atoms_spec (ws := Cond.code yJ3_checkIndex_8e157 cJ3_checkIndex_8e157 3 (some .int) :: pw) B.pre w (List.mem_cons_of_mem _ h)
  have hown : s.vm.findClass RJ3 = some m.cls := findClass_of_methodNamed B.named
  have hlocks := B.notSynchronized
  subst hsz
  have hD := hD0
  obtain ⟨H, hHe⟩ : ∃ H : Heap, H = s.heap := ⟨_, rfl⟩
  have hS : va_S (fun _ => False) s.heap H [] := by rw [hHe]; exact va_S.rf
  rw [← hHe] at hP
  have hl := lv_entry ([.int p0, .int p1, .ref p2]) (n := 3) (Nat.le_of_ble_eq_true rfl)
  rw [lg_entry_eq]
  generalize (lg_sl ([.int p0, .int p1, .ref p2]) ++ List.replicate (3 - (lg_sl ([.int p0, .int p1, .ref p2])).length) Slot.unset).toArray = ls at hl ⊢
  have hl : lv_has ls 3 [(0, .int p0), (1, .int p1), (2, .ref p2)] := hl
  rw [← hHe]
  refine namedW (fun R Qz hR hQz => ?_)
  refine lv_iload_n hx hb dJ3_checkIndex_8e157_0 rfl (lv_at hl 0 rfl) ?_
  refine lv_if_lt (tgt := 9) hx hb dJ3_checkIndex_8e157_1 (by decide) (fun c1 => by have t1 := tq_lt (k := p0.toInt) (q := (0)) c1 rfl (by decide +kernel); omega) (fun c1 => ?_)
  have t1 := tq_nlt (k := p0.toInt) (q := (0)) c1 rfl (by decide +kernel)
  refine lv_iload_n hx hb dJ3_checkIndex_8e157_4 rfl (lv_at hl 0 rfl) ?_
  refine lv_iload_n hx hb dJ3_checkIndex_8e157_5 rfl (lv_at hl 1 rfl) ?_
  refine lv_icmp_lt (tgt := 16) hx hb dJ3_checkIndex_8e157_6 (by decide) (fun c6 => ?_) (fun c6 => by have t6 := tq_nlt (k := p0.toInt) (q := p1.toInt) c6 rfl rfl; omega)
  have t6 := tq_lt (k := p0.toInt) (q := p1.toInt) c6 rfl rfl
  refine lv_iload_n hx hb dJ3_checkIndex_8e157_16 rfl (lv_at hl 0 rfl) ?_
  subst hR; subst hQz
  exact W.iret (v := p0) hx hb hr (fun t ht hW => ⟨⟨p0, (), rfl, trivial, trivial⟩, hS.F ht⟩) hS.2.2 dJ3_checkIndex_8e157_17

set_option maxHeartbeats 4000000 in
set_option maxRecDepth 100000 in
theorem s_J0_checkIndex (l : Launch) (dC : Nat → ClassId) (dI : Nat → Nat → Nat) (cs : Nat → ClassId) (L : List Nat) (K : Nat → Nat) (Q : Nat → Nat → Option Nat) (sz : Nat) (I : Nat → Nat → Int32) (J : Nat → Nat → Int64) (p0 : Int32) (bp0 : (0) ≤ p0.toInt ∧ p0.toInt ≤ 2147483647) (p1 : Int32) (hi : p0.toInt < p1.toInt) : Met l yJ0_checkIndex_df160 (.code yJ0_checkIndex_df160 cJ0_checkIndex_df160 2 none :: pw) ({ frames := 1, cells := 0, slots := 0, locals := 22 }) (sPX (dC, dI) cs [.int p0, .int p1] sz L K I J Q (fun _ => False) (fun A U H => tS A U H)) (va_Qv (fun (_ : Unit) => True) (fun _ _ => True) (fun _ => False)) 0 0 (fun _ => False) := by
  refine va_MetF (l := l) (cc := cJ0_checkIndex_df160) (maxL := 2) (ret := none) (by decide +kernel) rfl ?_
  intro p e s m args below meth c s₁ B hml hv
  obtain ⟨rfl, ⟨hsz, hP, hK, hD0, hN⟩, hXs⟩ := hv
  have hx := B.exec
  have hb := B.bytes
  have hr := B.returns
  have hts := fun w (h : w ∈ pw) => atoms_spec (ws := Cond.code yJ0_checkIndex_df160 cJ0_checkIndex_df160 2 none :: pw) B.pre w (List.mem_cons_of_mem _ h)
  have hown : s.vm.findClass RJ0 = some m.cls := findClass_of_methodNamed B.named
  have hlocks := B.notSynchronized
  subst hsz
  have hD := hD0
  have hxt := hXs
  obtain ⟨H, hHe⟩ : ∃ H : Heap, H = s.heap := ⟨_, rfl⟩
  have hS : va_S (fun _ => False) s.heap H [] := by rw [hHe]; exact va_S.rf
  rw [← hHe] at hP
  have hl := lv_entry ([.int p0, .int p1]) (n := 2) (Nat.le_of_ble_eq_true rfl)
  rw [lg_entry_eq]
  generalize (lg_sl ([.int p0, .int p1]) ++ List.replicate (2 - (lg_sl ([.int p0, .int p1])).length) Slot.unset).toArray = ls at hl ⊢
  have hl : lv_has ls 2 [(0, .int p0), (1, .int p1)] := hl
  rw [← hHe]
  refine namedW (fun R Qz hR hQz => ?_)
  refine lv_iload_n hx hb dJ0_checkIndex_df160_0 rfl (lv_at hl 0 rfl) ?_
  refine lv_iload_n hx hb dJ0_checkIndex_df160_1 rfl (lv_at hl 1 rfl) ?_
  rcases hxt.2 with hq2 | ⟨y2, hq2⟩
  · refine va_gets hx hb hq2 hS hown (hts _ pq450) (fun _ h => h) dJ0_checkIndex_df160_2 ?_
    refine ro_i (va_runS (As := [.int p0, .int p1, .null]) (rest := []) ⟨hx, hb, hml, hown, hts⟩ (s_J3_checkIndexN l dC dI cs L K Q H.size I J p0 ⟨by omega, by have := fb_rng p0; omega⟩ p1 hi) (va_cwS 3 hts (gS pq452 pq453 pq85 pq454) rfl rfl rfl (by decide +kernel) ⟨(by rw [hR]; exact (Nat.le_of_ble_eq_true rfl)), (by rw [hR]; exact (Nat.le_of_ble_eq_true rfl))⟩) (sP_S hP hD hK hN) rfl rfl hl.1 rfl (lv_room (Nat.le_of_ble_eq_true rfl)) dJ0_checkIndex_df160_5 ⟨(by rw [hR]; exact (Nat.le_of_ble_eq_true rfl)), (by rw [hR]; exact (Nat.le_of_ble_eq_true rfl))⟩) hS hP (fun z5 H locs hz5 hP hS => ?_)
    refine lv_pop hx hb dJ0_checkIndex_df160_8 rfl ?_
    subst hR; subst hQz
    exact W.vret hx hb hr (fun t ht hW => ⟨⟨(), rfl, trivial, trivial⟩, hS.F ht⟩) hS.2.2 dJ0_checkIndex_df160_9
  · refine va_gets hx hb hq2 hS hown (hts _ pq450) (fun _ h => h) dJ0_checkIndex_df160_2 ?_
    refine ro_i (va_runS (As := [.int p0, .int p1, .ref y2]) (rest := []) ⟨hx, hb, hml, hown, hts⟩ (s_J3_checkIndexR l dC dI cs L K Q H.size I J p0 ⟨by omega, by have := fb_rng p0; omega⟩ p1 y2 hi) (va_cwS 3 hts (gS pq452 pq453 pq85 pq454) rfl rfl rfl (by decide +kernel) ⟨(by rw [hR]; exact (Nat.le_of_ble_eq_true rfl)), (by rw [hR]; exact (Nat.le_of_ble_eq_true rfl))⟩) (sP_S hP hD hK hN) rfl rfl hl.1 rfl (lv_room (Nat.le_of_ble_eq_true rfl)) dJ0_checkIndex_df160_5 ⟨(by rw [hR]; exact (Nat.le_of_ble_eq_true rfl)), (by rw [hR]; exact (Nat.le_of_ble_eq_true rfl))⟩) hS hP (fun z5 H locs hz5 hP hS => ?_)
    refine lv_pop hx hb dJ0_checkIndex_df160_8 rfl ?_
    subst hR; subst hQz
    exact W.vret hx hb hr (fun t ht hW => ⟨⟨(), rfl, trivial, trivial⟩, hS.F ht⟩) hS.2.2 dJ0_checkIndex_df160_9

set_option maxHeartbeats 4000000 in
set_option maxRecDepth 100000 in
theorem s_J1_charAt (l : Launch) (dC : Nat → ClassId) (dI : Nat → Nat → Nat) (cs : Nat → ClassId) (L : List Nat) (K : Nat → Nat) (Q : Nat → Nat → Option Nat) (sz : Nat) (I : Nat → Nat → Int32) (J : Nat → Nat → Int64) (p0 : Nat) (n0 : List Int32) (p1 : Int32) (bp1 : (0) ≤ p1.toInt ∧ p1.toInt ≤ 2147483647) (hi : p1.toInt < (n0.length : Int)) : Met l yJ1_charAt_3b067 (.code yJ1_charAt_3b067 cJ1_charAt_3b067 2 (some .char) :: pw) ({ frames := 2, cells := 0, slots := 0, locals := 43 }) (sPX (dC, dI) cs [.ref p0, .int p1] sz L K I J Q (fun _ => False) (fun A U H => bOK p0 n0 A U H ∧ tS A U H)) (va_Qi (fun (r : Int32) (_ : Unit) => (narrow .char (.int r) = .int r ∧ r = n0.getD p1.toInt.toNat 0)) (fun _ _ => True) (fun _ => False)) 0 0 (fun _ => False) := by
  refine va_MetF (l := l) (cc := cJ1_charAt_3b067) (maxL := 2) (ret := (some .char)) (by decide +kernel) rfl ?_
  intro p e s m args below meth c s₁ B hml hv
  obtain ⟨rfl, ⟨hsz, hP, hK, hD0, hN⟩, hXs⟩ := hv
  have hx := B.exec
  have hb := B.bytes
  have hr := B.returns
  have hts := fun w (h : w ∈ pw) => atoms_spec (ws := Cond.code yJ1_charAt_3b067 cJ1_charAt_3b067 2 (some .char) :: pw) B.pre w (List.mem_cons_of_mem _ h)
  have hown : s.vm.findClass RJ1 = some m.cls := findClass_of_methodNamed B.named
  have hlocks := B.notSynchronized
  subst hsz
  have hD := hD0
  obtain ⟨hx_p0, hxt⟩ := hXs
  obtain ⟨H, hHe⟩ : ∃ H : Heap, H = s.heap := ⟨_, rfl⟩
  have hS : va_S (fun _ => False) s.heap H [] := by rw [hHe]; exact va_S.rf
  rw [← hHe] at hP
  have hl := lv_entry ([.ref p0, .int p1]) (n := 2) (Nat.le_of_ble_eq_true rfl)
  rw [lg_entry_eq]
  generalize (lg_sl ([.ref p0, .int p1]) ++ List.replicate (2 - (lg_sl ([.ref p0, .int p1])).length) Slot.unset).toArray = ls at hl ⊢
  have hl : lv_has ls 2 [(0, .ref p0), (1, .int p1)] := hl
  rw [← hHe]
  refine namedW (fun R Qz hR hQz => ?_)
  refine lv_iload_n hx hb dJ1_charAt_3b067_0 rfl (lv_at hl 1 rfl) ?_
  refine lv_aload_n hx hb dJ1_charAt_3b067_1 rfl (lv_at hl 0 rfl) ?_
  have hT2 := hx_p0.2
  refine va_tlen hx hb hT2 hS rfl dJ1_charAt_3b067_2 ?_
  refine lv_topi (fun z2 ez2 => ?_)
  have bz2 := str_len ez2 hx_p0.1.1
  refine ro_v (va_runS (As := [.int p1, .int z2]) (rest := []) ⟨hx, hb, hml, hown, hts⟩ (s_J0_checkIndex l dC dI cs L K Q H.size I J p1 ⟨by omega, by have := fb_rng p1; omega⟩ z2 (by omega)) (va_cwS 2 hts (gS pq447 pq448 pq83 pq449) rfl rfl rfl (by decide +kernel) ⟨(by rw [hR]; exact (Nat.le_of_ble_eq_true rfl)), (by rw [hR]; exact (Nat.le_of_ble_eq_true rfl))⟩) (sPX_S hP hD hK hN gX_t hS hxt (fun _ h => False.elim h)) rfl rfl hl.1 rfl (lv_room (Nat.le_of_ble_eq_true rfl)) dJ1_charAt_3b067_3 ⟨(by rw [hR]; exact (Nat.le_of_ble_eq_true rfl)), (by rw [hR]; exact (Nat.le_of_ble_eq_true rfl))⟩) hS hP (fun H locs hP hS => ?_)
  refine lv_aload_n hx hb dJ1_charAt_3b067_6 rfl (lv_at hl 0 rfl) ?_
  refine lv_iload_n hx hb dJ1_charAt_3b067_7 rfl (lv_at hl 1 rfl) ?_
  have hT8 := hx_p0.2
  refine va_tb hx hb hT8 hS (in_of (by omega) (by omega)) rfl dJ1_charAt_3b067_8 ?_
  refine lv_topi (fun z8 ez8 => ?_)
  refine lv_sipush (v := 255) hx hb dJ1_charAt_3b067_9 (by decide +kernel) ?_
  refine lv_iand hx hb dJ1_charAt_3b067_12 ?_
  refine lv_topi (fun z12 ez12 => ?_)
  have bz12 := tq_and 8 ez12 (by decide +kernel) (by decide)
  refine lv_i2c hx hb dJ1_charAt_3b067_13 rfl ?_
  refine lv_topi (fun z13 ez13 => ?_)
  subst hR; subst hQz
  exact W.zret (v := z13) hx hb hr (by rw [ez13]; exact pk_nc _) (fun t ht hW => ⟨⟨z13, (), rfl, ⟨by rw [ez13]; exact pk_nc _, by rw [ez13, ez12, ez8]; exact hx_p0.1.2 p1.toInt.toNat (by omega)⟩, trivial⟩, hS.F ht⟩) hS.2.2 dJ1_charAt_3b067_14

set_option maxHeartbeats 4000000 in
set_option maxRecDepth 100000 in
theorem s_J0_charAt (l : Launch) (dC : Nat → ClassId) (dI : Nat → Nat → Nat) (cs : Nat → ClassId) (L : List Nat) (K : Nat → Nat) (Q : Nat → Nat → Option Nat) (sz : Nat) (I : Nat → Nat → Int32) (J : Nat → Nat → Int64) (p0 : Nat) (n0 : List Int32) (p1 : Int32) (bp1 : (0) ≤ p1.toInt ∧ p1.toInt ≤ 2147483647) (hi : p1.toInt < (n0.length : Int)) : Met l yJ0_charAt_5068e (.code yJ0_charAt_5068e cJ0_charAt_5068e 2 (some .char) :: pw) ({ frames := 3, cells := 0, slots := 0, locals := 64 }) (sPX (dC, dI) cs [.ref p0, .int p1] sz L K I J Q (fun _ => False) (fun A U H => sOK p0 n0 A U H ∧ tS A U H)) (va_Qi (fun (r : Int32) (_ : Unit) => (r = n0.getD p1.toInt.toNat 0)) (fun _ _ => True) (fun _ => False)) 0 0 (fun _ => False) := by
  refine va_MetF (l := l) (cc := cJ0_charAt_5068e) (maxL := 2) (ret := (some .char)) (by decide +kernel) rfl ?_
  intro p e s m args below meth c s₁ B hml hv
  obtain ⟨rfl, ⟨hsz, hP, hK, hD0, hN⟩, hXs⟩ := hv
  have hx := B.exec
  have hb := B.bytes
  have hr := B.returns
  have hts := fun w (h : w ∈ pw) => atoms_spec (ws := Cond.code yJ0_charAt_5068e cJ0_charAt_5068e 2 (some .char) :: pw) B.pre w (List.mem_cons_of_mem _ h)
  have hown : s.vm.findClass RJ0 = some m.cls := findClass_of_methodNamed B.named
  have hlocks := B.notSynchronized
  subst hsz
  have hD := hD0
  obtain ⟨hx_p0, hxt⟩ := hXs
  obtain ⟨H, hHe⟩ : ∃ H : Heap, H = s.heap := ⟨_, rfl⟩
  have hS : va_S (fun _ => False) s.heap H [] := by rw [hHe]; exact va_S.rf
  rw [← hHe] at hP
  have hl := lv_entry ([.ref p0, .int p1]) (n := 2) (Nat.le_of_ble_eq_true rfl)
  rw [lg_entry_eq]
  generalize (lg_sl ([.ref p0, .int p1]) ++ List.replicate (2 - (lg_sl ([.ref p0, .int p1])).length) Slot.unset).toArray = ls at hl ⊢
  have hl : lv_has ls 2 [(0, .ref p0), (1, .int p1)] := hl
  rw [← hHe]
  refine namedW (fun R Qz hR hQz => ?_)
  refine lv_aload_n hx hb dJ0_charAt_5068e_0 rfl (lv_at hl 0 rfl) ?_
  refine ro_i (va_runV (As := []) (rest := []) ⟨hx, hb, hml, hown, hts⟩ (s_J0_isLatin1 l dC dI cs L K Q H.size I J p0 n0) (cwV 0 hts (gV pq440 pq441 pq442 pq83 pq443) rfl rfl rfl (by decide +kernel) ⟨(by rw [hR]; exact (Nat.le_of_ble_eq_true rfl)), (by rw [hR]; exact (Nat.le_of_ble_eq_true rfl))⟩) (sPX_VS hP hD hK hN hx_p0 (gX_and (gX_s _ _) gX_t) hS ⟨hx_p0, hxt⟩ (fun _ h => False.elim h)) rfl rfl hl.1 rfl (lv_room (Nat.le_of_ble_eq_true rfl)) dJ0_charAt_5068e_1 ⟨(by rw [hR]; exact (Nat.le_of_ble_eq_true rfl)), (by rw [hR]; exact (Nat.le_of_ble_eq_true rfl))⟩) hS hP (fun z1 H locs hz1 hP hS => ?_)
  have bz1 := hz1
  refine lv_if_eq (tgt := 16) hx hb dJ0_charAt_5068e_4 (by decide) (fun c4 => by have t4 := tq_eq (k := z1.toInt) (q := (0)) c4 rfl (by decide +kernel); omega) (fun c4 => ?_)
  have t4 := tq_ne (k := z1.toInt) (q := (0)) c4 rfl (by decide +kernel)
  refine lv_aload_n hx hb dJ0_charAt_5068e_7 rfl (lv_at hl 0 rfl) ?_
  obtain ⟨y8, hv8, hT8⟩ := hx_p0.2.2.2
  have hx_y8 : bOK y8 n0 _ s s.heap := ⟨hx_p0.1, hT8⟩
  refine vk_getf hx hb hv8 hS hown (hts _ pq1732) (fun _ h => h) dJ0_charAt_5068e_8 ?_
  refine lv_iload_n hx hb dJ0_charAt_5068e_11 rfl (lv_at hl 1 rfl) ?_
  refine ro_i (va_runS (As := [.ref y8, .int p1]) (rest := []) ⟨hx, hb, hml, hown, hts⟩ (s_J1_charAt l dC dI cs L K Q H.size I J y8 n0 p1 ⟨by omega, by have := fb_rng p1; omega⟩ hi) (va_cwS 2 hts (gS pq444 pq445 pq84 pq446) rfl rfl rfl (by decide +kernel) ⟨(by rw [hR]; exact (Nat.le_of_ble_eq_true rfl)), (by rw [hR]; exact (Nat.le_of_ble_eq_true rfl))⟩) (sPX_S hP hD hK hN (gX_and (gX_b _ _) gX_t) hS ⟨hx_y8, hxt⟩ (fun _ h => False.elim h)) rfl rfl hl.1 rfl (lv_room (Nat.le_of_ble_eq_true rfl)) dJ0_charAt_5068e_12 ⟨(by rw [hR]; exact (Nat.le_of_ble_eq_true rfl)), (by rw [hR]; exact (Nat.le_of_ble_eq_true rfl))⟩) hS hP (fun z12 H locs hz12 hP hS => ?_)
  have xpz12 := hz12
  subst hR; subst hQz
  exact W.zret (v := z12) hx hb hr (xpz12.1) (fun t ht hW => ⟨⟨z12, (), rfl, xpz12.2, trivial⟩, hS.F ht⟩) hS.2.2 dJ0_charAt_5068e_15

theorem tw_no {t : Int → Int} {w : List Int32} {i : Int} (h : ¬ wr t (sk t i) - sk t i = w.length) : ¬ tw t w i := fun q => h q.1
theorem tw_ne {t : Int → Int} {w : List Int32} {i : Int} {k : Nat} (hk : k < w.length) (h : ¬ t (sk t i + k) = (w.getD k 0).toInt) : ¬ tw t w i := fun q => h (q.2 k hk)

theorem tw_step {f : Nat → Int32} {n s v v2 b : Int} {z : Int32} {w : List Int32} (h : ∀ k : Nat, (k : Int) < v → tb f n (s + k) = (w.getD k 0).toInt) (h0 : 0 ≤ v) (hs : 0 ≤ s) (hb : b = s + v) (hn : b < n) (e : z = f b.toNat) (hz : z.toInt = (w.getD v.toNat 0).toInt) (h2 : v2 = v + 1) : ∀ k : Nat, (k : Int) < v2 → tb f n (s + k) = (w.getD k 0).toInt := fun k hk => by
  rcases Int.lt_or_le (k : Int) v with q | q
  · exact h k q
  · obtain rfl : k = v.toNat := by omega
    rw [show s + (v.toNat : Int) = b by omega, tb_at (by omega) hn e]; exact hz

set_option maxHeartbeats 4000000 in
set_option maxRecDepth 100000 in
theorem s_X4_takeWord (l : Launch) (dC : Nat → ClassId) (dI : Nat → Nat → Nat) (cs : Nat → ClassId) (L : List Nat) (K G : Nat → Nat) (Q : Nat → Nat → Option Nat) (hQ : Sv L K G Q) (x0 m0 : Nat) (tx : GT) (tm : GT × Int) (sz : Nat) (I : Nat → Nat → Int32) (J : Nat → Nat → Int64) (hI : Iv L K x0 m0 tx tm I) (p0 : Nat) (hLp0 : p0 ∈ L) (hKp0 : K p0 = 4) (p1 : Nat) (n1 : List Int32) : Met l yX4_takeWord (.code yX4_takeWord cX4_takeWord 4 (some .boolean) :: pw) ({ frames := 4, cells := 0, slots := 0, locals := 85 }) (sPX (dC, dI) cs [.ref p0, .ref p1] sz L K I J Q (fun q => q ∈ L ∨ sz ≤ q) (fun A U H => sOK p1 n1 A U H ∧ tS A U H)) (va_Qi (fun (r : Int32) (u : Int32) => u = r ∧ ((0) ≤ r.toInt ∧ r.toInt ≤ 1)) (fun u t => sB (dC, dI) cs L K Q (fun I1 J1 => Iv L K x0 m0 tx tm I1 ∧ (∀ b, ¬ (b = p0) → I1 b = I b) ∧ rdW tx.2.2 I I1 p0 u n1 ∧ J1 = J) t) (fun q => q ∈ L ∨ sz ≤ q)) 0 0 (fun q => q ∈ L ∨ sz ≤ q) := by
  refine Met.ofW (cc := cX4_takeWord) (maxL := 4) (ret := (some .boolean)) (by decide +kernel) rfl ?_
  intro p e s m args below meth c s₁ B hml hv
  obtain ⟨rfl, ⟨hsz, hP, hK, hD0, hN⟩, hXs⟩ := hv
  have hx := B.exec
  have hb := B.bytes
  have hr := B.returns
  have hts := fun w (h : w ∈ pw) => atoms_spec (ws := Cond.code yX4_takeWord cX4_takeWord 4 (some .boolean) :: pw) B.pre w (List.mem_cons_of_mem _ h)
  have hown : s.vm.findClass RX4 = some m.cls := findClass_of_methodNamed B.named
  have hlocks := B.notSynchronized
  subst hsz
  have hBB : 999 ≤ tm.2 ∧ tm.2 ≤ 6000000 := hI.2.2.2.2.1
  have dj_J : J = J := rfl
  have fr_I : ∀ b, ¬ (b = p0) → I b = I b := fun _ _ => rfl
  obtain ⟨A, hAe⟩ : ∃ A : Nat → Prop, A = (fun q => q ∈ L ∨ s.heap.size ≤ q) := ⟨_, rfl⟩
  rw [← hAe]
  have hAL : ∀ q, q ∈ L → A q := fun q h => by rw [hAe]; exact Or.inl h
  have hA : ∀ q, s.heap.size ≤ q → A q := fun q h => by rw [hAe]; exact Or.inr h
  have hD : ∀ F, va_D A (va_pl L F) := fun F => (hD0 F).weaken (fun k q hk _ => hAL _ (pl_mem hk))
  rw [← hAe] at hXs
  obtain ⟨hx_p1, hxt⟩ := hXs
  obtain ⟨H, hHe⟩ : ∃ H : Heap, H = s.heap := ⟨_, rfl⟩
  have hS : va_S A s.heap H [] := by rw [hHe]; exact va_S.rf
  rw [← hHe] at hP
  have hl := lv_entry ([.ref p0, .ref p1]) (n := 4) (Nat.le_of_ble_eq_true rfl)
  rw [lg_entry_eq]
  generalize (lg_sl ([.ref p0, .ref p1]) ++ List.replicate (4 - (lg_sl ([.ref p0, .ref p1])).length) Slot.unset).toArray = ls at hl ⊢
  have hl : lv_has ls 4 [(0, .ref p0), (1, .ref p1)] := hl
  rw [← hHe]
  refine namedW (fun R Qz hR hQz => ?_)
  refine lv_aload_n hx hb dX4_takeWord_0 rfl (lv_at hl 0 rfl) ?_
  refine sw_v (Z := (fun I1 J1 => Iv L K x0 m0 tx tm I1 ∧ (∀ b, ¬ (b = p0) → I1 b = I b) ∧ I1 p0 1 = I p0 1 ∧ I1 p0 4 = I p0 4 ∧ rdA I I1 p0 (sk (tb tx.2.2 (I p0 1).toInt) (I p0 2).toInt) ∧ J1 = J)) (va_runV (As := []) (rest := []) ⟨hx, hb, hml, hown, hts⟩ (s_X4_skipBlanks l dC dI cs L K G Q hQ x0 m0 tx tm H.size I J hI p0 hLp0 hKp0) (cwV 0 hts (gV pq417 pq418 pq419 pq78 pq420) rfl rfl rfl (by decide +kernel) ⟨(by rw [hR]; exact (Nat.le_of_ble_eq_true rfl)), (by rw [hR]; exact (Nat.le_of_ble_eq_true rfl))⟩) (sP_V hP hD hK hN hLp0 hKp0 rfl rfl) rfl rfl hl.1 rfl (lv_room (Nat.le_of_ble_eq_true rfl)) dX4_takeWord_1 ⟨(by rw [hR]; exact (Nat.le_of_ble_eq_true rfl)), (by rw [hR]; exact (Nat.le_of_ble_eq_true rfl))⟩) hS hAL hA (fun Iz1 Jz1 H locs hz1 hIz1 hP hS => ?_)
  obtain ⟨hIz1, frc1, kc1_0_1, kc1_0_4, fz1, djc1⟩ := hIz1
  obtain rfl : J = Jz1 := djc1.symm
  have fr_Iz1 : ∀ b, ¬ (b = p0) → Iz1 b = I b := fun b q => (frc1 b (fun z => q (z))).trans (fr_I b q)
  refine lv_aload_n hx hb dX4_takeWord_4 rfl (lv_at hl 0 rfl) ?_
  refine p_get hx hb hts inX4 hown hK hP hLp0 hKp0 rfl rfl 2 (by decide) (hts _ pq249) rfl dX4_takeWord_5 ?_
  refine lv_topi (fun z5 ez5 => ?_)
  have cgz5 := congrArg Int32.toInt ez5
  have bz5 := oI_4_2 (Iv_at hIz1 hLp0 hKp0)
  rw [← ez5] at bz5
  have e5 : z5.toInt = (sk (tb tx.2.2 (I p0 1).toInt) (I p0 2).toInt) := cgz5.trans fz1.1
  have e1 : Iz1 p0 1 = I p0 1 := fz1.2.1
  refine lv_istore_n (lv' := [(2, .int z5), (0, .ref p0), (1, .ref p1)]) hx hb dX4_takeWord_8 rfl hl (by decide) rfl (fun ls hl => ?_)
  have key9 := blocks (fun n => ∀ (v9_2 : Int32) (H : Heap) (lo : List Loc) (ls : Array Slot), (401 - v9_2.toInt).toNat = n → ((0) ≤ v9_2.toInt ∧ v9_2.toInt ≤ 400) → (z5.toInt ≤ v9_2.toInt ∧ ∀ k, z5.toInt ≤ k → k < v9_2.toInt → pL ((tb tx.2.2 (I p0 1).toInt) k) = true) → va_P (dC, dI) vwCl (Wd cs L K Iz1 J Q) H → va_S A s.heap H lo → lv_has ls 4 [(0, .ref p0), (1, .ref p1), (2, .int v9_2)] → W p l e R s m (([.ref p0, .ref p1] : List Value).toArray) below meth c H lo 0 0 Qz (F0 m 9 ls [])) (by
    intro n ih9
    intro v9_2 H lo ls hmu9 bv9_2 hw9 hP hS hl
    refine lv_iload_n hx hb dX4_takeWord_9 rfl (lv_at hl 2 rfl) ?_
    refine lv_aload_n hx hb dX4_takeWord_10 rfl (lv_at hl 0 rfl) ?_
    refine p_get hx hb hts inX4 hown hK hP hLp0 hKp0 rfl rfl 1 (by decide) (hts _ pq248) rfl dX4_takeWord_11 ?_
    refine lv_topi (fun z11 ez11 => ?_)
    have bz11 := oI_4_1 (Iv_at hIz1 hLp0 hKp0)
    rw [← ez11] at bz11
    have j45 : ∀ (H : Heap) (lo : List Loc) (ls : Array Slot), v9_2.toInt = wr (tb tx.2.2 (I p0 1).toInt) z5.toInt → va_P (dC, dI) vwCl (Wd cs L K Iz1 J Q) H → va_S A s.heap H lo → lv_has ls 4 [(0, .ref p0), (1, .ref p1), (2, .int v9_2)] → W p l e R s m (([.ref p0, .ref p1] : List Value).toArray) below meth c H lo 0 0 Qz (F0 m 45 ls []) := by
      intro H lo ls h45 hP hS hl
      refine lv_iload_n hx hb dX4_takeWord_45 rfl (lv_at hl 2 rfl) ?_
      refine lv_aload_n hx hb dX4_takeWord_46 rfl (lv_at hl 0 rfl) ?_
      refine p_get hx hb hts inX4 hown hK hP hLp0 hKp0 rfl rfl 2 (by decide) (hts _ pq249) rfl dX4_takeWord_47 ?_
      refine lv_topi (fun z47 ez47 => ?_)
      obtain rfl : z5 = z47 := ez5.trans ez47.symm
      refine lv_isub hx hb dX4_takeWord_50 ?_
      refine lv_topi (fun z50 ez50 => ?_)
      have bz50 := tq_sub (k := v9_2.toInt) (q := z5.toInt) ez50 rfl rfl (by omega) (by omega)
      refine lv_aload_n hx hb dX4_takeWord_51 rfl (lv_at hl 1 rfl) ?_
      refine ro_i (va_runV (As := []) (rest := [.int z50]) ⟨hx, hb, hml, hown, hts⟩ (s_J0_length l dC dI cs L K Q H.size Iz1 J p1 n1) (cwV 0 hts (gV pq426 pq427 pq428 pq83 pq429) rfl rfl rfl (by decide +kernel) ⟨(by rw [hR]; exact (Nat.le_of_ble_eq_true rfl)), (by rw [hR]; exact (Nat.le_of_ble_eq_true rfl))⟩) (sPX_VS hP hD hK hN hx_p1 (gX_and (gX_s _ _) gX_t) hS ⟨hx_p1, hxt⟩ (fun _ h => False.elim h)) rfl rfl hl.1 rfl (lv_room (Nat.le_of_ble_eq_true rfl)) dX4_takeWord_52 ⟨(by rw [hR]; exact (Nat.le_of_ble_eq_true rfl)), (by rw [hR]; exact (Nat.le_of_ble_eq_true rfl))⟩) hS hP (fun z52 H locs hz52 hP hS => ?_)
      obtain ⟨bz52, xpz52⟩ := hz52
      refine lv_icmp_eq (tgt := 60) hx hb dX4_takeWord_55 (by decide) (fun c55 => ?_) (fun c55 => ?_)
      · have t55 := tq_eq (k := z50.toInt) (q := z52.toInt) c55 rfl rfl
        refine lv_iconst (v := 0) hx hb dX4_takeWord_60 (by decide +kernel) ?_
        refine lv_istore_n (lv' := [(3, .int 0), (0, .ref p0), (1, .ref p1), (2, .int v9_2)]) hx hb dX4_takeWord_61 rfl hl (by decide) rfl (fun ls hl => ?_)
        have key62 := blocks (fun n => ∀ (v62_3 : Int32) (H : Heap) (lo : List Loc) (ls : Array Slot), (401 - v62_3.toInt).toNat = n → ((0) ≤ v62_3.toInt ∧ v62_3.toInt ≤ 400) → (∀ k : Nat, (k : Int) < v62_3.toInt → (tb tx.2.2 (I p0 1).toInt) (z5.toInt + k) = (n1.getD k 0).toInt) → va_P (dC, dI) vwCl (Wd cs L K Iz1 J Q) H → va_S A s.heap H lo → lv_has ls 4 [(0, .ref p0), (1, .ref p1), (2, .int v9_2), (3, .int v62_3)] → W p l e R s m (([.ref p0, .ref p1] : List Value).toArray) below meth c H lo 0 0 Qz (F0 m 62 ls [])) (by
          intro n ih62
          intro v62_3 H lo ls hmu62 bv62_3 h62 hP hS hl
          refine lv_iload_n hx hb dX4_takeWord_62 rfl (lv_at hl 3 rfl) ?_
          refine lv_aload_n hx hb dX4_takeWord_63 rfl (lv_at hl 1 rfl) ?_
          refine ro_i (va_runV (As := []) (rest := [.int v62_3]) ⟨hx, hb, hml, hown, hts⟩ (s_J0_length l dC dI cs L K Q H.size Iz1 J p1 n1) (cwV 0 hts (gV pq426 pq427 pq428 pq83 pq429) rfl rfl rfl (by decide +kernel) ⟨(by rw [hR]; exact (Nat.le_of_ble_eq_true rfl)), (by rw [hR]; exact (Nat.le_of_ble_eq_true rfl))⟩) (sPX_VS hP hD hK hN hx_p1 (gX_and (gX_s _ _) gX_t) hS ⟨hx_p1, hxt⟩ (fun _ h => False.elim h)) rfl rfl hl.1 rfl (lv_room (Nat.le_of_ble_eq_true rfl)) dX4_takeWord_64 ⟨(by rw [hR]; exact (Nat.le_of_ble_eq_true rfl)), (by rw [hR]; exact (Nat.le_of_ble_eq_true rfl))⟩) hS hP (fun z64 H locs hz64 hP hS => ?_)
          obtain ⟨bz64, xpz64⟩ := hz64
          have j110 : ∀ (H : Heap) (lo : List Loc) (ls : Array Slot), (n1.length : Int) ≤ v62_3.toInt → va_P (dC, dI) vwCl (Wd cs L K Iz1 J Q) H → va_S A s.heap H lo → lv_has ls 4 [(0, .ref p0), (1, .ref p1), (2, .int v9_2), (3, .int v62_3)] → W p l e R s m (([.ref p0, .ref p1] : List Value).toArray) below meth c H lo 0 0 Qz (F0 m 110 ls []) := by
            intro H lo ls h110 hP hS hl
            refine lv_aload_n hx hb dX4_takeWord_110 rfl (lv_at hl 0 rfl) ?_
            refine lv_aload_n hx hb dX4_takeWord_111 rfl (lv_at hl 0 rfl) ?_
            refine p_get hx hb hts inX4 hown hK hP hLp0 hKp0 rfl rfl 2 (by decide) (hts _ pq249) rfl dX4_takeWord_112 ?_
            refine lv_topi (fun z112 ez112 => ?_)
            obtain rfl : z5 = z112 := ez5.trans ez112.symm
            refine p_put hx hb hts inX4 tyX4 tyX4_ok nmX4 hown hK hP hD hS hLp0 hKp0 rfl rfl 3 (by decide) (hts _ pq250) rfl (by decide +kernel) (Nat.le_of_ble_eq_true rfl) (oS_4_3 cs _ _ _ _) dX4_takeWord_115 (fun H locs hP hS => ?_)
            obtain ⟨Iz115, hP, hIz115, qIz115⟩ : ∃ Iz115, va_P (dC, dI) vwCl (Wd cs L K Iz115 J Q) H ∧ Iv L K x0 m0 tx tm Iz115 ∧ Iz115 = va_up Iz1 p0 (upd (Iz1 p0) 3 z5) := ⟨_, hP, Iv_put hIz1 hKp0 (oP_4_3 (Iv_at hIz1 hLp0 hKp0) ⟨by omega, by omega⟩) (by decide) (by decide), rfl⟩
            have fr_Iz115 : ∀ b, ¬ (b = p0) → Iz115 b = I b := fun b q => (congrFun qIz115 b).trans ((va_up_ne _ _ (fun z => q z)).trans (fr_Iz1 b q))
            refine lv_aload_n hx hb dX4_takeWord_118 rfl (lv_at hl 0 rfl) ?_
            refine lv_iload_n hx hb dX4_takeWord_119 rfl (lv_at hl 2 rfl) ?_
            refine p_put hx hb hts inX4 tyX4 tyX4_ok nmX4 hown hK hP hD hS hLp0 hKp0 rfl rfl 2 (by decide) (hts _ pq249) rfl (by decide +kernel) (Nat.le_of_ble_eq_true rfl) (oS_4_2 cs _ _ _ _) dX4_takeWord_120 (fun H locs hP hS => ?_)
            obtain ⟨Iz120, hP, hIz120, qIz120⟩ : ∃ Iz120, va_P (dC, dI) vwCl (Wd cs L K Iz120 J Q) H ∧ Iv L K x0 m0 tx tm Iz120 ∧ Iz120 = va_up Iz115 p0 (upd (Iz115 p0) 2 v9_2) := ⟨_, hP, Iv_put hIz115 hKp0 (oP_4_2 (Iv_at hIz115 hLp0 hKp0) ⟨by omega, by omega⟩) (by decide) (by decide), rfl⟩
            have fr_Iz120 : ∀ b, ¬ (b = p0) → Iz120 b = I b := fun b q => (congrFun qIz120 b).trans ((va_up_ne _ _ (fun z => q z)).trans (fr_Iz115 b q))
            refine lv_iconst (v := 1) hx hb dX4_takeWord_123 (by decide +kernel) ?_
            subst hR; subst hQz
            exact W.zret (v := 1) hx hb hr (by decide +kernel) (fun t ht hW => ⟨⟨1, 1, rfl, ⟨rfl, ⟨by decide +kernel, by decide +kernel⟩⟩, ⟨Iz120, J, ⟨hIz120, fr_Iz120, ⟨fun _ => ⟨by decide +kernel, ⟨by rw [qIz120, rz_at, h45, e5], by rw [qIz120, rz_fr _ _ _ _ (by decide), qIz115, rz_fr _ _ _ _ (by decide)]; exact fz1.2.1, by rw [qIz120, rz_fr _ _ _ _ (by decide), qIz115, rz_fr _ _ _ _ (by decide)]; exact fz1.2.2⟩, by rw [qIz120, rz_fr _ _ _ _ (by decide), qIz115, rz_at]; omega⟩, fun h => absurd ⟨by rw [← e5, ← h45]; omega, fun k hk => by rw [← e5]; exact h62 k (by omega)⟩ h⟩, dj_J⟩, by rw [ht]; exact hP⟩⟩, hS.F ht⟩) hS.2.2 dX4_takeWord_124
          refine lv_icmp_ge (tgt := 110) hx hb dX4_takeWord_67 (by decide) (fun c67 => ?_) (fun c67 => ?_)
          · have t67 := tq_le (k := z64.toInt) (q := v62_3.toInt) c67 rfl rfl
            exact j110  _ _ _ (by omega) hP hS (lv_sub hl [0, 1, 2, 3] rfl)
          · have t67 := tq_nle (k := z64.toInt) (q := v62_3.toInt) c67 rfl rfl
            refine lv_aload_n hx hb dX4_takeWord_70 rfl (lv_at hl 0 rfl) ?_
            refine p_get hx hb hts inX4 hown hK hP hLp0 hKp0 rfl rfl 2 (by decide) (hts _ pq249) rfl dX4_takeWord_71 ?_
            refine lv_topi (fun z71 ez71 => ?_)
            obtain rfl : z5 = z71 := ez5.trans ez71.symm
            refine lv_iload_n hx hb dX4_takeWord_74 rfl (lv_at hl 3 rfl) ?_
            refine lv_iadd hx hb dX4_takeWord_75 ?_
            refine lv_topi (fun z75 ez75 => ?_)
            have bz75 := tq_add (k := z5.toInt) (q := v62_3.toInt) ez75 rfl rfl (by omega) (by omega)
            refine lv_aload_n hx hb dX4_takeWord_76 rfl (lv_at hl 0 rfl) ?_
            refine p_get hx hb hts inX4 hown hK hP hLp0 hKp0 rfl rfl 1 (by decide) (hts _ pq248) rfl dX4_takeWord_77 ?_
            refine lv_topi (fun z77 ez77 => ?_)
            obtain rfl : z11 = z77 := ez11.trans ez77.symm
            refine lv_icmp_ge (tgt := 110) hx hb dX4_takeWord_80 (by decide) (fun c80 => ?_) (fun c80 => ?_)
            · have t80 := tq_le (k := z11.toInt) (q := z75.toInt) c80 rfl rfl
              exact j110  _ _ _ (by have q : wr (tb tx.2.2 (I p0 1).toInt) z5.toInt ≤ (I p0 1).toInt := rn_len2 (by decide) (show ¬ wr (tb tx.2.2 (I p0 1).toInt) z5.toInt - z5.toInt = 0 by rw [← h45]; omega); rw [← h45] at q; have w := congrArg Int32.toInt (ez11.trans e1); omega) hP hS (lv_sub hl [0, 1, 2, 3] rfl)
            · have t80 := tq_nle (k := z11.toInt) (q := z75.toInt) c80 rfl rfl
              refine lv_aload_n hx hb dX4_takeWord_83 rfl (lv_at hl 0 rfl) ?_
              obtain ⟨y84, ey84, hLy84, hKy84⟩ := oQ_4_0 (Sv_at hQ hLp0 hKp0)
              refine p_get (v := .ref y84) hx hb hts inX4 hown hK hP hLp0 hKp0 rfl rfl 0 (by decide) (hts _ pq247) (congrArg (fun q => some (va_rf q)) ey84) dX4_takeWord_84 ?_
              refine lv_aload_n hx hb dX4_takeWord_87 rfl (lv_at hl 0 rfl) ?_
              refine p_get hx hb hts inX4 hown hK hP hLp0 hKp0 rfl rfl 2 (by decide) (hts _ pq249) rfl dX4_takeWord_88 ?_
              refine lv_topi (fun z88 ez88 => ?_)
              obtain rfl : z5 = z88 := ez5.trans ez88.symm
              refine lv_iload_n hx hb dX4_takeWord_91 rfl (lv_at hl 3 rfl) ?_
              refine lv_iadd hx hb dX4_takeWord_92 ?_
              refine lv_topi (fun z92 ez92 => ?_)
              have bz92 := tq_add (k := z5.toInt) (q := v62_3.toInt) ez92 rfl rfl (by omega) (by omega)
              refine p_bald hx hb hK hP 0 hLy84 hKy84 rfl rfl (in_of (by omega) (by omega)) dX4_takeWord_93 ?_
              refine lv_topi (fun z93 ez93 => ?_)
              have tz93 : z93 = tx.2.2 (z92).toInt.toNat := ez93.trans (congrFun (hIz1.2.2.2.2.2.1 y84 hLy84 hKy84).2.1 _)
              refine lv_aload_n hx hb dX4_takeWord_94 rfl (lv_at hl 1 rfl) ?_
              refine lv_iload_n hx hb dX4_takeWord_95 rfl (lv_at hl 3 rfl) ?_
              refine ro_i (va_runV (As := [.int v62_3]) (rest := [.int z93]) ⟨hx, hb, hml, hown, hts⟩ (s_J0_charAt l dC dI cs L K Q H.size Iz1 J p1 n1 v62_3 ⟨by omega, by have := fb_rng v62_3; omega⟩ (by omega)) (cwV 1 hts (gV pq436 pq437 pq438 pq83 pq439) rfl rfl rfl (by decide +kernel) ⟨(by rw [hR]; exact (Nat.le_of_ble_eq_true rfl)), (by rw [hR]; exact (Nat.le_of_ble_eq_true rfl))⟩) (sPX_VS hP hD hK hN hx_p1 (gX_and (gX_s _ _) gX_t) hS ⟨hx_p1, hxt⟩ (fun _ h => False.elim h)) rfl rfl hl.1 rfl (lv_room (Nat.le_of_ble_eq_true rfl)) dX4_takeWord_96 ⟨(by rw [hR]; exact (Nat.le_of_ble_eq_true rfl)), (by rw [hR]; exact (Nat.le_of_ble_eq_true rfl))⟩) hS hP (fun z96 H locs hz96 hP hS => ?_)
              have xpz96 := hz96
              refine lv_icmp_eq (tgt := 104) hx hb dX4_takeWord_99 (by decide) (fun c99 => ?_) (fun c99 => ?_)
              · have t99 := tq_eq (k := z93.toInt) (q := z96.toInt) c99 rfl rfl
                obtain ⟨z104, ez104⟩ : ∃ y : Int32, y = v62_3 + 1 := ⟨_, rfl⟩
                refine lv_iinc (v := z104) (lv' := [(3, .int z104), (0, .ref p0), (1, .ref p1), (2, .int v9_2)]) hx hb dX4_takeWord_104 hl (k := 3) rfl (by rw [ez104]; rfl) (by decide) rfl (fun ls hl => ?_)
                have bz104 := tq_add (k := v62_3.toInt) (q := 1) ez104 rfl (by decide +kernel) (by omega) (by omega)
                refine lv_goto (tgt := 62) hx hb dX4_takeWord_107 (by decide) ?_
                exact ih62 _ (by omega) z104 _ _ _ rfl ⟨by omega, by omega⟩ (tw_step h62 (z := z93) (by omega) (by omega) (by rw [bz92]) (by rw [← e1, ← ez11]; omega) tz93 (t99.trans (congrArg Int32.toInt xpz96)) (by omega)) hP hS (lv_sub hl [1, 2, 3, 0] rfl)
              · have t99 := tq_ne (k := z93.toInt) (q := z96.toInt) c99 rfl rfl
                refine lv_iconst (v := 0) hx hb dX4_takeWord_102 (by decide +kernel) ?_
                subst hR; subst hQz
                exact W.zret (v := 0) hx hb hr (by decide +kernel) (fun t ht hW => ⟨⟨0, 0, rfl, ⟨rfl, ⟨by decide +kernel, by decide +kernel⟩⟩, ⟨Iz1, J, ⟨hIz1, fr_Iz1, ⟨fun h => absurd h (by first | exact tw_no (by rw [← e5, ← h45]; omega) | exact tw_ne (k := v62_3.toInt.toNat) (by omega) (by rw [← e5, tb_at (z := z93) (by omega) (by rw [← e1, ← ez11]; omega) (by rw [show z5.toInt + (v62_3.toInt.toNat : Int) = z92.toInt by omega]; exact tz93)]; rw [← congrArg Int32.toInt xpz96]; exact t99)), fun _ => ⟨by decide +kernel, (show rdA I Iz1 p0 (sk (tb tx.2.2 (I p0 1).toInt) (I p0 2).toInt) from fz1)⟩⟩, dj_J⟩, by rw [ht]; exact hP⟩⟩, hS.F ht⟩) hS.2.2 dX4_takeWord_103)
        exact key62 _ 0 _ _ _ rfl ⟨by decide +kernel, by decide +kernel⟩ (fun k hk => absurd hk (by rw [show (0 : Int32).toInt = 0 from by decide +kernel]; omega)) hP hS (lv_sub hl [1, 2, 3, 0] rfl)
      · have t55 := tq_ne (k := z50.toInt) (q := z52.toInt) c55 rfl rfl
        refine lv_iconst (v := 0) hx hb dX4_takeWord_58 (by decide +kernel) ?_
        subst hR; subst hQz
        exact W.zret (v := 0) hx hb hr (by decide +kernel) (fun t ht hW => ⟨⟨0, 0, rfl, ⟨rfl, ⟨by decide +kernel, by decide +kernel⟩⟩, ⟨Iz1, J, ⟨hIz1, fr_Iz1, ⟨fun h => absurd h (by first | exact tw_no (by rw [← e5, ← h45]; omega) | exact tw_ne (k := v62_3.toInt.toNat) (by omega) (by rw [← e5, tb_at (z := z93) (by omega) (by rw [← e1, ← ez11]; omega) (by rw [show z5.toInt + (v62_3.toInt.toNat : Int) = z92.toInt by omega]; exact tz93)]; rw [← congrArg Int32.toInt xpz96]; exact t99)), fun _ => ⟨by decide +kernel, (show rdA I Iz1 p0 (sk (tb tx.2.2 (I p0 1).toInt) (I p0 2).toInt) from fz1)⟩⟩, dj_J⟩, by rw [ht]; exact hP⟩⟩, hS.F ht⟩) hS.2.2 dX4_takeWord_59
    refine lv_icmp_ge (tgt := 45) hx hb dX4_takeWord_14 (by decide) (fun c14 => ?_) (fun c14 => ?_)
    · have t14 := tq_le (k := z11.toInt) (q := v9_2.toInt) c14 rfl rfl
      exact j45  _ _ _ (rn_out (by decide) hw9.1 (by omega) hw9.2 (by rw [← e1, ← ez11]; omega)) hP hS (lv_sub hl [0, 1, 2] rfl)
    · have t14 := tq_nle (k := z11.toInt) (q := v9_2.toInt) c14 rfl rfl
      refine lv_aload_n hx hb dX4_takeWord_17 rfl (lv_at hl 0 rfl) ?_
      obtain ⟨y18, ey18, hLy18, hKy18⟩ := oQ_4_0 (Sv_at hQ hLp0 hKp0)
      refine p_get (v := .ref y18) hx hb hts inX4 hown hK hP hLp0 hKp0 rfl rfl 0 (by decide) (hts _ pq247) (congrArg (fun q => some (va_rf q)) ey18) dX4_takeWord_18 ?_
      refine lv_iload_n hx hb dX4_takeWord_21 rfl (lv_at hl 2 rfl) ?_
      refine p_bald hx hb hK hP 0 hLy18 hKy18 rfl rfl (in_of (by omega) (by omega)) dX4_takeWord_22 ?_
      refine lv_topi (fun z22 ez22 => ?_)
      have tz22 : z22 = tx.2.2 (v9_2).toInt.toNat := ez22.trans (congrFun (hIz1.2.2.2.2.2.1 y18 hLy18 hKy18).2.1 _)
      refine lv_bipush (v := 97) hx hb dX4_takeWord_23 (by decide +kernel) ?_
      refine lv_icmp_lt (tgt := 45) hx hb dX4_takeWord_25 (by decide) (fun c25 => ?_) (fun c25 => ?_)
      · have t25 := tq_lt (k := z22.toInt) (q := (97)) c25 rfl (by decide +kernel)
        exact j45  _ _ _ (rn_hit (z := z22) hw9.1 (by omega) hw9.2 (by omega) (by rw [← e1, ← ez11]; omega) tz22 (decide_eq_false (fun h => by omega))) hP hS (lv_sub hl [0, 1, 2] rfl)
      · have t25 := tq_nlt (k := z22.toInt) (q := (97)) c25 rfl (by decide +kernel)
        refine lv_aload_n hx hb dX4_takeWord_28 rfl (lv_at hl 0 rfl) ?_
        refine p_get (v := .ref y18) hx hb hts inX4 hown hK hP hLp0 hKp0 rfl rfl 0 (by decide) (hts _ pq247) (congrArg (fun q => some (va_rf q)) ey18) dX4_takeWord_29 ?_
        refine lv_iload_n hx hb dX4_takeWord_32 rfl (lv_at hl 2 rfl) ?_
        refine p_bald hx hb hK hP 0 hLy18 hKy18 rfl rfl (in_of (by omega) (by omega)) dX4_takeWord_33 ?_
        refine lv_topi (fun z33 ez33 => ?_)
        obtain rfl : z22 = z33 := ez22.trans ez33.symm
        refine lv_bipush (v := 122) hx hb dX4_takeWord_34 (by decide +kernel) ?_
        refine lv_icmp_gt (tgt := 45) hx hb dX4_takeWord_36 (by decide) (fun c36 => ?_) (fun c36 => ?_)
        · have t36 := tq_lt (k := (122)) (q := z22.toInt) c36 (by decide +kernel) rfl
          exact j45  _ _ _ (rn_hit (z := z22) hw9.1 (by omega) hw9.2 (by omega) (by rw [← e1, ← ez11]; omega) tz22 (decide_eq_false (fun h => by omega))) hP hS (lv_sub hl [0, 1, 2] rfl)
        · have t36 := tq_nlt (k := (122)) (q := z22.toInt) c36 (by decide +kernel) rfl
          obtain ⟨z39, ez39⟩ : ∃ y : Int32, y = v9_2 + 1 := ⟨_, rfl⟩
          refine lv_iinc (v := z39) (lv' := [(2, .int z39), (0, .ref p0), (1, .ref p1)]) hx hb dX4_takeWord_39 hl (k := 2) rfl (by rw [ez39]; rfl) (by decide) rfl (fun ls hl => ?_)
          have bz39 := tq_add (k := v9_2.toInt) (q := 1) ez39 rfl (by decide +kernel) (by omega) (by omega)
          refine lv_goto (tgt := 9) hx hb dX4_takeWord_42 (by decide) ?_
          exact ih9 _ (by omega) z39 _ _ _ rfl ⟨by omega, by omega⟩ ⟨by omega, rn_step (z := z22) hw9.2 (by omega) (by rw [← e1, ← ez11]; omega) tz22 (decide_eq_true ⟨by omega, by omega⟩) (by omega)⟩ hP hS (lv_sub hl [1, 2, 0] rfl))
  exact key9 _ z5 _ _ _ rfl ⟨by omega, by omega⟩ ⟨Int.le_refl _, rn_nil (Int.le_refl _)⟩ hP hS (lv_sub hl [1, 2, 0] rfl)

set_option maxHeartbeats 4000000 in
set_option maxRecDepth 100000 in
theorem s_X4_readFlip (l : Launch) (dC : Nat → ClassId) (dI : Nat → Nat → Nat) (cs : Nat → ClassId) (L : List Nat) (K G : Nat → Nat) (Q : Nat → Nat → Option Nat) (hQ : Sv L K G Q) (x0 m0 : Nat) (tx : GT) (tm : GT × Int) (sz : Nat) (I : Nat → Nat → Int32) (J : Nat → Nat → Int64) (hI : Iv L K x0 m0 tx tm I) (p0 : Nat) (hLp0 : p0 ∈ L) (hKp0 : K p0 = 4) (p1 : Nat) (hLp1 : p1 ∈ L) (hKp1 : K p1 = 0) : Met l yX4_readFlip (.code yX4_readFlip cX4_readFlip 2 (some .boolean) :: pw) ({ frames := 5, cells := 0, slots := 0, locals := 108 }) (sPX (dC, dI) cs [.ref p0, .ref p1] sz L K I J Q (fun q => q ∈ L ∨ sz ≤ q) (fun A U H => xS A U H)) (va_Qi (fun (r : Int32) (u : Int32) => u = r ∧ ((0) ≤ r.toInt ∧ r.toInt ≤ 1)) (fun u t => sB (dC, dI) cs L K Q (fun I1 J1 => Iv L K x0 m0 tx tm I1 ∧ (∀ b, ¬ (b = p0 ∨ b = p1) → I1 b = I b) ∧ rdP I I1 p0 u (pfl (tb tx.2.2 (I p0 1).toInt) (I p0 2).toInt) ∧ (¬ u.toInt = 0 → I1 p1 = flT (tb tx.2.2 (I p0 1).toInt) (I p0 2).toInt (I p1)) ∧ J1 = J) t) (fun q => q ∈ L ∨ sz ≤ q)) 0 0 (fun q => q ∈ L ∨ sz ≤ q) := by
  refine Met.ofW (cc := cX4_readFlip) (maxL := 2) (ret := (some .boolean)) (by decide +kernel) rfl ?_
  intro p e s m args below meth c s₁ B hml hv
  obtain ⟨rfl, ⟨hsz, hP, hK, hD0, hN⟩, hXs⟩ := hv
  have hx := B.exec
  have hb := B.bytes
  have hr := B.returns
  have hts := fun w (h : w ∈ pw) => atoms_spec (ws := Cond.code yX4_readFlip cX4_readFlip 2 (some .boolean) :: pw) B.pre w (List.mem_cons_of_mem _ h)
  have hown : s.vm.findClass RX4 = some m.cls := findClass_of_methodNamed B.named
  have hlocks := B.notSynchronized
  subst hsz
  have hBB : 999 ≤ tm.2 ∧ tm.2 ≤ 6000000 := hI.2.2.2.2.1
  have dj_J : J = J := rfl
  have fr_I : ∀ b, ¬ (b = p0 ∨ b = p1) → I b = I b := fun _ _ => rfl
  obtain ⟨A, hAe⟩ : ∃ A : Nat → Prop, A = (fun q => q ∈ L ∨ s.heap.size ≤ q) := ⟨_, rfl⟩
  rw [← hAe]
  have hAL : ∀ q, q ∈ L → A q := fun q h => by rw [hAe]; exact Or.inl h
  have hA : ∀ q, s.heap.size ≤ q → A q := fun q h => by rw [hAe]; exact Or.inr h
  have hD : ∀ F, va_D A (va_pl L F) := fun F => (hD0 F).weaken (fun k q hk _ => hAL _ (pl_mem hk))
  rw [← hAe] at hXs
  have hxx := hXs
  have hxt := hxx.1
  obtain ⟨H, hHe⟩ : ∃ H : Heap, H = s.heap := ⟨_, rfl⟩
  have hS : va_S A s.heap H [] := by rw [hHe]; exact va_S.rf
  rw [← hHe] at hP
  have hl := lv_entry ([.ref p0, .ref p1]) (n := 2) (Nat.le_of_ble_eq_true rfl)
  rw [lg_entry_eq]
  generalize (lg_sl ([.ref p0, .ref p1]) ++ List.replicate (2 - (lg_sl ([.ref p0, .ref p1])).length) Slot.unset).toArray = ls at hl ⊢
  have hl : lv_has ls 2 [(0, .ref p0), (1, .ref p1)] := hl
  rw [← hHe]
  refine namedW (fun R Qz hR hQz => ?_)
  refine lv_aload_n hx hb dX4_readFlip_0 rfl (lv_at hl 0 rfl) ?_
  obtain ⟨y1, hv1, hx_y1⟩ := hxx.2 (RX4, 169, "flip", wFlip) (by simp [lits])
  dsimp only at hv1 hx_y1
  refine va_ldcS hx hb hown hv1 dX4_readFlip_1 ?_
  refine sw_ir (Z := (fun u => (fun I1 J1 => Iv L K x0 m0 tx tm I1 ∧ (∀ b, ¬ (b = p0) → I1 b = I b) ∧ rdW tx.2.2 I I1 p0 u wFlip ∧ J1 = J))) (va_runV (As := [.ref y1]) (rest := []) ⟨hx, hb, hml, hown, hts⟩ (s_X4_takeWord l dC dI cs L K G Q hQ x0 m0 tx tm H.size I J hI p0 hLp0 hKp0 y1 wFlip) (cwV 1 hts (gV pq422 pq423 pq424 pq78 pq425) rfl rfl rfl (by decide +kernel) ⟨(by rw [hR]; exact (Nat.le_of_ble_eq_true rfl)), (by rw [hR]; exact (Nat.le_of_ble_eq_true rfl))⟩) (sPX_V hP hD hK hN hLp0 hKp0 rfl rfl (gX_and (gX_s _ _) gX_t) hS ⟨hx_y1, hxt⟩ (fun q h => h.elim (hAL q) (fun h => hA q (Nat.le_trans hS.1 h)))) rfl rfl hl.1 rfl (lv_room (Nat.le_of_ble_eq_true rfl)) dX4_readFlip_3 ⟨(by rw [hR]; exact (Nat.le_of_ble_eq_true rfl)), (by rw [hR]; exact (Nat.le_of_ble_eq_true rfl))⟩) hS hAL hA (fun z3 Iz3 Jz3 H locs hz3 hIz3 hP hS => ?_)
  obtain ⟨hIz3, frc3, fz3, djc3⟩ := hIz3
  obtain rfl : J = Jz3 := djc3.symm
  have fr_Iz3 : ∀ b, ¬ (b = p0 ∨ b = p1) → Iz3 b = I b := fun b q => (frc3 b (fun z => q (by omega))).trans (fr_I b q)
  have bz3 := hz3
  refine lv_if_ne (tgt := 11) hx hb dX4_readFlip_6 (by decide) (fun c6 => ?_) (fun c6 => ?_)
  · have t6 := tq_ne (k := z3.toInt) (q := (0)) c6 rfl (by decide +kernel)
    refine lv_aload_n hx hb dX4_readFlip_11 rfl (lv_at hl 0 rfl) ?_
    refine lv_iconst (v := 0) hx hb dX4_readFlip_12 (by decide +kernel) ?_
    refine lv_iconst (v := 3) hx hb dX4_readFlip_13 (by decide +kernel) ?_
    refine sw_ir (Z := (fun u => (fun I1 J1 => Iv L K x0 m0 tx tm I1 ∧ (∀ b, ¬ (b = p0) → I1 b = Iz3 b) ∧ (¬ u.toInt = 0 → (0 : Int32).toInt ≤ (I1 p0 4).toInt ∧ (I1 p0 4).toInt ≤ (3 : Int32).toInt) ∧ rdP Iz3 I1 p0 u (pn (tb tx.2.2 (Iz3 p0 1).toInt) (0 : Int32).toInt (3 : Int32).toInt (Iz3 p0 2).toInt) ∧ (¬ u.toInt = 0 → (I1 p0 4).toInt = nv (tb tx.2.2 (Iz3 p0 1).toInt) (Iz3 p0 2).toInt) ∧ J1 = J))) (va_runV (As := [.int 0, .int 3]) (rest := []) ⟨hx, hb, hml, hown, hts⟩ (s_X4_readNumber l dC dI cs L K G Q hQ x0 m0 tx tm H.size Iz3 J hIz3 p0 hLp0 hKp0 0 ⟨by decide +kernel, by decide +kernel⟩ 3 ⟨by decide +kernel, by decide +kernel⟩) (cwV 2 hts (gV pq487 pq488 pq489 pq78 pq490) rfl rfl rfl (by decide +kernel) ⟨(by rw [hR]; exact (Nat.le_of_ble_eq_true rfl)), (by rw [hR]; exact (Nat.le_of_ble_eq_true rfl))⟩) (sP_V hP hD hK hN hLp0 hKp0 rfl rfl) rfl rfl hl.1 rfl (lv_room (Nat.le_of_ble_eq_true rfl)) dX4_readFlip_14 ⟨(by rw [hR]; exact (Nat.le_of_ble_eq_true rfl)), (by rw [hR]; exact (Nat.le_of_ble_eq_true rfl))⟩) hS hAL hA (fun z14 Iz14 Jz14 H locs hz14 hIz14 hP hS => ?_)
    obtain ⟨hIz14, frc14, zr14, fz14, jz14, djc14⟩ := hIz14
    obtain rfl : J = Jz14 := djc14.symm
    have fr_Iz14 : ∀ b, ¬ (b = p0 ∨ b = p1) → Iz14 b = I b := fun b q => (frc14 b (fun z => q (by omega))).trans (fr_Iz3 b q)
    have cst14_0 : (0 : Int32).toInt = 0 := by decide +kernel
    have cst14_3 : (3 : Int32).toInt = 3 := by decide +kernel
    have bz14 := hz14
    refine lv_if_ne (tgt := 22) hx hb dX4_readFlip_17 (by decide) (fun c17 => ?_) (fun c17 => ?_)
    · have t17 := tq_ne (k := z14.toInt) (q := (0)) c17 rfl (by decide +kernel)
      have iz17 := zr14 t17
      refine lv_aload_n hx hb dX4_readFlip_22 rfl (lv_at hl 1 rfl) ?_
      refine lv_aload_n hx hb dX4_readFlip_23 rfl (lv_at hl 0 rfl) ?_
      refine p_get hx hb hts inX4 hown hK hP hLp0 hKp0 rfl rfl 4 (by decide) (hts _ pq251) rfl dX4_readFlip_24 ?_
      refine lv_topi (fun z24 ez24 => ?_)
      have cgz24 := congrArg Int32.toInt ez24
      have bz24 := oI_4_4 (Iv_at hIz14 hLp0 hKp0)
      rw [← ez24] at bz24
      refine p_put hx hb hts inX0 tyX0 tyX0_ok nmX0 hown hK hP hD hS hLp1 hKp1 rfl rfl 3 (by decide) (hts _ pq181) rfl (by decide +kernel) (Nat.le_of_ble_eq_true rfl) (oS_0_3 cs _ _ _ _) dX4_readFlip_27 (fun H locs hP hS => ?_)
      obtain ⟨Iz27, hP, hIz27, qIz27⟩ : ∃ Iz27, va_P (dC, dI) vwCl (Wd cs L K Iz27 J Q) H ∧ Iv L K x0 m0 tx tm Iz27 ∧ Iz27 = va_up Iz14 p1 (upd (Iz14 p1) 3 z24) := ⟨_, hP, Iv_put hIz14 hKp1 (oP_0_3 (Iv_at hIz14 hLp1 hKp1) ⟨by omega, by omega⟩) (by decide) (by decide), rfl⟩
      have fr_Iz27 : ∀ b, ¬ (b = p0 ∨ b = p1) → Iz27 b = I b := fun b q => (congrFun qIz27 b).trans ((va_up_ne _ _ (fun z => q (by omega))).trans (fr_Iz14 b q))
      refine lv_iconst (v := 1) hx hb dX4_readFlip_30 (by decide +kernel) ?_
      subst hR; subst hQz
      exact W.zret (v := 1) hx hb hr (by decide +kernel) (fun t ht hW => ⟨⟨1, 1, rfl, ⟨rfl, ⟨by decide +kernel, by decide +kernel⟩⟩, ⟨Iz27, J, ⟨hIz27, fr_Iz27, (by unfold pfl; rw [if_pos (rdW_yes fz3 t6).1]; exact rdP_1 (rdP_S (rdW_then (g := fun t => pn t 0 3) fz3 t6 fz14) (rd_fr (by rw [qIz27, va_up_ne _ _ (ne_k hKp0 hKp1 (by decide))]))) t17), (fun _ => by have y := rdW_yes fz3 t6; have j := jz14 t17; rw [y.2.1.2.1, y.2.1.1] at j; unfold flT; rw [if_pos y.1, qIz27, va_up_self, frc14 p1 (ne_k hKp1 hKp0 (by decide)), frc3 p1 (ne_k hKp1 hKp0 (by decide)), oi_eq (cgz24.trans j)]), dj_J⟩, by rw [ht]; exact hP⟩⟩, hS.F ht⟩) hS.2.2 dX4_readFlip_31
    · have t17 := tq_eq (k := z14.toInt) (q := (0)) c17 rfl (by decide +kernel)
      refine lv_iconst (v := 0) hx hb dX4_readFlip_20 (by decide +kernel) ?_
      subst hR; subst hQz
      exact W.zret (v := 0) hx hb hr (by decide +kernel) (fun t ht hW => ⟨⟨0, 0, rfl, ⟨rfl, ⟨by decide +kernel, by decide +kernel⟩⟩, ⟨Iz14, J, ⟨hIz14, fr_Iz14, (by unfold pfl; rw [if_pos (rdW_yes fz3 t6).1]; exact rdP_0 (rdW_then (g := fun t => pn t 0 3) fz3 t6 fz14) t17), (fun h => absurd (by decide +kernel) h), dj_J⟩, by rw [ht]; exact hP⟩⟩, hS.F ht⟩) hS.2.2 dX4_readFlip_21
  · have t6 := tq_eq (k := z3.toInt) (q := (0)) c6 rfl (by decide +kernel)
    refine lv_iconst (v := 1) hx hb dX4_readFlip_9 (by decide +kernel) ?_
    subst hR; subst hQz
    exact W.zret (v := 1) hx hb hr (by decide +kernel) (fun t ht hW => ⟨⟨1, 1, rfl, ⟨rfl, ⟨by decide +kernel, by decide +kernel⟩⟩, ⟨Iz3, J, ⟨hIz3, fr_Iz3, (by have q := rdW_no fz3 t6; unfold pfl; rw [if_neg q.1]; exact rdP_yes (by decide +kernel) q.2), (fun _ => by have y := rdW_no fz3 t6; unfold flT; rw [if_neg y.1, frc3 p1 (ne_k hKp1 hKp0 (by decide))]), dj_J⟩, by rw [ht]; exact hP⟩⟩, hS.F ht⟩) hS.2.2 dX4_readFlip_10

set_option maxHeartbeats 4000000 in
set_option maxRecDepth 100000 in
theorem s_X4_readLayers (l : Launch) (dC : Nat → ClassId) (dI : Nat → Nat → Nat) (cs : Nat → ClassId) (L : List Nat) (K G : Nat → Nat) (Q : Nat → Nat → Option Nat) (hQ : Sv L K G Q) (x0 m0 : Nat) (tx : GT) (tm : GT × Int) (sz : Nat) (I : Nat → Nat → Int32) (J : Nat → Nat → Int64) (hI : Iv L K x0 m0 tx tm I) (p0 : Nat) (hLp0 : p0 ∈ L) (hKp0 : K p0 = 4) (p1 : Nat) (hLp1 : p1 ∈ L) (hKp1 : K p1 = 0) : Met l yX4_readLayers (.code yX4_readLayers cX4_readLayers 2 (some .boolean) :: pw) ({ frames := 5, cells := 0, slots := 0, locals := 108 }) (sPX (dC, dI) cs [.ref p0, .ref p1] sz L K I J Q (fun q => q ∈ L ∨ sz ≤ q) (fun A U H => xS A U H)) (va_Qi (fun (r : Int32) (u : Int32) => u = r ∧ ((0) ≤ r.toInt ∧ r.toInt ≤ 1)) (fun u t => sB (dC, dI) cs L K Q (fun I1 J1 => Iv L K x0 m0 tx tm I1 ∧ (∀ b, ¬ (b = p0 ∨ b = p1) → I1 b = I b) ∧ rdP I I1 p0 u (ply (tb tx.2.2 (I p0 1).toInt) (I p0 2).toInt) ∧ (¬ u.toInt = 0 → I1 p1 = lyT (tb tx.2.2 (I p0 1).toInt) (I p0 2).toInt (I p1)) ∧ J1 = J) t) (fun q => q ∈ L ∨ sz ≤ q)) 0 0 (fun q => q ∈ L ∨ sz ≤ q) := by
  refine Met.ofW (cc := cX4_readLayers) (maxL := 2) (ret := (some .boolean)) (by decide +kernel) rfl ?_
  intro p e s m args below meth c s₁ B hml hv
  obtain ⟨rfl, ⟨hsz, hP, hK, hD0, hN⟩, hXs⟩ := hv
  have hx := B.exec
  have hb := B.bytes
  have hr := B.returns
  have hts := fun w (h : w ∈ pw) => atoms_spec (ws := Cond.code yX4_readLayers cX4_readLayers 2 (some .boolean) :: pw) B.pre w (List.mem_cons_of_mem _ h)
  have hown : s.vm.findClass RX4 = some m.cls := findClass_of_methodNamed B.named
  have hlocks := B.notSynchronized
  subst hsz
  have hBB : 999 ≤ tm.2 ∧ tm.2 ≤ 6000000 := hI.2.2.2.2.1
  have dj_J : J = J := rfl
  have fr_I : ∀ b, ¬ (b = p0 ∨ b = p1) → I b = I b := fun _ _ => rfl
  obtain ⟨A, hAe⟩ : ∃ A : Nat → Prop, A = (fun q => q ∈ L ∨ s.heap.size ≤ q) := ⟨_, rfl⟩
  rw [← hAe]
  have hAL : ∀ q, q ∈ L → A q := fun q h => by rw [hAe]; exact Or.inl h
  have hA : ∀ q, s.heap.size ≤ q → A q := fun q h => by rw [hAe]; exact Or.inr h
  have hD : ∀ F, va_D A (va_pl L F) := fun F => (hD0 F).weaken (fun k q hk _ => hAL _ (pl_mem hk))
  rw [← hAe] at hXs
  have hxx := hXs
  have hxt := hxx.1
  obtain ⟨H, hHe⟩ : ∃ H : Heap, H = s.heap := ⟨_, rfl⟩
  have hS : va_S A s.heap H [] := by rw [hHe]; exact va_S.rf
  rw [← hHe] at hP
  have hl := lv_entry ([.ref p0, .ref p1]) (n := 2) (Nat.le_of_ble_eq_true rfl)
  rw [lg_entry_eq]
  generalize (lg_sl ([.ref p0, .ref p1]) ++ List.replicate (2 - (lg_sl ([.ref p0, .ref p1])).length) Slot.unset).toArray = ls at hl ⊢
  have hl : lv_has ls 2 [(0, .ref p0), (1, .ref p1)] := hl
  rw [← hHe]
  refine namedW (fun R Qz hR hQz => ?_)
  refine lv_aload_n hx hb dX4_readLayers_0 rfl (lv_at hl 0 rfl) ?_
  obtain ⟨y1, hv1, hx_y1⟩ := hxx.2 (RX4, 173, "layer", wLayer) (by simp [lits])
  dsimp only at hv1 hx_y1
  refine va_ldcS hx hb hown hv1 dX4_readLayers_1 ?_
  refine sw_ir (Z := (fun u => (fun I1 J1 => Iv L K x0 m0 tx tm I1 ∧ (∀ b, ¬ (b = p0) → I1 b = I b) ∧ rdW tx.2.2 I I1 p0 u wLayer ∧ J1 = J))) (va_runV (As := [.ref y1]) (rest := []) ⟨hx, hb, hml, hown, hts⟩ (s_X4_takeWord l dC dI cs L K G Q hQ x0 m0 tx tm H.size I J hI p0 hLp0 hKp0 y1 wLayer) (cwV 1 hts (gV pq422 pq423 pq424 pq78 pq425) rfl rfl rfl (by decide +kernel) ⟨(by rw [hR]; exact (Nat.le_of_ble_eq_true rfl)), (by rw [hR]; exact (Nat.le_of_ble_eq_true rfl))⟩) (sPX_V hP hD hK hN hLp0 hKp0 rfl rfl (gX_and (gX_s _ _) gX_t) hS ⟨hx_y1, hxt⟩ (fun q h => h.elim (hAL q) (fun h => hA q (Nat.le_trans hS.1 h)))) rfl rfl hl.1 rfl (lv_room (Nat.le_of_ble_eq_true rfl)) dX4_readLayers_3 ⟨(by rw [hR]; exact (Nat.le_of_ble_eq_true rfl)), (by rw [hR]; exact (Nat.le_of_ble_eq_true rfl))⟩) hS hAL hA (fun z3 Iz3 Jz3 H locs hz3 hIz3 hP hS => ?_)
  obtain ⟨hIz3, frc3, fz3, djc3⟩ := hIz3
  obtain rfl : J = Jz3 := djc3.symm
  have fr_Iz3 : ∀ b, ¬ (b = p0 ∨ b = p1) → Iz3 b = I b := fun b q => (frc3 b (fun z => q (by omega))).trans (fr_I b q)
  have bz3 := hz3
  refine lv_if_ne (tgt := 11) hx hb dX4_readLayers_6 (by decide) (fun c6 => ?_) (fun c6 => ?_)
  · have t6 := tq_ne (k := z3.toInt) (q := (0)) c6 rfl (by decide +kernel)
    refine lv_aload_n hx hb dX4_readLayers_11 rfl (lv_at hl 0 rfl) ?_
    refine lv_iconst (v := 0) hx hb dX4_readLayers_12 (by decide +kernel) ?_
    refine lv_bipush (v := 15) hx hb dX4_readLayers_13 (by decide +kernel) ?_
    refine sw_ir (Z := (fun u => (fun I1 J1 => Iv L K x0 m0 tx tm I1 ∧ (∀ b, ¬ (b = p0) → I1 b = Iz3 b) ∧ (¬ u.toInt = 0 → (0 : Int32).toInt ≤ (I1 p0 4).toInt ∧ (I1 p0 4).toInt ≤ (15 : Int32).toInt) ∧ rdP Iz3 I1 p0 u (pn (tb tx.2.2 (Iz3 p0 1).toInt) (0 : Int32).toInt (15 : Int32).toInt (Iz3 p0 2).toInt) ∧ (¬ u.toInt = 0 → (I1 p0 4).toInt = nv (tb tx.2.2 (Iz3 p0 1).toInt) (Iz3 p0 2).toInt) ∧ J1 = J))) (va_runV (As := [.int 0, .int 15]) (rest := []) ⟨hx, hb, hml, hown, hts⟩ (s_X4_readNumber l dC dI cs L K G Q hQ x0 m0 tx tm H.size Iz3 J hIz3 p0 hLp0 hKp0 0 ⟨by decide +kernel, by decide +kernel⟩ 15 ⟨by decide +kernel, by decide +kernel⟩) (cwV 2 hts (gV pq487 pq488 pq489 pq78 pq490) rfl rfl rfl (by decide +kernel) ⟨(by rw [hR]; exact (Nat.le_of_ble_eq_true rfl)), (by rw [hR]; exact (Nat.le_of_ble_eq_true rfl))⟩) (sP_V hP hD hK hN hLp0 hKp0 rfl rfl) rfl rfl hl.1 rfl (lv_room (Nat.le_of_ble_eq_true rfl)) dX4_readLayers_15 ⟨(by rw [hR]; exact (Nat.le_of_ble_eq_true rfl)), (by rw [hR]; exact (Nat.le_of_ble_eq_true rfl))⟩) hS hAL hA (fun z15 Iz15 Jz15 H locs hz15 hIz15 hP hS => ?_)
    obtain ⟨hIz15, frc15, zr15, fz15, jz15, djc15⟩ := hIz15
    obtain rfl : J = Jz15 := djc15.symm
    have fr_Iz15 : ∀ b, ¬ (b = p0 ∨ b = p1) → Iz15 b = I b := fun b q => (frc15 b (fun z => q (by omega))).trans (fr_Iz3 b q)
    have cst15_0 : (0 : Int32).toInt = 0 := by decide +kernel
    have cst15_15 : (15 : Int32).toInt = 15 := by decide +kernel
    have bz15 := hz15
    refine lv_if_ne (tgt := 23) hx hb dX4_readLayers_18 (by decide) (fun c18 => ?_) (fun c18 => ?_)
    · have t18 := tq_ne (k := z15.toInt) (q := (0)) c18 rfl (by decide +kernel)
      have iz18 := zr15 t18
      refine lv_aload_n hx hb dX4_readLayers_23 rfl (lv_at hl 1 rfl) ?_
      refine lv_aload_n hx hb dX4_readLayers_24 rfl (lv_at hl 0 rfl) ?_
      refine p_get hx hb hts inX4 hown hK hP hLp0 hKp0 rfl rfl 4 (by decide) (hts _ pq251) rfl dX4_readLayers_25 ?_
      refine lv_topi (fun z25 ez25 => ?_)
      have cgz25 := congrArg Int32.toInt ez25
      have bz25 := oI_4_4 (Iv_at hIz15 hLp0 hKp0)
      rw [← ez25] at bz25
      refine p_put hx hb hts inX0 tyX0 tyX0_ok nmX0 hown hK hP hD hS hLp1 hKp1 rfl rfl 4 (by decide) (hts _ pq185) rfl (by decide +kernel) (Nat.le_of_ble_eq_true rfl) (oS_0_4 cs _ _ _ _) dX4_readLayers_28 (fun H locs hP hS => ?_)
      obtain ⟨Iz28, hP, hIz28, qIz28⟩ : ∃ Iz28, va_P (dC, dI) vwCl (Wd cs L K Iz28 J Q) H ∧ Iv L K x0 m0 tx tm Iz28 ∧ Iz28 = va_up Iz15 p1 (upd (Iz15 p1) 4 z25) := ⟨_, hP, Iv_put hIz15 hKp1 (oP_0_4 (Iv_at hIz15 hLp1 hKp1) ⟨by omega, by omega⟩) (by decide) (by decide), rfl⟩
      have fr_Iz28 : ∀ b, ¬ (b = p0 ∨ b = p1) → Iz28 b = I b := fun b q => (congrFun qIz28 b).trans ((va_up_ne _ _ (fun z => q (by omega))).trans (fr_Iz15 b q))
      refine lv_aload_n hx hb dX4_readLayers_31 rfl (lv_at hl 0 rfl) ?_
      refine lv_iconst (v := 0) hx hb dX4_readLayers_32 (by decide +kernel) ?_
      refine lv_bipush (v := 15) hx hb dX4_readLayers_33 (by decide +kernel) ?_
      refine sw_ir (Z := (fun u => (fun I1 J1 => Iv L K x0 m0 tx tm I1 ∧ (∀ b, ¬ (b = p0) → I1 b = Iz28 b) ∧ (¬ u.toInt = 0 → (0 : Int32).toInt ≤ (I1 p0 4).toInt ∧ (I1 p0 4).toInt ≤ (15 : Int32).toInt) ∧ rdP Iz28 I1 p0 u (pn (tb tx.2.2 (Iz28 p0 1).toInt) (0 : Int32).toInt (15 : Int32).toInt (Iz28 p0 2).toInt) ∧ (¬ u.toInt = 0 → (I1 p0 4).toInt = nv (tb tx.2.2 (Iz28 p0 1).toInt) (Iz28 p0 2).toInt) ∧ J1 = J))) (va_runV (As := [.int 0, .int 15]) (rest := []) ⟨hx, hb, hml, hown, hts⟩ (s_X4_readNumber l dC dI cs L K G Q hQ x0 m0 tx tm H.size Iz28 J hIz28 p0 hLp0 hKp0 0 ⟨by decide +kernel, by decide +kernel⟩ 15 ⟨by decide +kernel, by decide +kernel⟩) (cwV 2 hts (gV pq487 pq488 pq489 pq78 pq490) rfl rfl rfl (by decide +kernel) ⟨(by rw [hR]; exact (Nat.le_of_ble_eq_true rfl)), (by rw [hR]; exact (Nat.le_of_ble_eq_true rfl))⟩) (sP_V hP hD hK hN hLp0 hKp0 rfl rfl) rfl rfl hl.1 rfl (lv_room (Nat.le_of_ble_eq_true rfl)) dX4_readLayers_35 ⟨(by rw [hR]; exact (Nat.le_of_ble_eq_true rfl)), (by rw [hR]; exact (Nat.le_of_ble_eq_true rfl))⟩) hS hAL hA (fun z35 Iz35 Jz35 H locs hz35 hIz35 hP hS => ?_)
      obtain ⟨hIz35, frc35, zr35, fz35, jz35, djc35⟩ := hIz35
      obtain rfl : J = Jz35 := djc35.symm
      have fr_Iz35 : ∀ b, ¬ (b = p0 ∨ b = p1) → Iz35 b = I b := fun b q => (frc35 b (fun z => q (by omega))).trans (fr_Iz28 b q)
      have cst35_0 : (0 : Int32).toInt = 0 := by decide +kernel
      have cst35_15 : (15 : Int32).toInt = 15 := by decide +kernel
      have bz35 := hz35
      refine lv_if_ne (tgt := 43) hx hb dX4_readLayers_38 (by decide) (fun c38 => ?_) (fun c38 => ?_)
      · have t38 := tq_ne (k := z35.toInt) (q := (0)) c38 rfl (by decide +kernel)
        have iz38 := zr35 t38
        refine lv_aload_n hx hb dX4_readLayers_43 rfl (lv_at hl 1 rfl) ?_
        refine lv_aload_n hx hb dX4_readLayers_44 rfl (lv_at hl 0 rfl) ?_
        refine p_get hx hb hts inX4 hown hK hP hLp0 hKp0 rfl rfl 4 (by decide) (hts _ pq251) rfl dX4_readLayers_45 ?_
        refine lv_topi (fun z45 ez45 => ?_)
        have cgz45 := congrArg Int32.toInt ez45
        have bz45 := oI_4_4 (Iv_at hIz35 hLp0 hKp0)
        rw [← ez45] at bz45
        refine p_put hx hb hts inX0 tyX0 tyX0_ok nmX0 hown hK hP hD hS hLp1 hKp1 rfl rfl 5 (by decide) (hts _ pq189) rfl (by decide +kernel) (Nat.le_of_ble_eq_true rfl) (oS_0_5 cs _ _ _ _) dX4_readLayers_48 (fun H locs hP hS => ?_)
        obtain ⟨Iz48, hP, hIz48, qIz48⟩ : ∃ Iz48, va_P (dC, dI) vwCl (Wd cs L K Iz48 J Q) H ∧ Iv L K x0 m0 tx tm Iz48 ∧ Iz48 = va_up Iz35 p1 (upd (Iz35 p1) 5 z45) := ⟨_, hP, Iv_put hIz35 hKp1 (oP_0_5 (Iv_at hIz35 hLp1 hKp1) ⟨by omega, by omega⟩) (by decide) (by decide), rfl⟩
        have fr_Iz48 : ∀ b, ¬ (b = p0 ∨ b = p1) → Iz48 b = I b := fun b q => (congrFun qIz48 b).trans ((va_up_ne _ _ (fun z => q (by omega))).trans (fr_Iz35 b q))
        refine lv_iconst (v := 1) hx hb dX4_readLayers_51 (by decide +kernel) ?_
        subst hR; subst hQz
        exact W.zret (v := 1) hx hb hr (by decide +kernel) (fun t ht hW => ⟨⟨1, 1, rfl, ⟨rfl, ⟨by decide +kernel, by decide +kernel⟩⟩, ⟨Iz48, J, ⟨hIz48, fr_Iz48, (by unfold ply; rw [if_pos (rdW_yes fz3 t6).1]; exact rdP_1 (rdP_S (rdP_bind (g := fun t => pn t 0 15) (rdP_S (rdW_then (g := fun t => pn t 0 15) fz3 t6 fz15) (rd_fr (by rw [qIz28, va_up_ne _ _ (ne_k hKp0 hKp1 (by decide))]))) t18 fz35) (rd_fr (by rw [qIz48, va_up_ne _ _ (ne_k hKp0 hKp1 (by decide))]))) t38), (fun _ => by have y := rdW_yes fz3 t6; have j := jz15 t18; rw [y.2.1.2.1, y.2.1.1] at j; have q := fz15; rw [cst15_0, cst15_15] at q; have w := (rdP_ok q t18).2; have j2 := jz35 t38; rw [show Iz28 p0 = Iz15 p0 by rw [qIz28, va_up_ne _ _ (ne_k hKp0 hKp1 (by decide))], w.2.1, w.1, y.2.1.2.1, y.2.1.1] at j2; unfold lyT; rw [if_pos y.1, qIz48, va_up_self, frc35 p1 (ne_k hKp1 hKp0 (by decide)), qIz28, va_up_self, frc15 p1 (ne_k hKp1 hKp0 (by decide)), frc3 p1 (ne_k hKp1 hKp0 (by decide)), oi_eq (cgz25.trans j), oi_eq (cgz45.trans j2)]), dj_J⟩, by rw [ht]; exact hP⟩⟩, hS.F ht⟩) hS.2.2 dX4_readLayers_52
      · have t38 := tq_eq (k := z35.toInt) (q := (0)) c38 rfl (by decide +kernel)
        refine lv_iconst (v := 0) hx hb dX4_readLayers_41 (by decide +kernel) ?_
        subst hR; subst hQz
        exact W.zret (v := 0) hx hb hr (by decide +kernel) (fun t ht hW => ⟨⟨0, 0, rfl, ⟨rfl, ⟨by decide +kernel, by decide +kernel⟩⟩, ⟨Iz35, J, ⟨hIz35, fr_Iz35, (by unfold ply; rw [if_pos (rdW_yes fz3 t6).1]; exact rdP_0 (rdP_bind (g := fun t => pn t 0 15) (rdP_S (rdW_then (g := fun t => pn t 0 15) fz3 t6 fz15) (rd_fr (by rw [qIz28, va_up_ne _ _ (ne_k hKp0 hKp1 (by decide))]))) t18 fz35) t38), (fun h => absurd (by decide +kernel) h), dj_J⟩, by rw [ht]; exact hP⟩⟩, hS.F ht⟩) hS.2.2 dX4_readLayers_42
    · have t18 := tq_eq (k := z15.toInt) (q := (0)) c18 rfl (by decide +kernel)
      refine lv_iconst (v := 0) hx hb dX4_readLayers_21 (by decide +kernel) ?_
      subst hR; subst hQz
      exact W.zret (v := 0) hx hb hr (by decide +kernel) (fun t ht hW => ⟨⟨0, 0, rfl, ⟨rfl, ⟨by decide +kernel, by decide +kernel⟩⟩, ⟨Iz15, J, ⟨hIz15, fr_Iz15, (by unfold ply; rw [if_pos (rdW_yes fz3 t6).1]; exact rdP_f (rdP_0 (rdW_then (g := fun t => pn t 0 15) fz3 t6 fz15) t18)), (fun h => absurd (by decide +kernel) h), dj_J⟩, by rw [ht]; exact hP⟩⟩, hS.F ht⟩) hS.2.2 dX4_readLayers_22
  · have t6 := tq_eq (k := z3.toInt) (q := (0)) c6 rfl (by decide +kernel)
    refine lv_iconst (v := 1) hx hb dX4_readLayers_9 (by decide +kernel) ?_
    subst hR; subst hQz
    exact W.zret (v := 1) hx hb hr (by decide +kernel) (fun t ht hW => ⟨⟨1, 1, rfl, ⟨rfl, ⟨by decide +kernel, by decide +kernel⟩⟩, ⟨Iz3, J, ⟨hIz3, fr_Iz3, (by have q := rdW_no fz3 t6; unfold ply; rw [if_neg q.1]; exact rdP_yes (by decide +kernel) q.2), (fun _ => by have y := rdW_no fz3 t6; unfold lyT; rw [if_neg y.1, frc3 p1 (ne_k hKp1 hKp0 (by decide))]), dj_J⟩, by rw [ht]; exact hP⟩⟩, hS.F ht⟩) hS.2.2 dX4_readLayers_10

set_option maxHeartbeats 4000000 in
set_option maxRecDepth 100000 in
theorem s_X4_readMoves (l : Launch) (dC : Nat → ClassId) (dI : Nat → Nat → Nat) (cs : Nat → ClassId) (L : List Nat) (K G : Nat → Nat) (Q : Nat → Nat → Option Nat) (hQ : Sv L K G Q) (x0 m0 : Nat) (tx : GT) (tm : GT × Int) (sz : Nat) (I : Nat → Nat → Int32) (J : Nat → Nat → Int64) (hI : Iv L K x0 m0 tx tm I) (p0 : Nat) (hLp0 : p0 ∈ L) (hKp0 : K p0 = 4) (p1 : Nat) (hLp1 : p1 ∈ L) (hKp1 : K p1 = 0) : Met l yX4_readMoves (.code yX4_readMoves cX4_readMoves 2 (some .boolean) :: pw) ({ frames := 5, cells := 0, slots := 0, locals := 108 }) (sPX (dC, dI) cs [.ref p0, .ref p1] sz L K I J Q (fun q => q ∈ L ∨ sz ≤ q) (fun A U H => xS A U H)) (va_Qi (fun (r : Int32) (u : Int32) => u = r ∧ ((0) ≤ r.toInt ∧ r.toInt ≤ 1)) (fun u t => sB (dC, dI) cs L K Q (fun I1 J1 => Iv L K x0 m0 tx tm I1 ∧ (∀ b, ¬ (b = p0 ∨ b = p1) → I1 b = I b) ∧ rdP I I1 p0 u (pmv (tb tx.2.2 (I p0 1).toInt) (I p0 2).toInt) ∧ (¬ u.toInt = 0 → I1 p1 = mvT (tb tx.2.2 (I p0 1).toInt) (I p0 2).toInt (I p1)) ∧ J1 = J) t) (fun q => q ∈ L ∨ sz ≤ q)) 0 0 (fun q => q ∈ L ∨ sz ≤ q) := by
  refine Met.ofW (cc := cX4_readMoves) (maxL := 2) (ret := (some .boolean)) (by decide +kernel) rfl ?_
  intro p e s m args below meth c s₁ B hml hv
  obtain ⟨rfl, ⟨hsz, hP, hK, hD0, hN⟩, hXs⟩ := hv
  have hx := B.exec
  have hb := B.bytes
  have hr := B.returns
  have hts := fun w (h : w ∈ pw) => atoms_spec (ws := Cond.code yX4_readMoves cX4_readMoves 2 (some .boolean) :: pw) B.pre w (List.mem_cons_of_mem _ h)
  have hown : s.vm.findClass RX4 = some m.cls := findClass_of_methodNamed B.named
  have hlocks := B.notSynchronized
  subst hsz
  have hBB : 999 ≤ tm.2 ∧ tm.2 ≤ 6000000 := hI.2.2.2.2.1
  have dj_J : J = J := rfl
  have fr_I : ∀ b, ¬ (b = p0 ∨ b = p1) → I b = I b := fun _ _ => rfl
  obtain ⟨A, hAe⟩ : ∃ A : Nat → Prop, A = (fun q => q ∈ L ∨ s.heap.size ≤ q) := ⟨_, rfl⟩
  rw [← hAe]
  have hAL : ∀ q, q ∈ L → A q := fun q h => by rw [hAe]; exact Or.inl h
  have hA : ∀ q, s.heap.size ≤ q → A q := fun q h => by rw [hAe]; exact Or.inr h
  have hD : ∀ F, va_D A (va_pl L F) := fun F => (hD0 F).weaken (fun k q hk _ => hAL _ (pl_mem hk))
  rw [← hAe] at hXs
  have hxx := hXs
  have hxt := hxx.1
  obtain ⟨H, hHe⟩ : ∃ H : Heap, H = s.heap := ⟨_, rfl⟩
  have hS : va_S A s.heap H [] := by rw [hHe]; exact va_S.rf
  rw [← hHe] at hP
  have hl := lv_entry ([.ref p0, .ref p1]) (n := 2) (Nat.le_of_ble_eq_true rfl)
  rw [lg_entry_eq]
  generalize (lg_sl ([.ref p0, .ref p1]) ++ List.replicate (2 - (lg_sl ([.ref p0, .ref p1])).length) Slot.unset).toArray = ls at hl ⊢
  have hl : lv_has ls 2 [(0, .ref p0), (1, .ref p1)] := hl
  rw [← hHe]
  refine namedW (fun R Qz hR hQz => ?_)
  refine lv_aload_n hx hb dX4_readMoves_0 rfl (lv_at hl 0 rfl) ?_
  obtain ⟨y1, hv1, hx_y1⟩ := hxx.2 (RX4, 181, "moves", wMoves) (by simp [lits])
  dsimp only at hv1 hx_y1
  refine va_ldcS hx hb hown hv1 dX4_readMoves_1 ?_
  refine sw_ir (Z := (fun u => (fun I1 J1 => Iv L K x0 m0 tx tm I1 ∧ (∀ b, ¬ (b = p0) → I1 b = I b) ∧ rdW tx.2.2 I I1 p0 u wMoves ∧ J1 = J))) (va_runV (As := [.ref y1]) (rest := []) ⟨hx, hb, hml, hown, hts⟩ (s_X4_takeWord l dC dI cs L K G Q hQ x0 m0 tx tm H.size I J hI p0 hLp0 hKp0 y1 wMoves) (cwV 1 hts (gV pq422 pq423 pq424 pq78 pq425) rfl rfl rfl (by decide +kernel) ⟨(by rw [hR]; exact (Nat.le_of_ble_eq_true rfl)), (by rw [hR]; exact (Nat.le_of_ble_eq_true rfl))⟩) (sPX_V hP hD hK hN hLp0 hKp0 rfl rfl (gX_and (gX_s _ _) gX_t) hS ⟨hx_y1, hxt⟩ (fun q h => h.elim (hAL q) (fun h => hA q (Nat.le_trans hS.1 h)))) rfl rfl hl.1 rfl (lv_room (Nat.le_of_ble_eq_true rfl)) dX4_readMoves_3 ⟨(by rw [hR]; exact (Nat.le_of_ble_eq_true rfl)), (by rw [hR]; exact (Nat.le_of_ble_eq_true rfl))⟩) hS hAL hA (fun z3 Iz3 Jz3 H locs hz3 hIz3 hP hS => ?_)
  obtain ⟨hIz3, frc3, fz3, djc3⟩ := hIz3
  obtain rfl : J = Jz3 := djc3.symm
  have fr_Iz3 : ∀ b, ¬ (b = p0 ∨ b = p1) → Iz3 b = I b := fun b q => (frc3 b (fun z => q (by omega))).trans (fr_I b q)
  have bz3 := hz3
  refine lv_if_ne (tgt := 11) hx hb dX4_readMoves_6 (by decide) (fun c6 => ?_) (fun c6 => ?_)
  · have t6 := tq_ne (k := z3.toInt) (q := (0)) c6 rfl (by decide +kernel)
    refine lv_aload_n hx hb dX4_readMoves_11 rfl (lv_at hl 0 rfl) ?_
    refine lv_bipush (v := 20) hx hb dX4_readMoves_12 (by decide +kernel) ?_
    refine sw_ir (Z := (fun u => (fun I1 J1 => Iv L K x0 m0 tx tm I1 ∧ (∀ b, ¬ (b = p0) → I1 b = Iz3 b) ∧ (¬ u.toInt = 0 → -(20 : Int32).toInt ≤ (I1 p0 4).toInt ∧ (I1 p0 4).toInt ≤ (20 : Int32).toInt) ∧ rdP Iz3 I1 p0 u (ps (tb tx.2.2 (Iz3 p0 1).toInt) (20 : Int32).toInt (Iz3 p0 2).toInt) ∧ (¬ u.toInt = 0 → (I1 p0 4).toInt = sv (tb tx.2.2 (Iz3 p0 1).toInt) (Iz3 p0 2).toInt) ∧ J1 = J))) (va_runV (As := [.int 20]) (rest := []) ⟨hx, hb, hml, hown, hts⟩ (s_X4_readSigned l dC dI cs L K G Q hQ x0 m0 tx tm H.size Iz3 J hIz3 p0 hLp0 hKp0 20 ⟨by decide +kernel, by decide +kernel⟩) (cwV 1 hts (gV pq562 pq563 pq564 pq78 pq565) rfl rfl rfl (by decide +kernel) ⟨(by rw [hR]; exact (Nat.le_of_ble_eq_true rfl)), (by rw [hR]; exact (Nat.le_of_ble_eq_true rfl))⟩) (sP_V hP hD hK hN hLp0 hKp0 rfl rfl) rfl rfl hl.1 rfl (lv_room (Nat.le_of_ble_eq_true rfl)) dX4_readMoves_14 ⟨(by rw [hR]; exact (Nat.le_of_ble_eq_true rfl)), (by rw [hR]; exact (Nat.le_of_ble_eq_true rfl))⟩) hS hAL hA (fun z14 Iz14 Jz14 H locs hz14 hIz14 hP hS => ?_)
    obtain ⟨hIz14, frc14, zr14, fz14, jz14, djc14⟩ := hIz14
    obtain rfl : J = Jz14 := djc14.symm
    have fr_Iz14 : ∀ b, ¬ (b = p0 ∨ b = p1) → Iz14 b = I b := fun b q => (frc14 b (fun z => q (by omega))).trans (fr_Iz3 b q)
    have cst14_20 : (20 : Int32).toInt = 20 := by decide +kernel
    have bz14 := hz14
    refine lv_if_ne (tgt := 22) hx hb dX4_readMoves_17 (by decide) (fun c17 => ?_) (fun c17 => ?_)
    · have t17 := tq_ne (k := z14.toInt) (q := (0)) c17 rfl (by decide +kernel)
      have iz17 := zr14 t17
      refine lv_aload_n hx hb dX4_readMoves_22 rfl (lv_at hl 1 rfl) ?_
      refine lv_aload_n hx hb dX4_readMoves_23 rfl (lv_at hl 0 rfl) ?_
      refine p_get hx hb hts inX4 hown hK hP hLp0 hKp0 rfl rfl 4 (by decide) (hts _ pq251) rfl dX4_readMoves_24 ?_
      refine lv_topi (fun z24 ez24 => ?_)
      have cgz24 := congrArg Int32.toInt ez24
      have bz24 := oI_4_4 (Iv_at hIz14 hLp0 hKp0)
      rw [← ez24] at bz24
      refine p_put hx hb hts inX0 tyX0 tyX0_ok nmX0 hown hK hP hD hS hLp1 hKp1 rfl rfl 6 (by decide) (hts _ pq192) rfl (by decide +kernel) (Nat.le_of_ble_eq_true rfl) (oS_0_6 cs _ _ _ _) dX4_readMoves_27 (fun H locs hP hS => ?_)
      obtain ⟨Iz27, hP, hIz27, qIz27⟩ : ∃ Iz27, va_P (dC, dI) vwCl (Wd cs L K Iz27 J Q) H ∧ Iv L K x0 m0 tx tm Iz27 ∧ Iz27 = va_up Iz14 p1 (upd (Iz14 p1) 6 z24) := ⟨_, hP, Iv_put hIz14 hKp1 (oP_0_6 (Iv_at hIz14 hLp1 hKp1) ⟨by omega, by omega⟩) (by decide) (by decide), rfl⟩
      have fr_Iz27 : ∀ b, ¬ (b = p0 ∨ b = p1) → Iz27 b = I b := fun b q => (congrFun qIz27 b).trans ((va_up_ne _ _ (fun z => q (by omega))).trans (fr_Iz14 b q))
      refine lv_aload_n hx hb dX4_readMoves_30 rfl (lv_at hl 0 rfl) ?_
      refine lv_bipush (v := 20) hx hb dX4_readMoves_31 (by decide +kernel) ?_
      refine sw_ir (Z := (fun u => (fun I1 J1 => Iv L K x0 m0 tx tm I1 ∧ (∀ b, ¬ (b = p0) → I1 b = Iz27 b) ∧ (¬ u.toInt = 0 → -(20 : Int32).toInt ≤ (I1 p0 4).toInt ∧ (I1 p0 4).toInt ≤ (20 : Int32).toInt) ∧ rdP Iz27 I1 p0 u (ps (tb tx.2.2 (Iz27 p0 1).toInt) (20 : Int32).toInt (Iz27 p0 2).toInt) ∧ (¬ u.toInt = 0 → (I1 p0 4).toInt = sv (tb tx.2.2 (Iz27 p0 1).toInt) (Iz27 p0 2).toInt) ∧ J1 = J))) (va_runV (As := [.int 20]) (rest := []) ⟨hx, hb, hml, hown, hts⟩ (s_X4_readSigned l dC dI cs L K G Q hQ x0 m0 tx tm H.size Iz27 J hIz27 p0 hLp0 hKp0 20 ⟨by decide +kernel, by decide +kernel⟩) (cwV 1 hts (gV pq562 pq563 pq564 pq78 pq565) rfl rfl rfl (by decide +kernel) ⟨(by rw [hR]; exact (Nat.le_of_ble_eq_true rfl)), (by rw [hR]; exact (Nat.le_of_ble_eq_true rfl))⟩) (sP_V hP hD hK hN hLp0 hKp0 rfl rfl) rfl rfl hl.1 rfl (lv_room (Nat.le_of_ble_eq_true rfl)) dX4_readMoves_33 ⟨(by rw [hR]; exact (Nat.le_of_ble_eq_true rfl)), (by rw [hR]; exact (Nat.le_of_ble_eq_true rfl))⟩) hS hAL hA (fun z33 Iz33 Jz33 H locs hz33 hIz33 hP hS => ?_)
      obtain ⟨hIz33, frc33, zr33, fz33, jz33, djc33⟩ := hIz33
      obtain rfl : J = Jz33 := djc33.symm
      have fr_Iz33 : ∀ b, ¬ (b = p0 ∨ b = p1) → Iz33 b = I b := fun b q => (frc33 b (fun z => q (by omega))).trans (fr_Iz27 b q)
      have cst33_20 : (20 : Int32).toInt = 20 := by decide +kernel
      have bz33 := hz33
      refine lv_if_ne (tgt := 41) hx hb dX4_readMoves_36 (by decide) (fun c36 => ?_) (fun c36 => ?_)
      · have t36 := tq_ne (k := z33.toInt) (q := (0)) c36 rfl (by decide +kernel)
        have iz36 := zr33 t36
        refine lv_aload_n hx hb dX4_readMoves_41 rfl (lv_at hl 1 rfl) ?_
        refine lv_aload_n hx hb dX4_readMoves_42 rfl (lv_at hl 0 rfl) ?_
        refine p_get hx hb hts inX4 hown hK hP hLp0 hKp0 rfl rfl 4 (by decide) (hts _ pq251) rfl dX4_readMoves_43 ?_
        refine lv_topi (fun z43 ez43 => ?_)
        have cgz43 := congrArg Int32.toInt ez43
        have bz43 := oI_4_4 (Iv_at hIz33 hLp0 hKp0)
        rw [← ez43] at bz43
        refine p_put hx hb hts inX0 tyX0 tyX0_ok nmX0 hown hK hP hD hS hLp1 hKp1 rfl rfl 7 (by decide) (hts _ pq195) rfl (by decide +kernel) (Nat.le_of_ble_eq_true rfl) (oS_0_7 cs _ _ _ _) dX4_readMoves_46 (fun H locs hP hS => ?_)
        obtain ⟨Iz46, hP, hIz46, qIz46⟩ : ∃ Iz46, va_P (dC, dI) vwCl (Wd cs L K Iz46 J Q) H ∧ Iv L K x0 m0 tx tm Iz46 ∧ Iz46 = va_up Iz33 p1 (upd (Iz33 p1) 7 z43) := ⟨_, hP, Iv_put hIz33 hKp1 (oP_0_7 (Iv_at hIz33 hLp1 hKp1) ⟨by omega, by omega⟩) (by decide) (by decide), rfl⟩
        have fr_Iz46 : ∀ b, ¬ (b = p0 ∨ b = p1) → Iz46 b = I b := fun b q => (congrFun qIz46 b).trans ((va_up_ne _ _ (fun z => q (by omega))).trans (fr_Iz33 b q))
        refine lv_iconst (v := 1) hx hb dX4_readMoves_49 (by decide +kernel) ?_
        subst hR; subst hQz
        exact W.zret (v := 1) hx hb hr (by decide +kernel) (fun t ht hW => ⟨⟨1, 1, rfl, ⟨rfl, ⟨by decide +kernel, by decide +kernel⟩⟩, ⟨Iz46, J, ⟨hIz46, fr_Iz46, (by unfold pmv; rw [if_pos (rdW_yes fz3 t6).1]; exact rdP_1 (rdP_S (rdP_bind (g := fun t => ps t 20) (rdP_S (rdW_then (g := fun t => ps t 20) fz3 t6 fz14) (rd_fr (by rw [qIz27, va_up_ne _ _ (ne_k hKp0 hKp1 (by decide))]))) t17 fz33) (rd_fr (by rw [qIz46, va_up_ne _ _ (ne_k hKp0 hKp1 (by decide))]))) t36), (fun _ => by have y := rdW_yes fz3 t6; have j := jz14 t17; rw [y.2.1.2.1, y.2.1.1] at j; have q := fz14; rw [cst14_20] at q; have w := (rdP_ok q t17).2; have j2 := jz33 t36; rw [show Iz27 p0 = Iz14 p0 by rw [qIz27, va_up_ne _ _ (ne_k hKp0 hKp1 (by decide))], w.2.1, w.1, y.2.1.2.1, y.2.1.1] at j2; unfold mvT; rw [if_pos y.1, qIz46, va_up_self, frc33 p1 (ne_k hKp1 hKp0 (by decide)), qIz27, va_up_self, frc14 p1 (ne_k hKp1 hKp0 (by decide)), frc3 p1 (ne_k hKp1 hKp0 (by decide)), oi_eq (cgz24.trans j), oi_eq (cgz43.trans j2)]), dj_J⟩, by rw [ht]; exact hP⟩⟩, hS.F ht⟩) hS.2.2 dX4_readMoves_50
      · have t36 := tq_eq (k := z33.toInt) (q := (0)) c36 rfl (by decide +kernel)
        refine lv_iconst (v := 0) hx hb dX4_readMoves_39 (by decide +kernel) ?_
        subst hR; subst hQz
        exact W.zret (v := 0) hx hb hr (by decide +kernel) (fun t ht hW => ⟨⟨0, 0, rfl, ⟨rfl, ⟨by decide +kernel, by decide +kernel⟩⟩, ⟨Iz33, J, ⟨hIz33, fr_Iz33, (by unfold pmv; rw [if_pos (rdW_yes fz3 t6).1]; exact rdP_0 (rdP_bind (g := fun t => ps t 20) (rdP_S (rdW_then (g := fun t => ps t 20) fz3 t6 fz14) (rd_fr (by rw [qIz27, va_up_ne _ _ (ne_k hKp0 hKp1 (by decide))]))) t17 fz33) t36), (fun h => absurd (by decide +kernel) h), dj_J⟩, by rw [ht]; exact hP⟩⟩, hS.F ht⟩) hS.2.2 dX4_readMoves_40
    · have t17 := tq_eq (k := z14.toInt) (q := (0)) c17 rfl (by decide +kernel)
      refine lv_iconst (v := 0) hx hb dX4_readMoves_20 (by decide +kernel) ?_
      subst hR; subst hQz
      exact W.zret (v := 0) hx hb hr (by decide +kernel) (fun t ht hW => ⟨⟨0, 0, rfl, ⟨rfl, ⟨by decide +kernel, by decide +kernel⟩⟩, ⟨Iz14, J, ⟨hIz14, fr_Iz14, (by unfold pmv; rw [if_pos (rdW_yes fz3 t6).1]; exact rdP_f (rdP_0 (rdW_then (g := fun t => ps t 20) fz3 t6 fz14) t17)), (fun h => absurd (by decide +kernel) h), dj_J⟩, by rw [ht]; exact hP⟩⟩, hS.F ht⟩) hS.2.2 dX4_readMoves_21
  · have t6 := tq_eq (k := z3.toInt) (q := (0)) c6 rfl (by decide +kernel)
    refine lv_iconst (v := 1) hx hb dX4_readMoves_9 (by decide +kernel) ?_
    subst hR; subst hQz
    exact W.zret (v := 1) hx hb hr (by decide +kernel) (fun t ht hW => ⟨⟨1, 1, rfl, ⟨rfl, ⟨by decide +kernel, by decide +kernel⟩⟩, ⟨Iz3, J, ⟨hIz3, fr_Iz3, (by have q := rdW_no fz3 t6; unfold pmv; rw [if_neg q.1]; exact rdP_yes (by decide +kernel) q.2), (fun _ => by have y := rdW_no fz3 t6; unfold mvT; rw [if_neg y.1, frc3 p1 (ne_k hKp1 hKp0 (by decide))]), dj_J⟩, by rw [ht]; exact hP⟩⟩, hS.F ht⟩) hS.2.2 dX4_readMoves_10

set_option maxHeartbeats 4000000 in
set_option maxRecDepth 100000 in
theorem s_X4_readBody (l : Launch) (dC : Nat → ClassId) (dI : Nat → Nat → Nat) (cs : Nat → ClassId) (L : List Nat) (K G : Nat → Nat) (Q : Nat → Nat → Option Nat) (hQ : Sv L K G Q) (x0 m0 : Nat) (tx : GT) (tm : GT × Int) (sz : Nat) (I : Nat → Nat → Int32) (J : Nat → Nat → Int64) (hI : Iv L K x0 m0 tx tm I) (p0 : Nat) (hLp0 : p0 ∈ L) (hKp0 : K p0 = 4) (p1 : Nat) (hLp1 : p1 ∈ L) (hKp1 : K p1 = 1) : Met l yX4_readBody (.code yX4_readBody cX4_readBody 5 (some .boolean) :: pw) ({ frames := 6, cells := 0, slots := 0, locals := 129 }) (sPX (dC, dI) cs [.ref p0, .ref p1] sz L K I J Q (fun q => q ∈ L ∨ sz ≤ q) (fun A U H => xS A U H)) (va_Qi (fun (r : Int32) (u : Int32) => u = r ∧ ((0) ≤ r.toInt ∧ r.toInt ≤ 1)) (fun u t => sB (dC, dI) cs L K Q (fun I1 J1 => Iv L K x0 m0 tx tm I1 ∧ (∀ b, ¬ (b = p0 ∨ b = p1 ∨ b = fb Q p1 ((I p1 3).toInt.toNat % 10)) → I1 b = I b) ∧ ((10 ≤ (I p1 3).toInt → u.toInt = 0 ∧ rdF I I1 p0 (8 * (I p0 3).toInt + 3)) ∧ ((I p1 3).toInt < 10 → rdP I I1 p0 u (pbd (tb tx.2.2 (I p0 1).toInt) (I p1 2).toInt (I p0 2).toInt) ∧ (u.toInt = 1 → (I1 p1 3).toInt = (I p1 3).toInt + 1 ∧ I1 p1 2 = I p1 2))) ∧ ((¬ u.toInt = 0 → I1 (fb Q p1 ((I p1 3).toInt.toNat % 10)) = bdT (tb tx.2.2 (I p0 1).toInt) (I p1 2).toInt (I p0 2).toInt (I (fb Q p1 ((I p1 3).toInt.toNat % 10)))) ∧ ∀ k, ¬ k = 3 → I1 p1 k = I p1 k) ∧ J1 = J) t) (fun q => q ∈ L ∨ sz ≤ q)) 0 0 (fun q => q ∈ L ∨ sz ≤ q) := by
  refine Met.ofW (cc := cX4_readBody) (maxL := 5) (ret := (some .boolean)) (by decide +kernel) rfl ?_
  intro p e s m args below meth c s₁ B hml hv
  obtain ⟨rfl, ⟨hsz, hP, hK, hD0, hN⟩, hXs⟩ := hv
  have hx := B.exec
  have hb := B.bytes
  have hr := B.returns
  have hts := fun w (h : w ∈ pw) => atoms_spec (ws := Cond.code yX4_readBody cX4_readBody 5 (some .boolean) :: pw) B.pre w (List.mem_cons_of_mem _ h)
  have hown : s.vm.findClass RX4 = some m.cls := findClass_of_methodNamed B.named
  have hlocks := B.notSynchronized
  subst hsz
  have hBB : 999 ≤ tm.2 ∧ tm.2 ≤ 6000000 := hI.2.2.2.2.1
  have dj_J : J = J := rfl
  have fr_I : ∀ b, ¬ (b = p0 ∨ b = p1 ∨ b = fb Q p1 ((I p1 3).toInt.toNat % 10)) → I b = I b := fun _ _ => rfl
  obtain ⟨A, hAe⟩ : ∃ A : Nat → Prop, A = (fun q => q ∈ L ∨ s.heap.size ≤ q) := ⟨_, rfl⟩
  rw [← hAe]
  have hAL : ∀ q, q ∈ L → A q := fun q h => by rw [hAe]; exact Or.inl h
  have hA : ∀ q, s.heap.size ≤ q → A q := fun q h => by rw [hAe]; exact Or.inr h
  have hD : ∀ F, va_D A (va_pl L F) := fun F => (hD0 F).weaken (fun k q hk _ => hAL _ (pl_mem hk))
  rw [← hAe] at hXs
  have hxx := hXs
  have hxt := hxx.1
  obtain ⟨H, hHe⟩ : ∃ H : Heap, H = s.heap := ⟨_, rfl⟩
  have hS : va_S A s.heap H [] := by rw [hHe]; exact va_S.rf
  rw [← hHe] at hP
  have hl := lv_entry ([.ref p0, .ref p1]) (n := 5) (Nat.le_of_ble_eq_true rfl)
  rw [lg_entry_eq]
  generalize (lg_sl ([.ref p0, .ref p1]) ++ List.replicate (5 - (lg_sl ([.ref p0, .ref p1])).length) Slot.unset).toArray = ls at hl ⊢
  have hl : lv_has ls 5 [(0, .ref p0), (1, .ref p1)] := hl
  rw [← hHe]
  refine namedW (fun R Qz hR hQz => ?_)
  refine lv_aload_n hx hb dX4_readBody_0 rfl (lv_at hl 1 rfl) ?_
  refine p_get hx hb hts inX1 hown hK hP hLp1 hKp1 rfl rfl 3 (by decide) (hts _ pq227) rfl dX4_readBody_1 ?_
  refine lv_topi (fun z1 ez1 => ?_)
  have cgz1 := congrArg Int32.toInt ez1
  have bz1 := oI_1_3 (Iv_at hI hLp1 hKp1)
  rw [← ez1] at bz1
  refine lv_bipush (v := 10) hx hb dX4_readBody_4 (by decide +kernel) ?_
  refine lv_icmp_lt (tgt := 19) hx hb dX4_readBody_6 (by decide) (fun c6 => ?_) (fun c6 => ?_)
  · have t6 := tq_lt (k := z1.toInt) (q := (10)) c6 rfl (by decide +kernel)
    refine lv_aload_n hx hb dX4_readBody_19 rfl (lv_at hl 0 rfl) ?_
    refine lv_iconst (v := 0) hx hb dX4_readBody_20 (by decide +kernel) ?_
    refine lv_aload_n hx hb dX4_readBody_21 rfl (lv_at hl 1 rfl) ?_
    refine p_get hx hb hts inX1 hown hK hP hLp1 hKp1 rfl rfl 2 (by decide) (hts _ pq222) rfl dX4_readBody_22 ?_
    refine lv_topi (fun z22 ez22 => ?_)
    have bz22 := oI_1_2 (Iv_at hI hLp1 hKp1)
    rw [← ez22] at bz22
    refine lv_iconst (v := 1) hx hb dX4_readBody_25 (by decide +kernel) ?_
    refine lv_isub hx hb dX4_readBody_26 ?_
    refine lv_topi (fun z26 ez26 => ?_)
    have bz26 := tq_sub (k := z22.toInt) (q := (1)) ez26 rfl (by decide +kernel) (by omega) (by omega)
    refine sw_ir (Z := (fun u => (fun I1 J1 => Iv L K x0 m0 tx tm I1 ∧ (∀ b, ¬ (b = p0) → I1 b = I b) ∧ (¬ u.toInt = 0 → (0 : Int32).toInt ≤ (I1 p0 4).toInt ∧ (I1 p0 4).toInt ≤ z26.toInt) ∧ rdP I I1 p0 u (pn (tb tx.2.2 (I p0 1).toInt) (0 : Int32).toInt z26.toInt (I p0 2).toInt) ∧ (¬ u.toInt = 0 → (I1 p0 4).toInt = nv (tb tx.2.2 (I p0 1).toInt) (I p0 2).toInt) ∧ J1 = J))) (va_runV (As := [.int 0, .int z26]) (rest := []) ⟨hx, hb, hml, hown, hts⟩ (s_X4_readNumber l dC dI cs L K G Q hQ x0 m0 tx tm H.size I J hI p0 hLp0 hKp0 0 ⟨by decide +kernel, by decide +kernel⟩ z26 ⟨by omega, by omega⟩) (cwV 2 hts (gV pq487 pq488 pq489 pq78 pq490) rfl rfl rfl (by decide +kernel) ⟨(by rw [hR]; exact (Nat.le_of_ble_eq_true rfl)), (by rw [hR]; exact (Nat.le_of_ble_eq_true rfl))⟩) (sP_V hP hD hK hN hLp0 hKp0 rfl rfl) rfl rfl hl.1 rfl (lv_room (Nat.le_of_ble_eq_true rfl)) dX4_readBody_27 ⟨(by rw [hR]; exact (Nat.le_of_ble_eq_true rfl)), (by rw [hR]; exact (Nat.le_of_ble_eq_true rfl))⟩) hS hAL hA (fun z27 Iz27 Jz27 H locs hz27 hIz27 hP hS => ?_)
    obtain ⟨hIz27, frc27, zr27, fz27, jz27, djc27⟩ := hIz27
    obtain rfl : J = Jz27 := djc27.symm
    have fr_Iz27 : ∀ b, ¬ (b = p0 ∨ b = p1 ∨ b = fb Q p1 ((I p1 3).toInt.toNat % 10)) → Iz27 b = I b := fun b q => (frc27 b (fun z => q (by omega))).trans (fr_I b q)
    have cst27_0 : (0 : Int32).toInt = 0 := by decide +kernel
    have bz27 := hz27
    refine lv_if_ne (tgt := 35) hx hb dX4_readBody_30 (by decide) (fun c30 => ?_) (fun c30 => ?_)
    · have t30 := tq_ne (k := z27.toInt) (q := (0)) c30 rfl (by decide +kernel)
      have iz30 := zr27 t30
      refine lv_aload_n hx hb dX4_readBody_35 rfl (lv_at hl 0 rfl) ?_
      refine p_get hx hb hts inX4 hown hK hP hLp0 hKp0 rfl rfl 4 (by decide) (hts _ pq251) rfl dX4_readBody_36 ?_
      refine lv_topi (fun z36 ez36 => ?_)
      have cgz36 := congrArg Int32.toInt ez36
      have bz36 := oI_4_4 (Iv_at hIz27 hLp0 hKp0)
      rw [← ez36] at bz36
      refine lv_istore_n (lv' := [(2, .int z36), (0, .ref p0), (1, .ref p1)]) hx hb dX4_readBody_39 rfl hl (by decide) rfl (fun ls hl => ?_)
      refine lv_aload_n hx hb dX4_readBody_40 rfl (lv_at hl 1 rfl) ?_
      refine lv_sipush (v := 999) hx hb dX4_readBody_41 (by decide +kernel) ?_
      refine sw_ir (Z := (fun u => (fun I1 J1 => Iv L K x0 m0 tx tm I1 ∧ (∀ b, ¬ (b = p0) → I1 b = Iz27 b) ∧ (¬ u.toInt = 0 → -(999 : Int32).toInt ≤ (I1 p0 4).toInt ∧ (I1 p0 4).toInt ≤ (999 : Int32).toInt) ∧ rdP Iz27 I1 p0 u (ps (tb tx.2.2 (Iz27 p0 1).toInt) (999 : Int32).toInt (Iz27 p0 2).toInt) ∧ (¬ u.toInt = 0 → (I1 p0 4).toInt = sv (tb tx.2.2 (Iz27 p0 1).toInt) (Iz27 p0 2).toInt) ∧ J1 = J))) (va_runV (As := [.int 999]) (rest := []) ⟨hx, hb, hml, hown, hts⟩ (s_X4_readSigned l dC dI cs L K G Q hQ x0 m0 tx tm H.size Iz27 J hIz27 p0 hLp0 hKp0 999 ⟨by decide +kernel, by decide +kernel⟩) (cwV 1 hts (gV pq562 pq563 pq564 pq78 pq565) rfl rfl rfl (by decide +kernel) ⟨(by rw [hR]; exact (Nat.le_of_ble_eq_true rfl)), (by rw [hR]; exact (Nat.le_of_ble_eq_true rfl))⟩) (sP_V hP hD hK hN hLp0 hKp0 rfl rfl) rfl rfl hl.1 rfl (lv_room (Nat.le_of_ble_eq_true rfl)) dX4_readBody_44 ⟨(by rw [hR]; exact (Nat.le_of_ble_eq_true rfl)), (by rw [hR]; exact (Nat.le_of_ble_eq_true rfl))⟩) hS hAL hA (fun z44 Iz44 Jz44 H locs hz44 hIz44 hP hS => ?_)
      obtain ⟨hIz44, frc44, zr44, fz44, jz44, djc44⟩ := hIz44
      obtain rfl : J = Jz44 := djc44.symm
      have fr_Iz44 : ∀ b, ¬ (b = p0 ∨ b = p1 ∨ b = fb Q p1 ((I p1 3).toInt.toNat % 10)) → Iz44 b = I b := fun b q => (frc44 b (fun z => q (by omega))).trans (fr_Iz27 b q)
      have cst44_999 : (999 : Int32).toInt = 999 := by decide +kernel
      have bz44 := hz44
      refine lv_if_ne (tgt := 52) hx hb dX4_readBody_47 (by decide) (fun c47 => ?_) (fun c47 => ?_)
      · have t47 := tq_ne (k := z44.toInt) (q := (0)) c47 rfl (by decide +kernel)
        have iz47 := zr44 t47
        refine lv_aload_n hx hb dX4_readBody_52 rfl (lv_at hl 1 rfl) ?_
        refine p_get hx hb hts inX4 hown hK hP hLp0 hKp0 rfl rfl 4 (by decide) (hts _ pq251) rfl dX4_readBody_53 ?_
        refine lv_topi (fun z53 ez53 => ?_)
        have cgz53 := congrArg Int32.toInt ez53
        have bz53 := oI_4_4 (Iv_at hIz44 hLp0 hKp0)
        rw [← ez53] at bz53
        refine lv_istore_n (lv' := [(3, .int z53), (2, .int z36), (0, .ref p0), (1, .ref p1)]) hx hb dX4_readBody_56 rfl hl (by decide) rfl (fun ls hl => ?_)
        refine lv_aload_n hx hb dX4_readBody_57 rfl (lv_at hl 2 rfl) ?_
        refine lv_sipush (v := 999) hx hb dX4_readBody_58 (by decide +kernel) ?_
        refine sw_ir (Z := (fun u => (fun I1 J1 => Iv L K x0 m0 tx tm I1 ∧ (∀ b, ¬ (b = p0) → I1 b = Iz44 b) ∧ (¬ u.toInt = 0 → -(999 : Int32).toInt ≤ (I1 p0 4).toInt ∧ (I1 p0 4).toInt ≤ (999 : Int32).toInt) ∧ rdP Iz44 I1 p0 u (ps (tb tx.2.2 (Iz44 p0 1).toInt) (999 : Int32).toInt (Iz44 p0 2).toInt) ∧ (¬ u.toInt = 0 → (I1 p0 4).toInt = sv (tb tx.2.2 (Iz44 p0 1).toInt) (Iz44 p0 2).toInt) ∧ J1 = J))) (va_runV (As := [.int 999]) (rest := []) ⟨hx, hb, hml, hown, hts⟩ (s_X4_readSigned l dC dI cs L K G Q hQ x0 m0 tx tm H.size Iz44 J hIz44 p0 hLp0 hKp0 999 ⟨by decide +kernel, by decide +kernel⟩) (cwV 1 hts (gV pq562 pq563 pq564 pq78 pq565) rfl rfl rfl (by decide +kernel) ⟨(by rw [hR]; exact (Nat.le_of_ble_eq_true rfl)), (by rw [hR]; exact (Nat.le_of_ble_eq_true rfl))⟩) (sP_V hP hD hK hN hLp0 hKp0 rfl rfl) rfl rfl hl.1 rfl (lv_room (Nat.le_of_ble_eq_true rfl)) dX4_readBody_61 ⟨(by rw [hR]; exact (Nat.le_of_ble_eq_true rfl)), (by rw [hR]; exact (Nat.le_of_ble_eq_true rfl))⟩) hS hAL hA (fun z61 Iz61 Jz61 H locs hz61 hIz61 hP hS => ?_)
        obtain ⟨hIz61, frc61, zr61, fz61, jz61, djc61⟩ := hIz61
        obtain rfl : J = Jz61 := djc61.symm
        have fr_Iz61 : ∀ b, ¬ (b = p0 ∨ b = p1 ∨ b = fb Q p1 ((I p1 3).toInt.toNat % 10)) → Iz61 b = I b := fun b q => (frc61 b (fun z => q (by omega))).trans (fr_Iz44 b q)
        have cst61_999 : (999 : Int32).toInt = 999 := by decide +kernel
        have bz61 := hz61
        refine lv_if_ne (tgt := 69) hx hb dX4_readBody_64 (by decide) (fun c64 => ?_) (fun c64 => ?_)
        · have t64 := tq_ne (k := z61.toInt) (q := (0)) c64 rfl (by decide +kernel)
          have iz64 := zr61 t64
          refine lv_aload_n hx hb dX4_readBody_69 rfl (lv_at hl 3 rfl) ?_
          obtain ⟨y70, ey70, hLy70, hKy70, hGy70⟩ := oQ_1_1 (Sv_at hQ hLp1 hKp1)
          refine p_get (v := .ref y70) hx hb hts inX1 hown hK hP hLp1 hKp1 rfl rfl 1 (by decide) (hts _ pq220) (congrArg (fun q => some (va_rf q)) ey70) dX4_readBody_70 ?_
          refine lv_aload_n hx hb dX4_readBody_73 rfl (lv_at hl 3 rfl) ?_
          refine p_get hx hb hts inX1 hown hK hP hLp1 hKp1 rfl rfl 3 (by decide) (hts _ pq227) rfl dX4_readBody_74 ?_
          refine lv_topi (fun z74 ez74 => ?_)
          obtain rfl : z1 = z74 := by rw [ez74, frc61 p1 (ne_k hKp1 hKp0 (by decide)), frc44 p1 (ne_k hKp1 hKp0 (by decide)), frc27 p1 (ne_k hKp1 hKp0 (by decide))]; exact ez1
          have ez1x74 := ez74
          obtain ⟨y77, ey77, hLy77, hKy77, hGy77⟩ := (Sv_at hQ hLy70 hKy70).1 z1.toNatClampNeg (clamp_lt (n := 10) (in_of (by omega) (by omega)))
          refine p_aaldR hx hb hK hP 4 hLy70 hKy70 rfl rfl (in_of (by omega) (by omega)) ey77 dX4_readBody_77 ?_
          have fbE : fb Q p1 ((I p1 3).toInt.toNat % 10) = y77 := by rw [← ez1, Nat.mod_eq_of_lt (show z1.toInt.toNat < 10 by omega)]; exact fb_of ey70 ey77
          have n10 : ¬ p1 = p0 := ne_k hKp1 hKp0 (by decide)
          have n77 : ¬ p1 = y77 := ne_k hKp1 hKy77 (by decide)
          refine lv_astore (lv' := [(4, .ref y77), (3, .int z53), (2, .int z36), (0, .ref p0), (1, .ref p1)]) hx hb dX4_readBody_78 hl (by decide) rfl (fun ls hl => ?_)
          refine lv_aload_n hx hb dX4_readBody_80 rfl (lv_at hl 4 rfl) ?_
          refine lv_dup hx hb dX4_readBody_81 rfl ?_
          refine p_get hx hb hts inX1 hown hK hP hLp1 hKp1 rfl rfl 3 (by decide) (hts _ pq227) rfl dX4_readBody_82 ?_
          refine lv_topi (fun z82 ez82 => ?_)
          obtain rfl : z1 = z82 := by rw [ez82, frc61 p1 (ne_k hKp1 hKp0 (by decide)), frc44 p1 (ne_k hKp1 hKp0 (by decide)), frc27 p1 (ne_k hKp1 hKp0 (by decide))]; exact ez1
          have ez1x82 := ez82
          refine lv_iconst (v := 1) hx hb dX4_readBody_85 (by decide +kernel) ?_
          refine lv_iadd hx hb dX4_readBody_86 ?_
          refine lv_topi (fun z86 ez86 => ?_)
          have bz86 := tq_add (k := z1.toInt) (q := (1)) ez86 rfl (by decide +kernel) (by omega) (by omega)
          refine p_put hx hb hts inX1 tyX1 tyX1_ok nmX1 hown hK hP hD hS hLp1 hKp1 rfl rfl 3 (by decide) (hts _ pq227) rfl (by decide +kernel) (Nat.le_of_ble_eq_true rfl) (oS_1_3 cs _ _ _ _) dX4_readBody_87 (fun H locs hP hS => ?_)
          obtain ⟨Iz87, hP, hIz87, qIz87⟩ : ∃ Iz87, va_P (dC, dI) vwCl (Wd cs L K Iz87 J Q) H ∧ Iv L K x0 m0 tx tm Iz87 ∧ Iz87 = va_up Iz61 p1 (upd (Iz61 p1) 3 z86) := ⟨_, hP, Iv_put hIz61 hKp1 (oP_1_3 (Iv_at hIz61 hLp1 hKp1) ⟨by omega, by omega⟩) (by decide) (by decide), rfl⟩
          have fr_Iz87 : ∀ b, ¬ (b = p0 ∨ b = p1 ∨ b = fb Q p1 ((I p1 3).toInt.toNat % 10)) → Iz87 b = I b := fun b q => (congrFun qIz87 b).trans ((va_up_ne _ _ (fun z => q (by omega))).trans (fr_Iz61 b q))
          refine lv_aload hx hb dX4_readBody_90 (lv_at hl 0 rfl) ?_
          refine lv_iload_n hx hb dX4_readBody_92 rfl (lv_at hl 2 rfl) ?_
          refine lv_iload_n hx hb dX4_readBody_93 rfl (lv_at hl 1 rfl) ?_
          refine lv_aload_n hx hb dX4_readBody_94 rfl (lv_at hl 3 rfl) ?_
          refine p_get hx hb hts inX4 hown hK hP hLp0 hKp0 rfl rfl 4 (by decide) (hts _ pq251) rfl dX4_readBody_95 ?_
          refine lv_topi (fun z95 ez95 => ?_)
          have cgz95 := congrArg Int32.toInt ez95
          have bz95 := oI_4_4 (Iv_at hIz87 hLp0 hKp0)
          rw [← ez95] at bz95
          have c95 := congrArg Int32.toInt (ez95.trans (show Iz87 p0 4 = Iz61 p0 4 by rw [qIz87, va_up_ne _ _ (ne_k hKp0 hKp1 (by decide))]))
          refine sw_v (Z := (fun I1 J1 => Iv L K x0 m0 tx tm I1 ∧ (∀ b, ¬ (b = y77) → I1 b = Iz87 b) ∧ (I1 y77 = stB z36 z53 z95 (Iz87 y77)) ∧ J1 = J)) (va_runV (As := [.int z36, .int z53, .int z95]) (rest := []) ⟨hx, hb, hml, hown, hts⟩ (s_X0_settle l dC dI cs L K G Q hQ x0 m0 tx tm H.size Iz87 J hIz87 y77 hLy77 hKy77 z36 ⟨by omega, by omega⟩ z53 ⟨by omega, by omega⟩ z95 ⟨by omega, by omega⟩) (cwV 3 hts (gV pq566 pq567 pq568 pq77 pq569) rfl rfl rfl (by decide +kernel) ⟨(by rw [hR]; exact (Nat.le_of_ble_eq_true rfl)), (by rw [hR]; exact (Nat.le_of_ble_eq_true rfl))⟩) (sP_V hP hD hK hN hLy77 hKy77 rfl rfl) rfl rfl hl.1 rfl (lv_room (Nat.le_of_ble_eq_true rfl)) dX4_readBody_98 ⟨(by rw [hR]; exact (Nat.le_of_ble_eq_true rfl)), (by rw [hR]; exact (Nat.le_of_ble_eq_true rfl))⟩) hS hAL hA (fun Iz98 Jz98 H locs hz98 hIz98 hP hS => ?_)
          obtain ⟨hIz98, frc98, fz98, djc98⟩ := hIz98
          obtain rfl : J = Jz98 := djc98.symm
          have fr_Iz98 : ∀ b, ¬ (b = p0 ∨ b = p1 ∨ b = fb Q p1 ((I p1 3).toInt.toNat % 10)) → Iz98 b = I b := fun b q => (frc98 b (fun z => q (by omega))).trans (fr_Iz87 b q)
          refine lv_aload_n hx hb dX4_readBody_101 rfl (lv_at hl 3 rfl) ?_
          refine lv_aload hx hb dX4_readBody_102 (lv_at hl 0 rfl) ?_
          refine sw_ir (Z := (fun u => (fun I1 J1 => Iv L K x0 m0 tx tm I1 ∧ (∀ b, ¬ (b = p0 ∨ b = y77) → I1 b = Iz98 b) ∧ rdP Iz98 I1 p0 u (pfl (tb tx.2.2 (Iz98 p0 1).toInt) (Iz98 p0 2).toInt) ∧ (¬ u.toInt = 0 → I1 y77 = flT (tb tx.2.2 (Iz98 p0 1).toInt) (Iz98 p0 2).toInt (Iz98 y77)) ∧ J1 = J))) (va_runV (As := [.ref y77]) (rest := []) ⟨hx, hb, hml, hown, hts⟩ (s_X4_readFlip l dC dI cs L K G Q hQ x0 m0 tx tm H.size Iz98 J hIz98 p0 hLp0 hKp0 y77 hLy77 hKy77) (cwV 1 hts (gV pq570 pq571 pq572 pq78 pq573) rfl rfl rfl (by decide +kernel) ⟨(by rw [hR]; exact (Nat.le_of_ble_eq_true rfl)), (by rw [hR]; exact (Nat.le_of_ble_eq_true rfl))⟩) (sPX_V hP hD hK hN hLp0 hKp0 rfl rfl gX_x hS hxx (fun q h => h.elim (hAL q) (fun h => hA q (Nat.le_trans hS.1 h)))) rfl rfl hl.1 rfl (lv_room (Nat.le_of_ble_eq_true rfl)) dX4_readBody_104 ⟨(by rw [hR]; exact (Nat.le_of_ble_eq_true rfl)), (by rw [hR]; exact (Nat.le_of_ble_eq_true rfl))⟩) hS hAL hA (fun z104 Iz104 Jz104 H locs hz104 hIz104 hP hS => ?_)
          obtain ⟨hIz104, frc104, fz104, jz104, djc104⟩ := hIz104
          obtain rfl : J = Jz104 := djc104.symm
          have fr_Iz104 : ∀ b, ¬ (b = p0 ∨ b = p1 ∨ b = fb Q p1 ((I p1 3).toInt.toNat % 10)) → Iz104 b = I b := fun b q => (frc104 b (fun z => q (by omega))).trans (fr_Iz98 b q)
          have bz104 := hz104
          refine lv_if_eq (tgt := 132) hx hb dX4_readBody_107 (by decide) (fun c107 => ?_) (fun c107 => ?_)
          · have t107 := tq_eq (k := z104.toInt) (q := (0)) c107 rfl (by decide +kernel)
            refine lv_iconst (v := 0) hx hb dX4_readBody_132 (by decide +kernel) ?_
            subst hR; subst hQz
            exact W.zret (v := 0) hx hb hr (by decide +kernel) (fun t ht hW => ⟨⟨0, 0, rfl, ⟨rfl, ⟨by decide +kernel, by decide +kernel⟩⟩, ⟨Iz104, J, ⟨hIz104, fr_Iz104, ⟨fun h => absurd h (by rw [← ez1]; omega), fun _ => ⟨rdP_f (rdP_f (rdP_0 (rdP_bind (g := pfl) (rdP_S (rdP_bind (g := fun t => ps t 999) (rdP_bind (g := fun t => ps t 999) (show rdP I Iz27 p0 z27 (pn (tb tx.2.2 (I p0 1).toInt) 0 ((I p1 2).toInt - 1) (I p0 2).toInt) by have q := fz27; rw [show z26.toInt = (I p1 2).toInt - 1 by rw [bz26, ez22]] at q; exact q) t30 fz44) t47 fz61) (rd_fr (by rw [frc98 p0 (ne_k hKp0 hKy77 (by decide)), qIz87, va_up_ne _ _ (ne_k hKp0 hKp1 (by decide))]))) t64 fz104) t107)), fun h => absurd h (by decide +kernel)⟩⟩, ⟨fun h => absurd (by first | decide +kernel | omega) h, fun k hk => by rw [frc104 p1 (by omega), frc98 p1 n77, qIz87, rz_fr _ _ _ _ hk, frc61 p1 (ne_k hKp1 hKp0 (by decide)), frc44 p1 (ne_k hKp1 hKp0 (by decide)), frc27 p1 (ne_k hKp1 hKp0 (by decide))]⟩, dj_J⟩, by rw [ht]; exact hP⟩⟩, hS.F ht⟩) hS.2.2 dX4_readBody_133
          · have t107 := tq_ne (k := z104.toInt) (q := (0)) c107 rfl (by decide +kernel)
            refine lv_aload_n hx hb dX4_readBody_110 rfl (lv_at hl 3 rfl) ?_
            refine lv_aload hx hb dX4_readBody_111 (lv_at hl 0 rfl) ?_
            refine sw_ir (Z := (fun u => (fun I1 J1 => Iv L K x0 m0 tx tm I1 ∧ (∀ b, ¬ (b = p0 ∨ b = y77) → I1 b = Iz104 b) ∧ rdP Iz104 I1 p0 u (ply (tb tx.2.2 (Iz104 p0 1).toInt) (Iz104 p0 2).toInt) ∧ (¬ u.toInt = 0 → I1 y77 = lyT (tb tx.2.2 (Iz104 p0 1).toInt) (Iz104 p0 2).toInt (Iz104 y77)) ∧ J1 = J))) (va_runV (As := [.ref y77]) (rest := []) ⟨hx, hb, hml, hown, hts⟩ (s_X4_readLayers l dC dI cs L K G Q hQ x0 m0 tx tm H.size Iz104 J hIz104 p0 hLp0 hKp0 y77 hLy77 hKy77) (cwV 1 hts (gV pq575 pq576 pq577 pq78 pq578) rfl rfl rfl (by decide +kernel) ⟨(by rw [hR]; exact (Nat.le_of_ble_eq_true rfl)), (by rw [hR]; exact (Nat.le_of_ble_eq_true rfl))⟩) (sPX_V hP hD hK hN hLp0 hKp0 rfl rfl gX_x hS hxx (fun q h => h.elim (hAL q) (fun h => hA q (Nat.le_trans hS.1 h)))) rfl rfl hl.1 rfl (lv_room (Nat.le_of_ble_eq_true rfl)) dX4_readBody_113 ⟨(by rw [hR]; exact (Nat.le_of_ble_eq_true rfl)), (by rw [hR]; exact (Nat.le_of_ble_eq_true rfl))⟩) hS hAL hA (fun z113 Iz113 Jz113 H locs hz113 hIz113 hP hS => ?_)
            obtain ⟨hIz113, frc113, fz113, jz113, djc113⟩ := hIz113
            obtain rfl : J = Jz113 := djc113.symm
            have fr_Iz113 : ∀ b, ¬ (b = p0 ∨ b = p1 ∨ b = fb Q p1 ((I p1 3).toInt.toNat % 10)) → Iz113 b = I b := fun b q => (frc113 b (fun z => q (by omega))).trans (fr_Iz104 b q)
            have bz113 := hz113
            refine lv_if_eq (tgt := 132) hx hb dX4_readBody_116 (by decide) (fun c116 => ?_) (fun c116 => ?_)
            · have t116 := tq_eq (k := z113.toInt) (q := (0)) c116 rfl (by decide +kernel)
              refine lv_iconst (v := 0) hx hb dX4_readBody_132 (by decide +kernel) ?_
              subst hR; subst hQz
              exact W.zret (v := 0) hx hb hr (by decide +kernel) (fun t ht hW => ⟨⟨0, 0, rfl, ⟨rfl, ⟨by decide +kernel, by decide +kernel⟩⟩, ⟨Iz113, J, ⟨hIz113, fr_Iz113, ⟨fun h => absurd h (by rw [← ez1]; omega), fun _ => ⟨rdP_f (rdP_0 (rdP_bind (g := ply) (rdP_bind (g := pfl) (rdP_S (rdP_bind (g := fun t => ps t 999) (rdP_bind (g := fun t => ps t 999) (show rdP I Iz27 p0 z27 (pn (tb tx.2.2 (I p0 1).toInt) 0 ((I p1 2).toInt - 1) (I p0 2).toInt) by have q := fz27; rw [show z26.toInt = (I p1 2).toInt - 1 by rw [bz26, ez22]] at q; exact q) t30 fz44) t47 fz61) (rd_fr (by rw [frc98 p0 (ne_k hKp0 hKy77 (by decide)), qIz87, va_up_ne _ _ (ne_k hKp0 hKp1 (by decide))]))) t64 fz104) t107 fz113) t116), fun h => absurd h (by decide +kernel)⟩⟩, ⟨fun h => absurd (by first | decide +kernel | omega) h, fun k hk => by rw [frc113 p1 (by omega), frc104 p1 (by omega), frc98 p1 n77, qIz87, rz_fr _ _ _ _ hk, frc61 p1 (ne_k hKp1 hKp0 (by decide)), frc44 p1 (ne_k hKp1 hKp0 (by decide)), frc27 p1 (ne_k hKp1 hKp0 (by decide))]⟩, dj_J⟩, by rw [ht]; exact hP⟩⟩, hS.F ht⟩) hS.2.2 dX4_readBody_133
            · have t116 := tq_ne (k := z113.toInt) (q := (0)) c116 rfl (by decide +kernel)
              refine lv_aload_n hx hb dX4_readBody_119 rfl (lv_at hl 3 rfl) ?_
              refine lv_aload hx hb dX4_readBody_120 (lv_at hl 0 rfl) ?_
              refine sw_ir (Z := (fun u => (fun I1 J1 => Iv L K x0 m0 tx tm I1 ∧ (∀ b, ¬ (b = p0 ∨ b = y77) → I1 b = Iz113 b) ∧ rdP Iz113 I1 p0 u (pmv (tb tx.2.2 (Iz113 p0 1).toInt) (Iz113 p0 2).toInt) ∧ (¬ u.toInt = 0 → I1 y77 = mvT (tb tx.2.2 (Iz113 p0 1).toInt) (Iz113 p0 2).toInt (Iz113 y77)) ∧ J1 = J))) (va_runV (As := [.ref y77]) (rest := []) ⟨hx, hb, hml, hown, hts⟩ (s_X4_readMoves l dC dI cs L K G Q hQ x0 m0 tx tm H.size Iz113 J hIz113 p0 hLp0 hKp0 y77 hLy77 hKy77) (cwV 1 hts (gV pq580 pq581 pq582 pq78 pq583) rfl rfl rfl (by decide +kernel) ⟨(by rw [hR]; exact (Nat.le_of_ble_eq_true rfl)), (by rw [hR]; exact (Nat.le_of_ble_eq_true rfl))⟩) (sPX_V hP hD hK hN hLp0 hKp0 rfl rfl gX_x hS hxx (fun q h => h.elim (hAL q) (fun h => hA q (Nat.le_trans hS.1 h)))) rfl rfl hl.1 rfl (lv_room (Nat.le_of_ble_eq_true rfl)) dX4_readBody_122 ⟨(by rw [hR]; exact (Nat.le_of_ble_eq_true rfl)), (by rw [hR]; exact (Nat.le_of_ble_eq_true rfl))⟩) hS hAL hA (fun z122 Iz122 Jz122 H locs hz122 hIz122 hP hS => ?_)
              obtain ⟨hIz122, frc122, fz122, jz122, djc122⟩ := hIz122
              obtain rfl : J = Jz122 := djc122.symm
              have fr_Iz122 : ∀ b, ¬ (b = p0 ∨ b = p1 ∨ b = fb Q p1 ((I p1 3).toInt.toNat % 10)) → Iz122 b = I b := fun b q => (frc122 b (fun z => q (by omega))).trans (fr_Iz113 b q)
              have bz122 := hz122
              refine lv_if_eq (tgt := 132) hx hb dX4_readBody_125 (by decide) (fun c125 => ?_) (fun c125 => ?_)
              · have t125 := tq_eq (k := z122.toInt) (q := (0)) c125 rfl (by decide +kernel)
                refine lv_iconst (v := 0) hx hb dX4_readBody_132 (by decide +kernel) ?_
                subst hR; subst hQz
                exact W.zret (v := 0) hx hb hr (by decide +kernel) (fun t ht hW => ⟨⟨0, 0, rfl, ⟨rfl, ⟨by decide +kernel, by decide +kernel⟩⟩, ⟨Iz122, J, ⟨hIz122, fr_Iz122, ⟨fun h => absurd h (by rw [← ez1]; omega), fun _ => ⟨rdP_0 (rdP_bind (g := pmv) (rdP_bind (g := ply) (rdP_bind (g := pfl) (rdP_S (rdP_bind (g := fun t => ps t 999) (rdP_bind (g := fun t => ps t 999) (show rdP I Iz27 p0 z27 (pn (tb tx.2.2 (I p0 1).toInt) 0 ((I p1 2).toInt - 1) (I p0 2).toInt) by have q := fz27; rw [show z26.toInt = (I p1 2).toInt - 1 by rw [bz26, ez22]] at q; exact q) t30 fz44) t47 fz61) (rd_fr (by rw [frc98 p0 (ne_k hKp0 hKy77 (by decide)), qIz87, va_up_ne _ _ (ne_k hKp0 hKp1 (by decide))]))) t64 fz104) t107 fz113) t116 fz122) t125, fun h => absurd h (by decide +kernel)⟩⟩, ⟨fun h => absurd (by first | decide +kernel | omega) h, fun k hk => by rw [frc122 p1 (by omega), frc113 p1 (by omega), frc104 p1 (by omega), frc98 p1 n77, qIz87, rz_fr _ _ _ _ hk, frc61 p1 (ne_k hKp1 hKp0 (by decide)), frc44 p1 (ne_k hKp1 hKp0 (by decide)), frc27 p1 (ne_k hKp1 hKp0 (by decide))]⟩, dj_J⟩, by rw [ht]; exact hP⟩⟩, hS.F ht⟩) hS.2.2 dX4_readBody_133
              · have t125 := tq_ne (k := z122.toInt) (q := (0)) c125 rfl (by decide +kernel)
                refine lv_iconst (v := 1) hx hb dX4_readBody_128 (by decide +kernel) ?_
                refine lv_goto (tgt := 133) hx hb dX4_readBody_129 (by decide) ?_
                subst hR; subst hQz
                exact W.zret (v := 1) hx hb hr (by decide +kernel) (fun t ht hW => ⟨⟨1, 1, rfl, ⟨rfl, ⟨by decide +kernel, by decide +kernel⟩⟩, ⟨Iz122, J, ⟨hIz122, fr_Iz122, ⟨fun h => absurd h (by rw [← ez1]; omega), fun _ => ⟨rdP_1 (rdP_bind (g := pmv) (rdP_bind (g := ply) (rdP_bind (g := pfl) (rdP_S (rdP_bind (g := fun t => ps t 999) (rdP_bind (g := fun t => ps t 999) (show rdP I Iz27 p0 z27 (pn (tb tx.2.2 (I p0 1).toInt) 0 ((I p1 2).toInt - 1) (I p0 2).toInt) by have q := fz27; rw [show z26.toInt = (I p1 2).toInt - 1 by rw [bz26, ez22]] at q; exact q) t30 fz44) t47 fz61) (rd_fr (by rw [frc98 p0 (ne_k hKp0 hKy77 (by decide)), qIz87, va_up_ne _ _ (ne_k hKp0 hKp1 (by decide))]))) t64 fz104) t107 fz113) t116 fz122) t125, fun _ => ⟨by rw [frc122 p1 (by omega), frc113 p1 (by omega), frc104 p1 (by omega), frc98 p1 (ne_k hKp1 hKy77 (by decide)), qIz87, rz_at, bz86]; have := congrArg Int32.toInt ez1; omega, by rw [frc122 p1 (by omega), frc113 p1 (by omega), frc104 p1 (by omega), frc98 p1 (ne_k hKp1 hKy77 (by decide)), qIz87, rz_fr _ _ _ _ (by decide), frc61 p1 (ne_k hKp1 hKp0 (by decide)), frc44 p1 (ne_k hKp1 hKp0 (by decide)), frc27 p1 (ne_k hKp1 hKp0 (by decide))]⟩⟩⟩, ⟨fun _ => by rw [fbE]; have q1 := fz27; rw [cst27_0, show z26.toInt = (I p1 2).toInt - 1 by (have := congrArg Int32.toInt ez22; omega)] at q1; have q2 := fz44; rw [cst44_999] at q2; have q3 := fz61; rw [cst61_999] at q3; have q := bd_mk (M := (I p1 2).toInt) q1 t30 q2 t47 q3 t64 (show Iz98 p0 = Iz61 p0 by rw [frc98 p0 (ne_k hKp0 hKy77 (by decide)), qIz87, va_up_ne _ _ (ne_k hKp0 hKp1 (by decide))]) fz104 t107 fz113 t116 (cgz36.trans (jz27 t30)) (cgz53.trans (jz44 t47)) (c95.trans (jz61 t64)) fz98 (jz104 t107) (jz113 t116) (jz122 t125); rw [show Iz87 y77 = I y77 by rw [qIz87, va_up_ne _ _ (ne_k hKy77 hKp1 (by decide)), frc61 y77 (ne_k hKy77 hKp0 (by decide)), frc44 y77 (ne_k hKy77 hKp0 (by decide)), frc27 y77 (ne_k hKy77 hKp0 (by decide))]] at q; exact q, fun k hk => by rw [frc122 p1 (by omega), frc113 p1 (by omega), frc104 p1 (by omega), frc98 p1 n77, qIz87, rz_fr _ _ _ _ hk, frc61 p1 (ne_k hKp1 hKp0 (by decide)), frc44 p1 (ne_k hKp1 hKp0 (by decide)), frc27 p1 (ne_k hKp1 hKp0 (by decide))]⟩, dj_J⟩, by rw [ht]; exact hP⟩⟩, hS.F ht⟩) hS.2.2 dX4_readBody_133
        · have t64 := tq_eq (k := z61.toInt) (q := (0)) c64 rfl (by decide +kernel)
          refine lv_iconst (v := 0) hx hb dX4_readBody_67 (by decide +kernel) ?_
          subst hR; subst hQz
          exact W.zret (v := 0) hx hb hr (by decide +kernel) (fun t ht hW => ⟨⟨0, 0, rfl, ⟨rfl, ⟨by decide +kernel, by decide +kernel⟩⟩, ⟨Iz61, J, ⟨hIz61, fr_Iz61, ⟨fun h => absurd h (by rw [← ez1]; omega), fun _ => ⟨rdP_f (rdP_f (rdP_f (rdP_0 (rdP_bind (g := fun t => ps t 999) (rdP_bind (g := fun t => ps t 999) (show rdP I Iz27 p0 z27 (pn (tb tx.2.2 (I p0 1).toInt) 0 ((I p1 2).toInt - 1) (I p0 2).toInt) by have q := fz27; rw [show z26.toInt = (I p1 2).toInt - 1 by rw [bz26, ez22]] at q; exact q) t30 fz44) t47 fz61) t64))), fun h => absurd h (by decide +kernel)⟩⟩, ⟨fun h => absurd (by first | decide +kernel | omega) h, fun k hk => by rw [frc61 p1 (ne_k hKp1 hKp0 (by decide)), frc44 p1 (ne_k hKp1 hKp0 (by decide)), frc27 p1 (ne_k hKp1 hKp0 (by decide))]⟩, dj_J⟩, by rw [ht]; exact hP⟩⟩, hS.F ht⟩) hS.2.2 dX4_readBody_68
      · have t47 := tq_eq (k := z44.toInt) (q := (0)) c47 rfl (by decide +kernel)
        refine lv_iconst (v := 0) hx hb dX4_readBody_50 (by decide +kernel) ?_
        subst hR; subst hQz
        exact W.zret (v := 0) hx hb hr (by decide +kernel) (fun t ht hW => ⟨⟨0, 0, rfl, ⟨rfl, ⟨by decide +kernel, by decide +kernel⟩⟩, ⟨Iz44, J, ⟨hIz44, fr_Iz44, ⟨fun h => absurd h (by rw [← ez1]; omega), fun _ => ⟨rdP_f (rdP_f (rdP_f (rdP_f (rdP_0 (rdP_bind (g := fun t => ps t 999) (show rdP I Iz27 p0 z27 (pn (tb tx.2.2 (I p0 1).toInt) 0 ((I p1 2).toInt - 1) (I p0 2).toInt) by have q := fz27; rw [show z26.toInt = (I p1 2).toInt - 1 by rw [bz26, ez22]] at q; exact q) t30 fz44) t47)))), fun h => absurd h (by decide +kernel)⟩⟩, ⟨fun h => absurd (by first | decide +kernel | omega) h, fun k hk => by rw [frc44 p1 (ne_k hKp1 hKp0 (by decide)), frc27 p1 (ne_k hKp1 hKp0 (by decide))]⟩, dj_J⟩, by rw [ht]; exact hP⟩⟩, hS.F ht⟩) hS.2.2 dX4_readBody_51
    · have t30 := tq_eq (k := z27.toInt) (q := (0)) c30 rfl (by decide +kernel)
      refine lv_iconst (v := 0) hx hb dX4_readBody_33 (by decide +kernel) ?_
      subst hR; subst hQz
      exact W.zret (v := 0) hx hb hr (by decide +kernel) (fun t ht hW => ⟨⟨0, 0, rfl, ⟨rfl, ⟨by decide +kernel, by decide +kernel⟩⟩, ⟨Iz27, J, ⟨hIz27, fr_Iz27, ⟨fun h => absurd h (by rw [← ez1]; omega), fun _ => ⟨rdP_f (rdP_f (rdP_f (rdP_f (rdP_f (rdP_0 (show rdP I Iz27 p0 z27 (pn (tb tx.2.2 (I p0 1).toInt) 0 ((I p1 2).toInt - 1) (I p0 2).toInt) by have q := fz27; rw [show z26.toInt = (I p1 2).toInt - 1 by rw [bz26, ez22]] at q; exact q) t30))))), fun h => absurd h (by decide +kernel)⟩⟩, ⟨fun h => absurd (by first | decide +kernel | omega) h, fun k hk => by rw [frc27 p1 (ne_k hKp1 hKp0 (by decide))]⟩, dj_J⟩, by rw [ht]; exact hP⟩⟩, hS.F ht⟩) hS.2.2 dX4_readBody_34
  · have t6 := tq_nlt (k := z1.toInt) (q := (10)) c6 rfl (by decide +kernel)
    refine lv_aload_n hx hb dX4_readBody_9 rfl (lv_at hl 0 rfl) ?_
    refine lv_aload_n hx hb dX4_readBody_10 rfl (lv_at hl 0 rfl) ?_
    refine p_get hx hb hts inX4 hown hK hP hLp0 hKp0 rfl rfl 3 (by decide) (hts _ pq250) rfl dX4_readBody_11 ?_
    refine lv_topi (fun z11 ez11 => ?_)
    have bz11 := oI_4_3 (Iv_at hI hLp0 hKp0)
    rw [← ez11] at bz11
    refine lv_iconst (v := 3) hx hb dX4_readBody_14 (by decide +kernel) ?_
    refine sw_ir (Z := (fun u => (fun I1 J1 => Iv L K x0 m0 tx tm I1 ∧ (∀ b, ¬ (b = p0) → I1 b = I b) ∧ rdF I I1 p0 (8 * z11.toInt + (3 : Int32).toInt) ∧ J1 = J))) (va_runV (As := [.int z11, .int 3]) (rest := []) ⟨hx, hb, hml, hown, hts⟩ (s_X4_failAt l dC dI cs L K G Q hQ x0 m0 tx tm H.size I J hI p0 hLp0 hKp0 z11 ⟨by omega, by omega⟩ 3 ⟨by decide +kernel, by decide +kernel⟩) (cwV 2 hts (gV pq478 pq479 pq480 pq78 pq481) rfl rfl rfl (by decide +kernel) ⟨(by rw [hR]; exact (Nat.le_of_ble_eq_true rfl)), (by rw [hR]; exact (Nat.le_of_ble_eq_true rfl))⟩) (sP_V hP hD hK hN hLp0 hKp0 rfl rfl) rfl rfl hl.1 rfl (lv_room (Nat.le_of_ble_eq_true rfl)) dX4_readBody_15 ⟨(by rw [hR]; exact (Nat.le_of_ble_eq_true rfl)), (by rw [hR]; exact (Nat.le_of_ble_eq_true rfl))⟩) hS hAL hA (fun z15 Iz15 Jz15 H locs hz15 hIz15 hP hS => ?_)
    obtain ⟨hIz15, frc15, fz15, djc15⟩ := hIz15
    obtain rfl : J = Jz15 := djc15.symm
    have fr_Iz15 : ∀ b, ¬ (b = p0 ∨ b = p1 ∨ b = fb Q p1 ((I p1 3).toInt.toNat % 10)) → Iz15 b = I b := fun b q => (frc15 b (fun z => q (by omega))).trans (fr_I b q)
    have cst15_3 : (3 : Int32).toInt = 3 := by decide +kernel
    have bz15 := hz15
    subst hR; subst hQz
    exact W.zret (v := z15) hx hb hr (nar01 (by omega) (by omega)) (fun t ht hW => ⟨⟨z15, z15, rfl, ⟨rfl, ⟨by omega, by omega⟩⟩, ⟨Iz15, J, ⟨hIz15, fr_Iz15, ⟨fun _ => ⟨by omega, by have q := fz15; rw [cst15_3, congrArg Int32.toInt ez11] at q; exact q⟩, fun h => absurd h (by rw [← ez1]; omega)⟩, ⟨fun h => absurd (by first | decide +kernel | omega) h, fun k hk => by rw [frc15 p1 (ne_k hKp1 hKp0 (by decide))]⟩, dj_J⟩, by rw [ht]; exact hP⟩⟩, hS.F ht⟩) hS.2.2 dX4_readBody_18

section PFM
variable {f : Nat → Int32} {I Ia Ib Ic I1 : Nat → Nat → Int32} {p : Nat} {u u1 u2 u3 : Int32}
theorem pfm_a (h : rdW f I Ia p u wBox) (hu : ¬ u.toInt = 0) (h2 : rdP Ia I1 p u1 (psz (tb f (Ia p 1).toInt) (Ia p 2).toInt)) : rdP I I1 p u1 (pfm (tb f (I p 1).toInt) (I p 2).toInt) := by
  unfold pfm; rw [if_pos (rdW_yes h hu).1]; exact rdW_then (g := psz) h hu h2
theorem pfm_b (h : rdW f I Ia p u wBox) (hu : u.toInt = 0) (h0 : 0 ≤ (I p 2).toInt) (hn : (I p 1).toInt ≤ 400) (g : rdW f Ia Ib p u1 wFrame) (gu : ¬ u1.toInt = 0) (h2 : rdP Ib I1 p u2 (psz (tb f (Ib p 1).toInt) (Ib p 2).toInt)) : rdP I I1 p u2 (pfm (tb f (I p 1).toInt) (I p 2).toInt) := by
  have k := rdW_no h hu
  have g2 := rdW_next k.2 h0 hn g
  unfold pfm; rw [if_neg k.1, if_pos (rdW_yes g2 gu).1]; exact rdW_then (g := psz) g2 gu h2
theorem pfm_c (h : rdW f I Ia p u wBox) (hu : u.toInt = 0) (h0 : 0 ≤ (I p 2).toInt) (hn : (I p 1).toInt ≤ 400) (g : rdW f Ia Ib p u1 wFrame) (gu : u1.toInt = 0) (k : rdW f Ib Ic p u2 wDisk) (ku : ¬ u2.toInt = 0) (h2 : rdP Ic I1 p u3 (pn (tb f (Ic p 1).toInt) 0 19 (Ic p 2).toInt)) : rdP I I1 p u3 (pfm (tb f (I p 1).toInt) (I p 2).toInt) := by
  have a := rdW_no h hu
  have b := rdW_no (rdW_next a.2 h0 hn g) gu
  have d := rdW_next b.2 h0 hn k
  unfold pfm; rw [if_neg a.1, if_neg b.1, if_pos (rdW_yes d ku).1]; exact rdW_then (g := fun t => pn t 0 19) d ku h2
theorem prw_sk {t : Int → Int} {i : Int} (h : sk t (sk t i) = sk t i) : prw t 41 0 0 (sk t i) = prw t 41 0 0 i := by
  show prw t (40 + 1) 0 0 (sk t i) = prw t (40 + 1) 0 0 i
  unfold prw; rw [h]
theorem pfm_d (h : rdW f I Ia p u wBox) (hu : u.toInt = 0) (h0 : 0 ≤ (I p 2).toInt) (hn : (I p 1).toInt ≤ 400) (g : rdW f Ia Ib p u1 wFrame) (gu : u1.toInt = 0) (k : rdW f Ib Ic p u2 wDisk) (ku : u2.toInt = 0) (h2 : rdP Ic I1 p u3 (prw (tb f (Ic p 1).toInt) 41 0 0 (Ic p 2).toInt)) : rdP I I1 p u3 (pfm (tb f (I p 1).toInt) (I p 2).toInt) := by
  have a := rdW_no h hu
  have b := rdW_no (rdW_next a.2 h0 hn g) gu
  have d := rdW_no (rdW_next b.2 h0 hn k) ku
  unfold pfm; rw [if_neg a.1, if_neg b.1, if_neg d.1]
  rw [d.2.1, d.2.2.1, prw_sk (sk_idem h0 hn)] at h2
  exact rdP_A d.2 h2
end PFM
