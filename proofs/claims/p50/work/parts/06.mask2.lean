def yJ7_fill_d0a16 : MethodName := ⟨RJ7, "fill", "([JJ)V"⟩
abbrev cJ7_fill_d0a16 : ByteArray := prog_19_method_101_code
def yJ13_bitCount_95d88 : MethodName := ⟨RJ13, "bitCount", "(J)I"⟩
abbrev cJ13_bitCount_95d88 : ByteArray := prog_12_method_50_code
def yX3_lowestBit : MethodName := ⟨RX3, "lowestBit", "(JJ)I"⟩
abbrev cX3_lowestBit : ByteArray := prog_5_method_31_code
def yX3_highestBit : MethodName := ⟨RX3, "highestBit", "(JJ)I"⟩
abbrev cX3_highestBit : ByteArray := prog_5_method_32_code
abbrev cX3_become : ByteArray := prog_5_method_7_code
abbrev cX3_measure : ByteArray := prog_5_method_6_code
abbrev cX3_resize : ByteArray := prog_5_method_2_code
def yX3_become : MethodName := ⟨RX3, "become", "(LMaskTouch$Mask;)V"⟩
def yX3_measure : MethodName := ⟨RX3, "measure", "()V"⟩
def yX3_resize : MethodName := ⟨RX3, "resize", "(II)V"⟩
theorem dJ13_bitCount_95d88_0 : decode cJ13_bitCount_95d88 0 = .ok (.lload_n 0, 1) := by decide +kernel
theorem dJ13_bitCount_95d88_1 : decode cJ13_bitCount_95d88 1 = .ok (.lload_n 0, 1) := by decide +kernel
theorem dJ13_bitCount_95d88_2 : decode cJ13_bitCount_95d88 2 = .ok (.iconst 1, 1) := by decide +kernel
theorem dJ13_bitCount_95d88_3 : decode cJ13_bitCount_95d88 3 = .ok (.lushr, 1) := by decide +kernel
theorem dJ13_bitCount_95d88_4 : decode cJ13_bitCount_95d88 4 = .ok (.ldc2_w 314, 3) := by decide +kernel
theorem dJ13_bitCount_95d88_7 : decode cJ13_bitCount_95d88 7 = .ok (.land, 1) := by decide +kernel
theorem dJ13_bitCount_95d88_8 : decode cJ13_bitCount_95d88 8 = .ok (.lsub, 1) := by decide +kernel
theorem dJ13_bitCount_95d88_9 : decode cJ13_bitCount_95d88 9 = .ok (.lstore_n 0, 1) := by decide +kernel
theorem dJ13_bitCount_95d88_10 : decode cJ13_bitCount_95d88 10 = .ok (.lload_n 0, 1) := by decide +kernel
theorem dJ13_bitCount_95d88_11 : decode cJ13_bitCount_95d88 11 = .ok (.ldc2_w 316, 3) := by decide +kernel
theorem dJ13_bitCount_95d88_14 : decode cJ13_bitCount_95d88 14 = .ok (.land, 1) := by decide +kernel
theorem dJ13_bitCount_95d88_15 : decode cJ13_bitCount_95d88 15 = .ok (.lload_n 0, 1) := by decide +kernel
theorem dJ13_bitCount_95d88_16 : decode cJ13_bitCount_95d88 16 = .ok (.iconst 2, 1) := by decide +kernel
theorem dJ13_bitCount_95d88_17 : decode cJ13_bitCount_95d88 17 = .ok (.lushr, 1) := by decide +kernel
theorem dJ13_bitCount_95d88_18 : decode cJ13_bitCount_95d88 18 = .ok (.ldc2_w 316, 3) := by decide +kernel
theorem dJ13_bitCount_95d88_21 : decode cJ13_bitCount_95d88 21 = .ok (.land, 1) := by decide +kernel
theorem dJ13_bitCount_95d88_22 : decode cJ13_bitCount_95d88 22 = .ok (.ladd, 1) := by decide +kernel
theorem dJ13_bitCount_95d88_23 : decode cJ13_bitCount_95d88 23 = .ok (.lstore_n 0, 1) := by decide +kernel
theorem dJ13_bitCount_95d88_24 : decode cJ13_bitCount_95d88 24 = .ok (.lload_n 0, 1) := by decide +kernel
theorem dJ13_bitCount_95d88_25 : decode cJ13_bitCount_95d88 25 = .ok (.lload_n 0, 1) := by decide +kernel
theorem dJ13_bitCount_95d88_26 : decode cJ13_bitCount_95d88 26 = .ok (.iconst 4, 1) := by decide +kernel
theorem dJ13_bitCount_95d88_27 : decode cJ13_bitCount_95d88 27 = .ok (.lushr, 1) := by decide +kernel
theorem dJ13_bitCount_95d88_28 : decode cJ13_bitCount_95d88 28 = .ok (.ladd, 1) := by decide +kernel
theorem dJ13_bitCount_95d88_29 : decode cJ13_bitCount_95d88 29 = .ok (.ldc2_w 318, 3) := by decide +kernel
theorem dJ13_bitCount_95d88_32 : decode cJ13_bitCount_95d88 32 = .ok (.land, 1) := by decide +kernel
theorem dJ13_bitCount_95d88_33 : decode cJ13_bitCount_95d88 33 = .ok (.lstore_n 0, 1) := by decide +kernel
theorem dJ13_bitCount_95d88_34 : decode cJ13_bitCount_95d88 34 = .ok (.lload_n 0, 1) := by decide +kernel
theorem dJ13_bitCount_95d88_35 : decode cJ13_bitCount_95d88 35 = .ok (.lload_n 0, 1) := by decide +kernel
theorem dJ13_bitCount_95d88_36 : decode cJ13_bitCount_95d88 36 = .ok (.bipush 8, 2) := by decide +kernel
theorem dJ13_bitCount_95d88_38 : decode cJ13_bitCount_95d88 38 = .ok (.lushr, 1) := by decide +kernel
theorem dJ13_bitCount_95d88_39 : decode cJ13_bitCount_95d88 39 = .ok (.ladd, 1) := by decide +kernel
theorem dJ13_bitCount_95d88_40 : decode cJ13_bitCount_95d88 40 = .ok (.lstore_n 0, 1) := by decide +kernel
theorem dJ13_bitCount_95d88_41 : decode cJ13_bitCount_95d88 41 = .ok (.lload_n 0, 1) := by decide +kernel
theorem dJ13_bitCount_95d88_42 : decode cJ13_bitCount_95d88 42 = .ok (.lload_n 0, 1) := by decide +kernel
theorem dJ13_bitCount_95d88_43 : decode cJ13_bitCount_95d88 43 = .ok (.bipush 16, 2) := by decide +kernel
theorem dJ13_bitCount_95d88_45 : decode cJ13_bitCount_95d88 45 = .ok (.lushr, 1) := by decide +kernel
theorem dJ13_bitCount_95d88_46 : decode cJ13_bitCount_95d88 46 = .ok (.ladd, 1) := by decide +kernel
theorem dJ13_bitCount_95d88_47 : decode cJ13_bitCount_95d88 47 = .ok (.lstore_n 0, 1) := by decide +kernel
theorem dJ13_bitCount_95d88_48 : decode cJ13_bitCount_95d88 48 = .ok (.lload_n 0, 1) := by decide +kernel
theorem dJ13_bitCount_95d88_49 : decode cJ13_bitCount_95d88 49 = .ok (.lload_n 0, 1) := by decide +kernel
theorem dJ13_bitCount_95d88_50 : decode cJ13_bitCount_95d88 50 = .ok (.bipush 32, 2) := by decide +kernel
theorem dJ13_bitCount_95d88_52 : decode cJ13_bitCount_95d88 52 = .ok (.lushr, 1) := by decide +kernel
theorem dJ13_bitCount_95d88_53 : decode cJ13_bitCount_95d88 53 = .ok (.ladd, 1) := by decide +kernel
theorem dJ13_bitCount_95d88_54 : decode cJ13_bitCount_95d88 54 = .ok (.lstore_n 0, 1) := by decide +kernel
theorem dJ13_bitCount_95d88_55 : decode cJ13_bitCount_95d88 55 = .ok (.lload_n 0, 1) := by decide +kernel
theorem dJ13_bitCount_95d88_56 : decode cJ13_bitCount_95d88 56 = .ok (.l2i, 1) := by decide +kernel
theorem dJ13_bitCount_95d88_57 : decode cJ13_bitCount_95d88 57 = .ok (.bipush 127, 2) := by decide +kernel
theorem dJ13_bitCount_95d88_59 : decode cJ13_bitCount_95d88 59 = .ok (.iand, 1) := by decide +kernel
theorem dJ13_bitCount_95d88_60 : decode cJ13_bitCount_95d88 60 = .ok (.ireturn, 1) := by decide +kernel
theorem dJ7_fill_d0a16_0 : decode cJ7_fill_d0a16 0 = .ok (.iconst 0, 1) := by decide +kernel
theorem dJ7_fill_d0a16_1 : decode cJ7_fill_d0a16 1 = .ok (.istore_n 3, 1) := by decide +kernel
theorem dJ7_fill_d0a16_2 : decode cJ7_fill_d0a16 2 = .ok (.aload_n 0, 1) := by decide +kernel
theorem dJ7_fill_d0a16_3 : decode cJ7_fill_d0a16 3 = .ok (.arraylength, 1) := by decide +kernel
theorem dJ7_fill_d0a16_4 : decode cJ7_fill_d0a16 4 = .ok (.istore 4, 2) := by decide +kernel
theorem dJ7_fill_d0a16_6 : decode cJ7_fill_d0a16 6 = .ok (.iload_n 3, 1) := by decide +kernel
theorem dJ7_fill_d0a16_7 : decode cJ7_fill_d0a16 7 = .ok (.iload 4, 2) := by decide +kernel
theorem dJ7_fill_d0a16_9 : decode cJ7_fill_d0a16 9 = .ok (.if_icmp .ge 13, 3) := by decide +kernel
theorem dJ7_fill_d0a16_12 : decode cJ7_fill_d0a16 12 = .ok (.aload_n 0, 1) := by decide +kernel
theorem dJ7_fill_d0a16_13 : decode cJ7_fill_d0a16 13 = .ok (.iload_n 3, 1) := by decide +kernel
theorem dJ7_fill_d0a16_14 : decode cJ7_fill_d0a16 14 = .ok (.lload_n 1, 1) := by decide +kernel
theorem dJ7_fill_d0a16_15 : decode cJ7_fill_d0a16 15 = .ok (.lastore, 1) := by decide +kernel
theorem dJ7_fill_d0a16_16 : decode cJ7_fill_d0a16 16 = .ok (.iinc 3 1, 3) := by decide +kernel
theorem dJ7_fill_d0a16_19 : decode cJ7_fill_d0a16 19 = .ok (.goto (-13), 3) := by decide +kernel
theorem dJ7_fill_d0a16_22 : decode cJ7_fill_d0a16 22 = .ok (.return_, 1) := by decide +kernel
theorem dX3_become_0 : decode cX3_become 0 = .ok (.aload_n 0, 1) := by decide +kernel
theorem dX3_become_1 : decode cX3_become 1 = .ok (.aload_n 1, 1) := by decide +kernel
theorem dX3_become_2 : decode cX3_become 2 = .ok (.getfield 15, 3) := by decide +kernel
theorem dX3_become_5 : decode cX3_become 5 = .ok (.putfield 15, 3) := by decide +kernel
theorem dX3_become_8 : decode cX3_become 8 = .ok (.aload_n 0, 1) := by decide +kernel
theorem dX3_become_9 : decode cX3_become 9 = .ok (.aload_n 1, 1) := by decide +kernel
theorem dX3_become_10 : decode cX3_become 10 = .ok (.getfield 19, 3) := by decide +kernel
theorem dX3_become_13 : decode cX3_become 13 = .ok (.putfield 19, 3) := by decide +kernel
theorem dX3_become_16 : decode cX3_become 16 = .ok (.aload_n 0, 1) := by decide +kernel
theorem dX3_become_17 : decode cX3_become 17 = .ok (.aload_n 1, 1) := by decide +kernel
theorem dX3_become_18 : decode cX3_become 18 = .ok (.getfield 22, 3) := by decide +kernel
theorem dX3_become_21 : decode cX3_become 21 = .ok (.putfield 22, 3) := by decide +kernel
theorem dX3_become_24 : decode cX3_become 24 = .ok (.aload_n 0, 1) := by decide +kernel
theorem dX3_become_25 : decode cX3_become 25 = .ok (.aload_n 1, 1) := by decide +kernel
theorem dX3_become_26 : decode cX3_become 26 = .ok (.getfield 51, 3) := by decide +kernel
theorem dX3_become_29 : decode cX3_become 29 = .ok (.putfield 51, 3) := by decide +kernel
theorem dX3_become_32 : decode cX3_become 32 = .ok (.aload_n 0, 1) := by decide +kernel
theorem dX3_become_33 : decode cX3_become 33 = .ok (.aload_n 1, 1) := by decide +kernel
theorem dX3_become_34 : decode cX3_become 34 = .ok (.getfield 35, 3) := by decide +kernel
theorem dX3_become_37 : decode cX3_become 37 = .ok (.putfield 35, 3) := by decide +kernel
theorem dX3_become_40 : decode cX3_become 40 = .ok (.aload_n 0, 1) := by decide +kernel
theorem dX3_become_41 : decode cX3_become 41 = .ok (.aload_n 1, 1) := by decide +kernel
theorem dX3_become_42 : decode cX3_become 42 = .ok (.getfield 57, 3) := by decide +kernel
theorem dX3_become_45 : decode cX3_become 45 = .ok (.putfield 57, 3) := by decide +kernel
theorem dX3_become_48 : decode cX3_become 48 = .ok (.aload_n 0, 1) := by decide +kernel
theorem dX3_become_49 : decode cX3_become 49 = .ok (.aload_n 1, 1) := by decide +kernel
theorem dX3_become_50 : decode cX3_become 50 = .ok (.getfield 38, 3) := by decide +kernel
theorem dX3_become_53 : decode cX3_become 53 = .ok (.putfield 38, 3) := by decide +kernel
theorem dX3_become_56 : decode cX3_become 56 = .ok (.aload_n 1, 1) := by decide +kernel
theorem dX3_become_57 : decode cX3_become 57 = .ok (.getfield 9, 3) := by decide +kernel
theorem dX3_become_60 : decode cX3_become 60 = .ok (.iconst 0, 1) := by decide +kernel
theorem dX3_become_61 : decode cX3_become 61 = .ok (.aload_n 0, 1) := by decide +kernel
theorem dX3_become_62 : decode cX3_become 62 = .ok (.getfield 9, 3) := by decide +kernel
theorem dX3_become_65 : decode cX3_become 65 = .ok (.iconst 0, 1) := by decide +kernel
theorem dX3_become_66 : decode cX3_become 66 = .ok (.aload_n 0, 1) := by decide +kernel
theorem dX3_become_67 : decode cX3_become 67 = .ok (.getfield 9, 3) := by decide +kernel
theorem dX3_become_70 : decode cX3_become 70 = .ok (.arraylength, 1) := by decide +kernel
theorem dX3_become_71 : decode cX3_become 71 = .ok (.invokestatic 60, 3) := by decide +kernel
theorem dX3_become_74 : decode cX3_become 74 = .ok (.return_, 1) := by decide +kernel
theorem dX3_highestBit_0 : decode cX3_highestBit 0 = .ok (.lload_n 2, 1) := by decide +kernel
theorem dX3_highestBit_1 : decode cX3_highestBit 1 = .ok (.lconst 0, 1) := by decide +kernel
theorem dX3_highestBit_2 : decode cX3_highestBit 2 = .ok (.lcmp, 1) := by decide +kernel
theorem dX3_highestBit_3 : decode cX3_highestBit 3 = .ok (.ifCond .eq 7, 3) := by decide +kernel
theorem dX3_highestBit_6 : decode cX3_highestBit 6 = .ok (.lload_n 2, 1) := by decide +kernel
theorem dX3_highestBit_7 : decode cX3_highestBit 7 = .ok (.goto 4, 3) := by decide +kernel
theorem dX3_highestBit_10 : decode cX3_highestBit 10 = .ok (.lload_n 0, 1) := by decide +kernel
theorem dX3_highestBit_11 : decode cX3_highestBit 11 = .ok (.lstore 4, 2) := by decide +kernel
theorem dX3_highestBit_13 : decode cX3_highestBit 13 = .ok (.lload 4, 2) := by decide +kernel
theorem dX3_highestBit_15 : decode cX3_highestBit 15 = .ok (.lload 4, 2) := by decide +kernel
theorem dX3_highestBit_17 : decode cX3_highestBit 17 = .ok (.iconst 1, 1) := by decide +kernel
theorem dX3_highestBit_18 : decode cX3_highestBit 18 = .ok (.lushr, 1) := by decide +kernel
theorem dX3_highestBit_19 : decode cX3_highestBit 19 = .ok (.lor, 1) := by decide +kernel
theorem dX3_highestBit_20 : decode cX3_highestBit 20 = .ok (.lstore 4, 2) := by decide +kernel
theorem dX3_highestBit_22 : decode cX3_highestBit 22 = .ok (.lload 4, 2) := by decide +kernel
theorem dX3_highestBit_24 : decode cX3_highestBit 24 = .ok (.lload 4, 2) := by decide +kernel
theorem dX3_highestBit_26 : decode cX3_highestBit 26 = .ok (.iconst 2, 1) := by decide +kernel
theorem dX3_highestBit_27 : decode cX3_highestBit 27 = .ok (.lushr, 1) := by decide +kernel
theorem dX3_highestBit_28 : decode cX3_highestBit 28 = .ok (.lor, 1) := by decide +kernel
theorem dX3_highestBit_29 : decode cX3_highestBit 29 = .ok (.lstore 4, 2) := by decide +kernel
theorem dX3_highestBit_31 : decode cX3_highestBit 31 = .ok (.lload 4, 2) := by decide +kernel
theorem dX3_highestBit_33 : decode cX3_highestBit 33 = .ok (.lload 4, 2) := by decide +kernel
theorem dX3_highestBit_35 : decode cX3_highestBit 35 = .ok (.iconst 4, 1) := by decide +kernel
theorem dX3_highestBit_36 : decode cX3_highestBit 36 = .ok (.lushr, 1) := by decide +kernel
theorem dX3_highestBit_37 : decode cX3_highestBit 37 = .ok (.lor, 1) := by decide +kernel
theorem dX3_highestBit_38 : decode cX3_highestBit 38 = .ok (.lstore 4, 2) := by decide +kernel
theorem dX3_highestBit_40 : decode cX3_highestBit 40 = .ok (.lload 4, 2) := by decide +kernel
theorem dX3_highestBit_42 : decode cX3_highestBit 42 = .ok (.lload 4, 2) := by decide +kernel
theorem dX3_highestBit_44 : decode cX3_highestBit 44 = .ok (.bipush 8, 2) := by decide +kernel
theorem dX3_highestBit_46 : decode cX3_highestBit 46 = .ok (.lushr, 1) := by decide +kernel
theorem dX3_highestBit_47 : decode cX3_highestBit 47 = .ok (.lor, 1) := by decide +kernel
theorem dX3_highestBit_48 : decode cX3_highestBit 48 = .ok (.lstore 4, 2) := by decide +kernel
theorem dX3_highestBit_50 : decode cX3_highestBit 50 = .ok (.lload 4, 2) := by decide +kernel
theorem dX3_highestBit_52 : decode cX3_highestBit 52 = .ok (.lload 4, 2) := by decide +kernel
theorem dX3_highestBit_54 : decode cX3_highestBit 54 = .ok (.bipush 16, 2) := by decide +kernel
theorem dX3_highestBit_56 : decode cX3_highestBit 56 = .ok (.lushr, 1) := by decide +kernel
theorem dX3_highestBit_57 : decode cX3_highestBit 57 = .ok (.lor, 1) := by decide +kernel
theorem dX3_highestBit_58 : decode cX3_highestBit 58 = .ok (.lstore 4, 2) := by decide +kernel
theorem dX3_highestBit_60 : decode cX3_highestBit 60 = .ok (.lload 4, 2) := by decide +kernel
theorem dX3_highestBit_62 : decode cX3_highestBit 62 = .ok (.lload 4, 2) := by decide +kernel
theorem dX3_highestBit_64 : decode cX3_highestBit 64 = .ok (.bipush 32, 2) := by decide +kernel
theorem dX3_highestBit_66 : decode cX3_highestBit 66 = .ok (.lushr, 1) := by decide +kernel
theorem dX3_highestBit_67 : decode cX3_highestBit 67 = .ok (.lor, 1) := by decide +kernel
theorem dX3_highestBit_68 : decode cX3_highestBit 68 = .ok (.lstore 4, 2) := by decide +kernel
theorem dX3_highestBit_70 : decode cX3_highestBit 70 = .ok (.lload 4, 2) := by decide +kernel
theorem dX3_highestBit_72 : decode cX3_highestBit 72 = .ok (.invokestatic 41, 3) := by decide +kernel
theorem dX3_highestBit_75 : decode cX3_highestBit 75 = .ok (.iconst 1, 1) := by decide +kernel
theorem dX3_highestBit_76 : decode cX3_highestBit 76 = .ok (.isub, 1) := by decide +kernel
theorem dX3_highestBit_77 : decode cX3_highestBit 77 = .ok (.lload_n 2, 1) := by decide +kernel
theorem dX3_highestBit_78 : decode cX3_highestBit 78 = .ok (.lconst 0, 1) := by decide +kernel
theorem dX3_highestBit_79 : decode cX3_highestBit 79 = .ok (.lcmp, 1) := by decide +kernel
theorem dX3_highestBit_80 : decode cX3_highestBit 80 = .ok (.ifCond .eq 8, 3) := by decide +kernel
theorem dX3_highestBit_83 : decode cX3_highestBit 83 = .ok (.bipush 64, 2) := by decide +kernel
theorem dX3_highestBit_85 : decode cX3_highestBit 85 = .ok (.goto 4, 3) := by decide +kernel
theorem dX3_highestBit_88 : decode cX3_highestBit 88 = .ok (.iconst 0, 1) := by decide +kernel
theorem dX3_highestBit_89 : decode cX3_highestBit 89 = .ok (.iadd, 1) := by decide +kernel
theorem dX3_highestBit_90 : decode cX3_highestBit 90 = .ok (.ireturn, 1) := by decide +kernel
theorem dX3_lowestBit_0 : decode cX3_lowestBit 0 = .ok (.lload_n 0, 1) := by decide +kernel
theorem dX3_lowestBit_1 : decode cX3_lowestBit 1 = .ok (.lconst 0, 1) := by decide +kernel
theorem dX3_lowestBit_2 : decode cX3_lowestBit 2 = .ok (.lcmp, 1) := by decide +kernel
theorem dX3_lowestBit_3 : decode cX3_lowestBit 3 = .ok (.ifCond .eq 15, 3) := by decide +kernel
theorem dX3_lowestBit_6 : decode cX3_lowestBit 6 = .ok (.lload_n 0, 1) := by decide +kernel
theorem dX3_lowestBit_7 : decode cX3_lowestBit 7 = .ok (.lload_n 0, 1) := by decide +kernel
theorem dX3_lowestBit_8 : decode cX3_lowestBit 8 = .ok (.lneg, 1) := by decide +kernel
theorem dX3_lowestBit_9 : decode cX3_lowestBit 9 = .ok (.land, 1) := by decide +kernel
theorem dX3_lowestBit_10 : decode cX3_lowestBit 10 = .ok (.lconst 1, 1) := by decide +kernel
theorem dX3_lowestBit_11 : decode cX3_lowestBit 11 = .ok (.lsub, 1) := by decide +kernel
theorem dX3_lowestBit_12 : decode cX3_lowestBit 12 = .ok (.invokestatic 41, 3) := by decide +kernel
theorem dX3_lowestBit_15 : decode cX3_lowestBit 15 = .ok (.goto 15, 3) := by decide +kernel
theorem dX3_lowestBit_18 : decode cX3_lowestBit 18 = .ok (.bipush 64, 2) := by decide +kernel
theorem dX3_lowestBit_20 : decode cX3_lowestBit 20 = .ok (.lload_n 2, 1) := by decide +kernel
theorem dX3_lowestBit_21 : decode cX3_lowestBit 21 = .ok (.lload_n 2, 1) := by decide +kernel
theorem dX3_lowestBit_22 : decode cX3_lowestBit 22 = .ok (.lneg, 1) := by decide +kernel
theorem dX3_lowestBit_23 : decode cX3_lowestBit 23 = .ok (.land, 1) := by decide +kernel
theorem dX3_lowestBit_24 : decode cX3_lowestBit 24 = .ok (.lconst 1, 1) := by decide +kernel
theorem dX3_lowestBit_25 : decode cX3_lowestBit 25 = .ok (.lsub, 1) := by decide +kernel
theorem dX3_lowestBit_26 : decode cX3_lowestBit 26 = .ok (.invokestatic 41, 3) := by decide +kernel
theorem dX3_lowestBit_29 : decode cX3_lowestBit 29 = .ok (.iadd, 1) := by decide +kernel
theorem dX3_lowestBit_30 : decode cX3_lowestBit 30 = .ok (.ireturn, 1) := by decide +kernel
theorem dX3_measure_0 : decode cX3_measure 0 = .ok (.lconst 0, 1) := by decide +kernel
theorem dX3_measure_1 : decode cX3_measure 1 = .ok (.lstore_n 1, 1) := by decide +kernel
theorem dX3_measure_2 : decode cX3_measure 2 = .ok (.lconst 0, 1) := by decide +kernel
theorem dX3_measure_3 : decode cX3_measure 3 = .ok (.lstore_n 3, 1) := by decide +kernel
theorem dX3_measure_4 : decode cX3_measure 4 = .ok (.aload_n 0, 1) := by decide +kernel
theorem dX3_measure_5 : decode cX3_measure 5 = .ok (.iconst 0, 1) := by decide +kernel
theorem dX3_measure_6 : decode cX3_measure 6 = .ok (.putfield 22, 3) := by decide +kernel
theorem dX3_measure_9 : decode cX3_measure 9 = .ok (.aload_n 0, 1) := by decide +kernel
theorem dX3_measure_10 : decode cX3_measure 10 = .ok (.iconst (-1), 1) := by decide +kernel
theorem dX3_measure_11 : decode cX3_measure 11 = .ok (.putfield 35, 3) := by decide +kernel
theorem dX3_measure_14 : decode cX3_measure 14 = .ok (.aload_n 0, 1) := by decide +kernel
theorem dX3_measure_15 : decode cX3_measure 15 = .ok (.iconst (-1), 1) := by decide +kernel
theorem dX3_measure_16 : decode cX3_measure 16 = .ok (.putfield 38, 3) := by decide +kernel
theorem dX3_measure_19 : decode cX3_measure 19 = .ok (.iconst 0, 1) := by decide +kernel
theorem dX3_measure_20 : decode cX3_measure 20 = .ok (.istore 5, 2) := by decide +kernel
theorem dX3_measure_22 : decode cX3_measure 22 = .ok (.iload 5, 2) := by decide +kernel
theorem dX3_measure_24 : decode cX3_measure 24 = .ok (.aload_n 0, 1) := by decide +kernel
theorem dX3_measure_25 : decode cX3_measure 25 = .ok (.getfield 19, 3) := by decide +kernel
theorem dX3_measure_28 : decode cX3_measure 28 = .ok (.if_icmp .ge 99, 3) := by decide +kernel
theorem dX3_measure_31 : decode cX3_measure 31 = .ok (.aload_n 0, 1) := by decide +kernel
theorem dX3_measure_32 : decode cX3_measure 32 = .ok (.getfield 9, 3) := by decide +kernel
theorem dX3_measure_35 : decode cX3_measure 35 = .ok (.iconst 2, 1) := by decide +kernel
theorem dX3_measure_36 : decode cX3_measure 36 = .ok (.iload 5, 2) := by decide +kernel
theorem dX3_measure_38 : decode cX3_measure 38 = .ok (.imul, 1) := by decide +kernel
theorem dX3_measure_39 : decode cX3_measure 39 = .ok (.laload, 1) := by decide +kernel
theorem dX3_measure_40 : decode cX3_measure 40 = .ok (.lstore 6, 2) := by decide +kernel
theorem dX3_measure_42 : decode cX3_measure 42 = .ok (.aload_n 0, 1) := by decide +kernel
theorem dX3_measure_43 : decode cX3_measure 43 = .ok (.getfield 9, 3) := by decide +kernel
theorem dX3_measure_46 : decode cX3_measure 46 = .ok (.iconst 2, 1) := by decide +kernel
theorem dX3_measure_47 : decode cX3_measure 47 = .ok (.iload 5, 2) := by decide +kernel
theorem dX3_measure_49 : decode cX3_measure 49 = .ok (.imul, 1) := by decide +kernel
theorem dX3_measure_50 : decode cX3_measure 50 = .ok (.iconst 1, 1) := by decide +kernel
theorem dX3_measure_51 : decode cX3_measure 51 = .ok (.iadd, 1) := by decide +kernel
theorem dX3_measure_52 : decode cX3_measure 52 = .ok (.laload, 1) := by decide +kernel
theorem dX3_measure_53 : decode cX3_measure 53 = .ok (.lstore 8, 2) := by decide +kernel
theorem dX3_measure_55 : decode cX3_measure 55 = .ok (.lload 6, 2) := by decide +kernel
theorem dX3_measure_57 : decode cX3_measure 57 = .ok (.lload 8, 2) := by decide +kernel
theorem dX3_measure_59 : decode cX3_measure 59 = .ok (.lor, 1) := by decide +kernel
theorem dX3_measure_60 : decode cX3_measure 60 = .ok (.lconst 0, 1) := by decide +kernel
theorem dX3_measure_61 : decode cX3_measure 61 = .ok (.lcmp, 1) := by decide +kernel
theorem dX3_measure_62 : decode cX3_measure 62 = .ok (.ifCond .eq 59, 3) := by decide +kernel
theorem dX3_measure_65 : decode cX3_measure 65 = .ok (.aload_n 0, 1) := by decide +kernel
theorem dX3_measure_66 : decode cX3_measure 66 = .ok (.dup, 1) := by decide +kernel
theorem dX3_measure_67 : decode cX3_measure 67 = .ok (.getfield 22, 3) := by decide +kernel
theorem dX3_measure_70 : decode cX3_measure 70 = .ok (.lload 6, 2) := by decide +kernel
theorem dX3_measure_72 : decode cX3_measure 72 = .ok (.invokestatic 41, 3) := by decide +kernel
theorem dX3_measure_75 : decode cX3_measure 75 = .ok (.lload 8, 2) := by decide +kernel
theorem dX3_measure_77 : decode cX3_measure 77 = .ok (.invokestatic 41, 3) := by decide +kernel
theorem dX3_measure_80 : decode cX3_measure 80 = .ok (.iadd, 1) := by decide +kernel
theorem dX3_measure_81 : decode cX3_measure 81 = .ok (.iadd, 1) := by decide +kernel
theorem dX3_measure_82 : decode cX3_measure 82 = .ok (.putfield 22, 3) := by decide +kernel
theorem dX3_measure_85 : decode cX3_measure 85 = .ok (.lload_n 1, 1) := by decide +kernel
theorem dX3_measure_86 : decode cX3_measure 86 = .ok (.lload 6, 2) := by decide +kernel
theorem dX3_measure_88 : decode cX3_measure 88 = .ok (.lor, 1) := by decide +kernel
theorem dX3_measure_89 : decode cX3_measure 89 = .ok (.lstore_n 1, 1) := by decide +kernel
theorem dX3_measure_90 : decode cX3_measure 90 = .ok (.lload_n 3, 1) := by decide +kernel
theorem dX3_measure_91 : decode cX3_measure 91 = .ok (.lload 8, 2) := by decide +kernel
theorem dX3_measure_93 : decode cX3_measure 93 = .ok (.lor, 1) := by decide +kernel
theorem dX3_measure_94 : decode cX3_measure 94 = .ok (.lstore_n 3, 1) := by decide +kernel
theorem dX3_measure_95 : decode cX3_measure 95 = .ok (.aload_n 0, 1) := by decide +kernel
theorem dX3_measure_96 : decode cX3_measure 96 = .ok (.aload_n 0, 1) := by decide +kernel
theorem dX3_measure_97 : decode cX3_measure 97 = .ok (.getfield 35, 3) := by decide +kernel
theorem dX3_measure_100 : decode cX3_measure 100 = .ok (.ifCond .ge 8, 3) := by decide +kernel
theorem dX3_measure_103 : decode cX3_measure 103 = .ok (.iload 5, 2) := by decide +kernel
theorem dX3_measure_105 : decode cX3_measure 105 = .ok (.goto 7, 3) := by decide +kernel
theorem dX3_measure_108 : decode cX3_measure 108 = .ok (.aload_n 0, 1) := by decide +kernel
theorem dX3_measure_109 : decode cX3_measure 109 = .ok (.getfield 35, 3) := by decide +kernel
theorem dX3_measure_112 : decode cX3_measure 112 = .ok (.putfield 35, 3) := by decide +kernel
theorem dX3_measure_115 : decode cX3_measure 115 = .ok (.aload_n 0, 1) := by decide +kernel
theorem dX3_measure_116 : decode cX3_measure 116 = .ok (.iload 5, 2) := by decide +kernel
theorem dX3_measure_118 : decode cX3_measure 118 = .ok (.putfield 38, 3) := by decide +kernel
theorem dX3_measure_121 : decode cX3_measure 121 = .ok (.iinc 5 1, 3) := by decide +kernel
theorem dX3_measure_124 : decode cX3_measure 124 = .ok (.goto (-102), 3) := by decide +kernel
theorem dX3_measure_127 : decode cX3_measure 127 = .ok (.aload_n 0, 1) := by decide +kernel
theorem dX3_measure_128 : decode cX3_measure 128 = .ok (.aload_n 0, 1) := by decide +kernel
theorem dX3_measure_129 : decode cX3_measure 129 = .ok (.getfield 22, 3) := by decide +kernel
theorem dX3_measure_132 : decode cX3_measure 132 = .ok (.ifCond .ne 7, 3) := by decide +kernel
theorem dX3_measure_135 : decode cX3_measure 135 = .ok (.iconst (-1), 1) := by decide +kernel
theorem dX3_measure_136 : decode cX3_measure 136 = .ok (.goto 8, 3) := by decide +kernel
theorem dX3_measure_139 : decode cX3_measure 139 = .ok (.lload_n 1, 1) := by decide +kernel
theorem dX3_measure_140 : decode cX3_measure 140 = .ok (.lload_n 3, 1) := by decide +kernel
theorem dX3_measure_141 : decode cX3_measure 141 = .ok (.invokestatic 47, 3) := by decide +kernel
theorem dX3_measure_144 : decode cX3_measure 144 = .ok (.putfield 51, 3) := by decide +kernel
theorem dX3_measure_147 : decode cX3_measure 147 = .ok (.aload_n 0, 1) := by decide +kernel
theorem dX3_measure_148 : decode cX3_measure 148 = .ok (.aload_n 0, 1) := by decide +kernel
theorem dX3_measure_149 : decode cX3_measure 149 = .ok (.getfield 22, 3) := by decide +kernel
theorem dX3_measure_152 : decode cX3_measure 152 = .ok (.ifCond .ne 7, 3) := by decide +kernel
theorem dX3_measure_155 : decode cX3_measure 155 = .ok (.iconst (-1), 1) := by decide +kernel
theorem dX3_measure_156 : decode cX3_measure 156 = .ok (.goto 8, 3) := by decide +kernel
theorem dX3_measure_159 : decode cX3_measure 159 = .ok (.lload_n 1, 1) := by decide +kernel
theorem dX3_measure_160 : decode cX3_measure 160 = .ok (.lload_n 3, 1) := by decide +kernel
theorem dX3_measure_161 : decode cX3_measure 161 = .ok (.invokestatic 54, 3) := by decide +kernel
theorem dX3_measure_164 : decode cX3_measure 164 = .ok (.putfield 57, 3) := by decide +kernel
theorem dX3_measure_167 : decode cX3_measure 167 = .ok (.return_, 1) := by decide +kernel
theorem dX3_resize_0 : decode cX3_resize 0 = .ok (.aload_n 0, 1) := by decide +kernel
theorem dX3_resize_1 : decode cX3_resize 1 = .ok (.iload_n 1, 1) := by decide +kernel
theorem dX3_resize_2 : decode cX3_resize 2 = .ok (.putfield 15, 3) := by decide +kernel
theorem dX3_resize_5 : decode cX3_resize 5 = .ok (.aload_n 0, 1) := by decide +kernel
theorem dX3_resize_6 : decode cX3_resize 6 = .ok (.iload_n 2, 1) := by decide +kernel
theorem dX3_resize_7 : decode cX3_resize 7 = .ok (.putfield 19, 3) := by decide +kernel
theorem dX3_resize_10 : decode cX3_resize 10 = .ok (.aload_n 0, 1) := by decide +kernel
theorem dX3_resize_11 : decode cX3_resize 11 = .ok (.iconst 0, 1) := by decide +kernel
theorem dX3_resize_12 : decode cX3_resize 12 = .ok (.putfield 22, 3) := by decide +kernel
theorem dX3_resize_15 : decode cX3_resize 15 = .ok (.aload_n 0, 1) := by decide +kernel
theorem dX3_resize_16 : decode cX3_resize 16 = .ok (.getfield 9, 3) := by decide +kernel
theorem dX3_resize_19 : decode cX3_resize 19 = .ok (.lconst 0, 1) := by decide +kernel
theorem dX3_resize_20 : decode cX3_resize 20 = .ok (.invokestatic 25, 3) := by decide +kernel
theorem dX3_resize_23 : decode cX3_resize 23 = .ok (.return_, 1) := by decide +kernel
set_option maxRecDepth 100000 in
theorem pq87 : Cond.initialized RJ7 ∈ pw := pw_mem (i := 87) (by decide +kernel) rfl
set_option maxRecDepth 100000 in
theorem pq89 : Cond.initialized RJ13 ∈ pw := pw_mem (i := 89) (by decide +kernel) rfl
set_option maxRecDepth 100000 in
theorem pq90 : Cond.initialized RJ10 ∈ pw := pw_mem (i := 90) (by decide +kernel) rfl
set_option maxRecDepth 100000 in
theorem pq134 : Cond.fieldLink RX3 51 "MaskTouch$Mask" "left" "I" ∈ pw := pw_mem (i := 134) (by decide +kernel) rfl
set_option maxRecDepth 100000 in
theorem pq137 : Cond.fieldLink RX3 35 "MaskTouch$Mask" "top" "I" ∈ pw := pw_mem (i := 137) (by decide +kernel) rfl
set_option maxRecDepth 100000 in
theorem pq140 : Cond.fieldLink RX3 57 "MaskTouch$Mask" "right" "I" ∈ pw := pw_mem (i := 140) (by decide +kernel) rfl
set_option maxRecDepth 100000 in
theorem pq143 : Cond.fieldLink RX3 38 "MaskTouch$Mask" "bottom" "I" ∈ pw := pw_mem (i := 143) (by decide +kernel) rfl
set_option maxRecDepth 100000 in
theorem pq496 : Cond.methodLink RX3 25 yJ7_fill_d0a16 ∈ pw := pw_mem (i := 496) (by decide +kernel) rfl
set_option maxRecDepth 100000 in
theorem pq497 : Cond.static yJ7_fill_d0a16 ∈ pw := pw_mem (i := 497) (by decide +kernel) rfl
set_option maxRecDepth 100000 in
theorem pq498 : Cond.code yJ7_fill_d0a16 cJ7_fill_d0a16 5 none ∈ pw := pw_mem (i := 498) (by rfl) rfl
set_option maxRecDepth 100000 in
theorem pq545 : Cond.methodLink RX3 41 yJ13_bitCount_95d88 ∈ pw := pw_mem (i := 545) (by decide +kernel) rfl
set_option maxRecDepth 100000 in
theorem pq546 : Cond.static yJ13_bitCount_95d88 ∈ pw := pw_mem (i := 546) (by decide +kernel) rfl
set_option maxRecDepth 100000 in
theorem pq547 : Cond.code yJ13_bitCount_95d88 cJ13_bitCount_95d88 2 (some .int) ∈ pw := pw_mem (i := 547) (by rfl) rfl
set_option maxRecDepth 100000 in
theorem pq548 : Cond.constantLong RJ13 314 (6148914691236517205) ∈ pw := pw_mem (i := 548) (by decide +kernel) rfl
set_option maxRecDepth 100000 in
theorem pq549 : Cond.constantLong RJ13 316 (3689348814741910323) ∈ pw := pw_mem (i := 549) (by decide +kernel) rfl
set_option maxRecDepth 100000 in
theorem pq550 : Cond.constantLong RJ13 318 (1085102592571150095) ∈ pw := pw_mem (i := 550) (by decide +kernel) rfl
set_option maxRecDepth 100000 in
theorem pq551 : Cond.methodLink RX3 47 yX3_lowestBit ∈ pw := pw_mem (i := 551) (by decide +kernel) rfl
set_option maxRecDepth 100000 in
theorem pq552 : Cond.static yX3_lowestBit ∈ pw := pw_mem (i := 552) (by decide +kernel) rfl
set_option maxRecDepth 100000 in
theorem pq553 : Cond.code yX3_lowestBit cX3_lowestBit 4 (some .int) ∈ pw := pw_mem (i := 553) (by rfl) rfl
set_option maxRecDepth 100000 in
theorem pq554 : Cond.methodLink RX3 54 yX3_highestBit ∈ pw := pw_mem (i := 554) (by decide +kernel) rfl
set_option maxRecDepth 100000 in
theorem pq555 : Cond.static yX3_highestBit ∈ pw := pw_mem (i := 555) (by decide +kernel) rfl
set_option maxRecDepth 100000 in
theorem pq556 : Cond.code yX3_highestBit cX3_highestBit 6 (some .int) ∈ pw := pw_mem (i := 556) (by rfl) rfl
set_option maxRecDepth 100000 in
theorem pq597 : Cond.methodLink RX3 60 arraycopyName ∈ pw := pw_mem (i := 597) (by decide +kernel) rfl
set_option maxRecDepth 100000 in
theorem pq598 : Cond.static arraycopyName ∈ pw := pw_mem (i := 598) (by decide +kernel) rfl
set_option maxRecDepth 100000 in
theorem pq599 : Cond.native arraycopyName ∈ pw := pw_mem (i := 599) (by decide +kernel) rfl
set_option maxHeartbeats 4000000 in
set_option maxRecDepth 100000 in
theorem s_J13_bitCount (l : Launch) (dC : Nat → ClassId) (dI : Nat → Nat → Nat) (cs : Nat → ClassId) (L : List Nat) (K : Nat → Nat) (Q : Nat → Nat → Option Nat) (sz : Nat) (I : Nat → Nat → Int32) (J : Nat → Nat → Int64) (p0 : Int64) : Met l yJ13_bitCount_95d88 (.code yJ13_bitCount_95d88 cJ13_bitCount_95d88 2 (some .int) :: pw) ({ frames := 0, cells := 0, slots := 0, locals := 0 }) (sP (dC, dI) cs [.long p0] sz L K I J Q) (va_Qi (fun (r : Int32) (_ : Unit) => ((0) ≤ r.toInt ∧ r.toInt ≤ 64) ∧ (r.toInt = (nbit p0.toBitVec.toNat 64 : Int))) (fun _ _ => True) (fun _ => False)) 0 0 (fun _ => False) := by
  refine va_MetF (l := l) (cc := cJ13_bitCount_95d88) (maxL := 2) (ret := (some .int)) (by decide +kernel) rfl ?_
  intro p e s m args below meth c s₁ B hml hv
  obtain ⟨rfl, hsz, hP, hK, hD0, hN⟩ := hv
  have hx := B.exec
  have hb := B.bytes
  have hr := B.returns
  have hts := fun w (h : w ∈ pw) => atoms_spec (ws := Cond.code yJ13_bitCount_95d88 cJ13_bitCount_95d88 2 (some .int) :: pw) B.pre w (List.mem_cons_of_mem _ h)
  have hown : s.vm.findClass RJ13 = some m.cls := findClass_of_methodNamed B.named
  have hlocks := B.notSynchronized
  subst hsz
  have hD := hD0
  obtain ⟨H, hHe⟩ : ∃ H : Heap, H = s.heap := ⟨_, rfl⟩
  have hS : va_S (fun _ => False) s.heap H [] := by rw [hHe]; exact va_S.rf
  rw [← hHe] at hP
  have hl := lv_entry ([.long p0]) (n := 2) (Nat.le_of_ble_eq_true rfl)
  rw [lg_entry_eq]
  generalize (lg_sl ([.long p0]) ++ List.replicate (2 - (lg_sl ([.long p0])).length) Slot.unset).toArray = ls at hl ⊢
  have hl : lv_has ls 2 [(0, .long p0)] := hl
  rw [← hHe]
  refine namedW (fun R Qz hR hQz => ?_)
  refine lv_lload_n hx hb dJ13_bitCount_95d88_0 rfl (lv_at hl 0 rfl) ?_
  refine lv_lload_n hx hb dJ13_bitCount_95d88_1 rfl (lv_at hl 0 rfl) ?_
  refine lv_iconst (v := 1) hx hb dJ13_bitCount_95d88_2 (by decide +kernel) ?_
  refine lv_lushr hx hb dJ13_bitCount_95d88_3 rfl ?_
  refine lv_topl (fun z3 ez3 => ?_)
  refine lv_ldc2 hx hb hown (hts _ pq548) dJ13_bitCount_95d88_4 ?_
  refine lv_land hx hb dJ13_bitCount_95d88_7 ?_
  refine lv_topl (fun z7 ez7 => ?_)
  refine lv_lsub hx hb dJ13_bitCount_95d88_8 ?_
  refine lv_topl (fun z8 ez8 => ?_)
  refine lv_lstore_n (lv' := [(0, .long z8)]) hx hb dJ13_bitCount_95d88_9 rfl hl (by decide) rfl (fun ls hl => ?_)
  refine lv_lload_n hx hb dJ13_bitCount_95d88_10 rfl (lv_at hl 0 rfl) ?_
  refine lv_ldc2 hx hb hown (hts _ pq549) dJ13_bitCount_95d88_11 ?_
  refine lv_land hx hb dJ13_bitCount_95d88_14 ?_
  refine lv_topl (fun z14 ez14 => ?_)
  refine lv_lload_n hx hb dJ13_bitCount_95d88_15 rfl (lv_at hl 0 rfl) ?_
  refine lv_iconst (v := 2) hx hb dJ13_bitCount_95d88_16 (by decide +kernel) ?_
  refine lv_lushr hx hb dJ13_bitCount_95d88_17 rfl ?_
  refine lv_topl (fun z17 ez17 => ?_)
  refine lv_ldc2 hx hb hown (hts _ pq549) dJ13_bitCount_95d88_18 ?_
  refine lv_land hx hb dJ13_bitCount_95d88_21 ?_
  refine lv_topl (fun z21 ez21 => ?_)
  refine lv_ladd hx hb dJ13_bitCount_95d88_22 ?_
  refine lv_topl (fun z22 ez22 => ?_)
  refine lv_lstore_n (lv' := [(0, .long z22)]) hx hb dJ13_bitCount_95d88_23 rfl hl (by decide) rfl (fun ls hl => ?_)
  refine lv_lload_n hx hb dJ13_bitCount_95d88_24 rfl (lv_at hl 0 rfl) ?_
  refine lv_lload_n hx hb dJ13_bitCount_95d88_25 rfl (lv_at hl 0 rfl) ?_
  refine lv_iconst (v := 4) hx hb dJ13_bitCount_95d88_26 (by decide +kernel) ?_
  refine lv_lushr hx hb dJ13_bitCount_95d88_27 rfl ?_
  refine lv_topl (fun z27 ez27 => ?_)
  refine lv_ladd hx hb dJ13_bitCount_95d88_28 ?_
  refine lv_topl (fun z28 ez28 => ?_)
  refine lv_ldc2 hx hb hown (hts _ pq550) dJ13_bitCount_95d88_29 ?_
  refine lv_land hx hb dJ13_bitCount_95d88_32 ?_
  refine lv_topl (fun z32 ez32 => ?_)
  refine lv_lstore_n (lv' := [(0, .long z32)]) hx hb dJ13_bitCount_95d88_33 rfl hl (by decide) rfl (fun ls hl => ?_)
  refine lv_lload_n hx hb dJ13_bitCount_95d88_34 rfl (lv_at hl 0 rfl) ?_
  refine lv_lload_n hx hb dJ13_bitCount_95d88_35 rfl (lv_at hl 0 rfl) ?_
  refine lv_bipush (v := 8) hx hb dJ13_bitCount_95d88_36 (by decide +kernel) ?_
  refine lv_lushr hx hb dJ13_bitCount_95d88_38 rfl ?_
  refine lv_topl (fun z38 ez38 => ?_)
  refine lv_ladd hx hb dJ13_bitCount_95d88_39 ?_
  refine lv_topl (fun z39 ez39 => ?_)
  refine lv_lstore_n (lv' := [(0, .long z39)]) hx hb dJ13_bitCount_95d88_40 rfl hl (by decide) rfl (fun ls hl => ?_)
  refine lv_lload_n hx hb dJ13_bitCount_95d88_41 rfl (lv_at hl 0 rfl) ?_
  refine lv_lload_n hx hb dJ13_bitCount_95d88_42 rfl (lv_at hl 0 rfl) ?_
  refine lv_bipush (v := 16) hx hb dJ13_bitCount_95d88_43 (by decide +kernel) ?_
  refine lv_lushr hx hb dJ13_bitCount_95d88_45 rfl ?_
  refine lv_topl (fun z45 ez45 => ?_)
  refine lv_ladd hx hb dJ13_bitCount_95d88_46 ?_
  refine lv_topl (fun z46 ez46 => ?_)
  refine lv_lstore_n (lv' := [(0, .long z46)]) hx hb dJ13_bitCount_95d88_47 rfl hl (by decide) rfl (fun ls hl => ?_)
  refine lv_lload_n hx hb dJ13_bitCount_95d88_48 rfl (lv_at hl 0 rfl) ?_
  refine lv_lload_n hx hb dJ13_bitCount_95d88_49 rfl (lv_at hl 0 rfl) ?_
  refine lv_bipush (v := 32) hx hb dJ13_bitCount_95d88_50 (by decide +kernel) ?_
  refine lv_lushr hx hb dJ13_bitCount_95d88_52 rfl ?_
  refine lv_topl (fun z52 ez52 => ?_)
  refine lv_ladd hx hb dJ13_bitCount_95d88_53 ?_
  refine lv_topl (fun z53 ez53 => ?_)
  refine lv_lstore_n (lv' := [(0, .long z53)]) hx hb dJ13_bitCount_95d88_54 rfl hl (by decide) rfl (fun ls hl => ?_)
  refine lv_lload_n hx hb dJ13_bitCount_95d88_55 rfl (lv_at hl 0 rfl) ?_
  refine lv_l2i hx hb dJ13_bitCount_95d88_56 rfl ?_
  refine lv_topi (fun z56 ez56 => ?_)
  refine lv_bipush (v := 127) hx hb dJ13_bitCount_95d88_57 (by decide +kernel) ?_
  refine lv_iand hx hb dJ13_bitCount_95d88_59 ?_
  refine lv_topi (fun z59 ez59 => ?_)
  have bz59 := tq_and 7 ez59 (by decide +kernel) (by decide)
  subst hR; subst hQz
  exact W.iret (v := z59) hx hb hr (fun t ht hW => ⟨⟨z59, (), rfl, ⟨(bc64 ez3 ez7 ez8 ez14 ez17 ez21 ez22 ez27 ez28 ez32 ez38 ez39 ez45 ez46 ez52 ez53 ez56 ez59), (bcE ez3 ez7 ez8 ez14 ez17 ez21 ez22 ez27 ez28 ez32 ez38 ez39 ez45 ez46 ez52 ez53 ez56 ez59)⟩, trivial⟩, hS.F ht⟩) hS.2.2 dJ13_bitCount_95d88_60

theorem lc0 {x : Int64} {z : Int32} (e : z = lg_cmp x 0) : z.toInt = 0 ↔ x = 0 := by
  have h := tq_lcmp (k := x.toInt) (q := 0) e rfl (by decide +kernel)
  constructor
  · intro q
    exact Int64.toInt_inj.mp (by rw [show (0 : Int64).toInt = 0 from by decide +kernel]; omega)
  · intro q
    have : x.toInt = 0 := by rw [q]; decide +kernel
    omega

set_option maxHeartbeats 4000000 in
set_option maxRecDepth 100000 in
theorem s_X3_lowestBit (l : Launch) (dC : Nat → ClassId) (dI : Nat → Nat → Nat) (cs : Nat → ClassId) (L : List Nat) (K : Nat → Nat) (Q : Nat → Nat → Option Nat) (sz : Nat) (I : Nat → Nat → Int32) (J : Nat → Nat → Int64) (p0 : Int64) (p1 : Int64) : Met l yX3_lowestBit (.code yX3_lowestBit cX3_lowestBit 4 (some .int) :: pw) ({ frames := 1, cells := 0, slots := 0, locals := 21 }) (sP (dC, dI) cs [.long p0, .long p1] sz L K I J Q) (va_Qi (fun (r : Int32) (_ : Unit) => ((0) ≤ r.toInt ∧ r.toInt ≤ 128) ∧ ((¬ p0 = 0 → ∀ t, lowB p0 t → r.toInt = (t : Int)) ∧ (p0 = 0 → ∀ t, lowB p1 t → r.toInt = 64 + (t : Int)))) (fun _ _ => True) (fun _ => False)) 0 0 (fun _ => False) := by
  refine Met.ofW (cc := cX3_lowestBit) (maxL := 4) (ret := (some .int)) (by decide +kernel) rfl ?_
  intro p e s m args below meth c s₁ B hml hv
  obtain ⟨rfl, hsz, hP, hK, hD0, hN⟩ := hv
  have hx := B.exec
  have hb := B.bytes
  have hr := B.returns
  have hts := fun w (h : w ∈ pw) => atoms_spec (ws := Cond.code yX3_lowestBit cX3_lowestBit 4 (some .int) :: pw) B.pre w (List.mem_cons_of_mem _ h)
  have hown : s.vm.findClass RX3 = some m.cls := findClass_of_methodNamed B.named
  have hlocks := B.notSynchronized
  subst hsz
  have hD := hD0
  obtain ⟨H, hHe⟩ : ∃ H : Heap, H = s.heap := ⟨_, rfl⟩
  have hS : va_S (fun _ => False) s.heap H [] := by rw [hHe]; exact va_S.rf
  rw [← hHe] at hP
  have hl := lv_entry ([.long p0, .long p1]) (n := 4) (Nat.le_of_ble_eq_true rfl)
  rw [lg_entry_eq]
  generalize (lg_sl ([.long p0, .long p1]) ++ List.replicate (4 - (lg_sl ([.long p0, .long p1])).length) Slot.unset).toArray = ls at hl ⊢
  have hl : lv_has ls 4 [(0, .long p0), (2, .long p1)] := hl
  rw [← hHe]
  refine namedW (fun R Qz hR hQz => ?_)
  refine lv_lload_n hx hb dX3_lowestBit_0 rfl (lv_at hl 0 rfl) ?_
  refine lv_lconst (v := 0) hx hb dX3_lowestBit_1 (by decide +kernel) ?_
  refine W.lcmp hx hb dX3_lowestBit_2 ?_
  refine lv_topi (fun z2 ez2 => ?_)
  refine lv_if_eq (tgt := 18) hx hb dX3_lowestBit_3 (by decide) (fun c3 => ?_) (fun c3 => ?_)
  · have t3 := tq_eq (k := z2.toInt) (q := (0)) c3 rfl (by decide +kernel)
    refine lv_bipush (v := 64) hx hb dX3_lowestBit_18 (by decide +kernel) ?_
    refine lv_lload_n hx hb dX3_lowestBit_20 rfl (lv_at hl 1 rfl) ?_
    refine lv_lload_n hx hb dX3_lowestBit_21 rfl (lv_at hl 1 rfl) ?_
    refine lv_lneg hx hb dX3_lowestBit_22 ?_
    refine lv_topl (fun z22 ez22 => ?_)
    refine lv_land hx hb dX3_lowestBit_23 ?_
    refine lv_topl (fun z23 ez23 => ?_)
    refine lv_lconst (v := 1) hx hb dX3_lowestBit_24 (by decide +kernel) ?_
    refine lv_lsub hx hb dX3_lowestBit_25 ?_
    refine lv_topl (fun z25 ez25 => ?_)
    refine ro_i (va_runS (As := [.long z25]) (rest := [.int 64]) ⟨hx, hb, hml, hown, hts⟩ (s_J13_bitCount l dC dI cs L K Q H.size I J z25) (va_cwS 1 hts (gS pq545 pq546 pq89 pq547) rfl rfl rfl (by decide +kernel) ⟨(by rw [hR]; exact (Nat.le_of_ble_eq_true rfl)), (by rw [hR]; exact (Nat.le_of_ble_eq_true rfl))⟩) (sP_S hP hD hK hN) rfl rfl hl.1 rfl (lv_room (Nat.le_of_ble_eq_true rfl)) dX3_lowestBit_26 ⟨(by rw [hR]; exact (Nat.le_of_ble_eq_true rfl)), (by rw [hR]; exact (Nat.le_of_ble_eq_true rfl))⟩) hS hP (fun z26 H locs hz26 hP hS => ?_)
    obtain ⟨bz26, xpz26⟩ := hz26
    refine lv_iadd hx hb dX3_lowestBit_29 ?_
    refine lv_topi (fun z29 ez29 => ?_)
    have bz29 := tq_add (k := (64)) (q := z26.toInt) ez29 (by decide +kernel) rfl (by omega) (by omega)
    subst hR; subst hQz
    exact W.iret (v := z29) hx hb hr (fun t ht hW => ⟨⟨z29, (), rfl, ⟨⟨by omega, by omega⟩, ⟨fun q => absurd ((lc0 ez2).mp t3) q, fun _ t h => by have w := xpz26; rw [low_cnt h ez22 ez23 ez25] at w; omega⟩⟩, trivial⟩, hS.F ht⟩) hS.2.2 dX3_lowestBit_30
  · have t3 := tq_ne (k := z2.toInt) (q := (0)) c3 rfl (by decide +kernel)
    refine lv_lload_n hx hb dX3_lowestBit_6 rfl (lv_at hl 0 rfl) ?_
    refine lv_lload_n hx hb dX3_lowestBit_7 rfl (lv_at hl 0 rfl) ?_
    refine lv_lneg hx hb dX3_lowestBit_8 ?_
    refine lv_topl (fun z8 ez8 => ?_)
    refine lv_land hx hb dX3_lowestBit_9 ?_
    refine lv_topl (fun z9 ez9 => ?_)
    refine lv_lconst (v := 1) hx hb dX3_lowestBit_10 (by decide +kernel) ?_
    refine lv_lsub hx hb dX3_lowestBit_11 ?_
    refine lv_topl (fun z11 ez11 => ?_)
    refine ro_i (va_runS (As := [.long z11]) (rest := []) ⟨hx, hb, hml, hown, hts⟩ (s_J13_bitCount l dC dI cs L K Q H.size I J z11) (va_cwS 1 hts (gS pq545 pq546 pq89 pq547) rfl rfl rfl (by decide +kernel) ⟨(by rw [hR]; exact (Nat.le_of_ble_eq_true rfl)), (by rw [hR]; exact (Nat.le_of_ble_eq_true rfl))⟩) (sP_S hP hD hK hN) rfl rfl hl.1 rfl (lv_room (Nat.le_of_ble_eq_true rfl)) dX3_lowestBit_12 ⟨(by rw [hR]; exact (Nat.le_of_ble_eq_true rfl)), (by rw [hR]; exact (Nat.le_of_ble_eq_true rfl))⟩) hS hP (fun z12 H locs hz12 hP hS => ?_)
    obtain ⟨bz12, xpz12⟩ := hz12
    refine lv_goto (tgt := 30) hx hb dX3_lowestBit_15 (by decide) ?_
    subst hR; subst hQz
    exact W.iret (v := z12) hx hb hr (fun t ht hW => ⟨⟨z12, (), rfl, ⟨⟨by omega, by omega⟩, ⟨fun _ t h => xpz12.trans (by rw [low_cnt h ez8 ez9 ez11]), fun q => absurd ((lc0 ez2).mpr q) t3⟩⟩, trivial⟩, hS.F ht⟩) hS.2.2 dX3_lowestBit_30

set_option maxHeartbeats 4000000 in
set_option maxRecDepth 100000 in
theorem s_X3_highestBit (l : Launch) (dC : Nat → ClassId) (dI : Nat → Nat → Nat) (cs : Nat → ClassId) (L : List Nat) (K : Nat → Nat) (Q : Nat → Nat → Option Nat) (sz : Nat) (I : Nat → Nat → Int32) (J : Nat → Nat → Int64) (p0 : Int64) (p1 : Int64) : Met l yX3_highestBit (.code yX3_highestBit cX3_highestBit 6 (some .int) :: pw) ({ frames := 1, cells := 0, slots := 0, locals := 21 }) (sP (dC, dI) cs [.long p0, .long p1] sz L K I J Q) (va_Qi (fun (r : Int32) (_ : Unit) => ((-1) ≤ r.toInt ∧ r.toInt ≤ 127) ∧ ((¬ p1 = 0 → ∀ t, highB p1 t → r.toInt = 64 + (t : Int)) ∧ (p1 = 0 → ∀ t, highB p0 t → r.toInt = (t : Int)))) (fun _ _ => True) (fun _ => False)) 0 0 (fun _ => False) := by
  refine Met.ofW (cc := cX3_highestBit) (maxL := 6) (ret := (some .int)) (by decide +kernel) rfl ?_
  intro p e s m args below meth c s₁ B hml hv
  obtain ⟨rfl, hsz, hP, hK, hD0, hN⟩ := hv
  have hx := B.exec
  have hb := B.bytes
  have hr := B.returns
  have hts := fun w (h : w ∈ pw) => atoms_spec (ws := Cond.code yX3_highestBit cX3_highestBit 6 (some .int) :: pw) B.pre w (List.mem_cons_of_mem _ h)
  have hown : s.vm.findClass RX3 = some m.cls := findClass_of_methodNamed B.named
  have hlocks := B.notSynchronized
  subst hsz
  have hD := hD0
  obtain ⟨H, hHe⟩ : ∃ H : Heap, H = s.heap := ⟨_, rfl⟩
  have hS : va_S (fun _ => False) s.heap H [] := by rw [hHe]; exact va_S.rf
  rw [← hHe] at hP
  have hl := lv_entry ([.long p0, .long p1]) (n := 6) (Nat.le_of_ble_eq_true rfl)
  rw [lg_entry_eq]
  generalize (lg_sl ([.long p0, .long p1]) ++ List.replicate (6 - (lg_sl ([.long p0, .long p1])).length) Slot.unset).toArray = ls at hl ⊢
  have hl : lv_has ls 6 [(0, .long p0), (2, .long p1)] := hl
  rw [← hHe]
  refine namedW (fun R Qz hR hQz => ?_)
  refine lv_lload_n hx hb dX3_highestBit_0 rfl (lv_at hl 1 rfl) ?_
  refine lv_lconst (v := 0) hx hb dX3_highestBit_1 (by decide +kernel) ?_
  refine W.lcmp hx hb dX3_highestBit_2 ?_
  refine lv_topi (fun z2 ez2 => ?_)
  have j11 : ∀ (w11_0 : Int64) (H : Heap) (lo : List Loc) (ls : Array Slot), ((¬ p1 = 0 ∧ w11_0 = p1) ∨ (p1 = 0 ∧ w11_0 = p0)) → va_P (dC, dI) vwCl (Wd cs L K I J Q) H → va_S (fun _ => False) s.heap H lo → lv_has ls 6 [(0, .long p0), (2, .long p1)] → W p l e R s m (([.long p0, .long p1] : List Value).toArray) below meth c H lo 0 0 Qz (F0 m 11 ls [.long w11_0]) := by
    intro w11_0 H lo ls h11 hP hS hl
    refine lv_lstore (lv' := [(4, .long w11_0), (0, .long p0), (2, .long p1)]) hx hb dX3_highestBit_11 hl (by decide) rfl (fun ls hl => ?_)
    refine lv_lload hx hb dX3_highestBit_13 (lv_at hl 0 rfl) ?_
    refine lv_lload hx hb dX3_highestBit_15 (lv_at hl 0 rfl) ?_
    refine lv_iconst (v := 1) hx hb dX3_highestBit_17 (by decide +kernel) ?_
    refine lv_lushr hx hb dX3_highestBit_18 rfl ?_
    refine lv_topl (fun z18 ez18 => ?_)
    refine lv_lor hx hb dX3_highestBit_19 ?_
    refine lv_topl (fun z19 ez19 => ?_)
    refine lv_lstore (lv' := [(4, .long z19), (0, .long p0), (2, .long p1)]) hx hb dX3_highestBit_20 hl (by decide) rfl (fun ls hl => ?_)
    refine lv_lload hx hb dX3_highestBit_22 (lv_at hl 0 rfl) ?_
    refine lv_lload hx hb dX3_highestBit_24 (lv_at hl 0 rfl) ?_
    refine lv_iconst (v := 2) hx hb dX3_highestBit_26 (by decide +kernel) ?_
    refine lv_lushr hx hb dX3_highestBit_27 rfl ?_
    refine lv_topl (fun z27 ez27 => ?_)
    refine lv_lor hx hb dX3_highestBit_28 ?_
    refine lv_topl (fun z28 ez28 => ?_)
    refine lv_lstore (lv' := [(4, .long z28), (0, .long p0), (2, .long p1)]) hx hb dX3_highestBit_29 hl (by decide) rfl (fun ls hl => ?_)
    refine lv_lload hx hb dX3_highestBit_31 (lv_at hl 0 rfl) ?_
    refine lv_lload hx hb dX3_highestBit_33 (lv_at hl 0 rfl) ?_
    refine lv_iconst (v := 4) hx hb dX3_highestBit_35 (by decide +kernel) ?_
    refine lv_lushr hx hb dX3_highestBit_36 rfl ?_
    refine lv_topl (fun z36 ez36 => ?_)
    refine lv_lor hx hb dX3_highestBit_37 ?_
    refine lv_topl (fun z37 ez37 => ?_)
    refine lv_lstore (lv' := [(4, .long z37), (0, .long p0), (2, .long p1)]) hx hb dX3_highestBit_38 hl (by decide) rfl (fun ls hl => ?_)
    refine lv_lload hx hb dX3_highestBit_40 (lv_at hl 0 rfl) ?_
    refine lv_lload hx hb dX3_highestBit_42 (lv_at hl 0 rfl) ?_
    refine lv_bipush (v := 8) hx hb dX3_highestBit_44 (by decide +kernel) ?_
    refine lv_lushr hx hb dX3_highestBit_46 rfl ?_
    refine lv_topl (fun z46 ez46 => ?_)
    refine lv_lor hx hb dX3_highestBit_47 ?_
    refine lv_topl (fun z47 ez47 => ?_)
    refine lv_lstore (lv' := [(4, .long z47), (0, .long p0), (2, .long p1)]) hx hb dX3_highestBit_48 hl (by decide) rfl (fun ls hl => ?_)
    refine lv_lload hx hb dX3_highestBit_50 (lv_at hl 0 rfl) ?_
    refine lv_lload hx hb dX3_highestBit_52 (lv_at hl 0 rfl) ?_
    refine lv_bipush (v := 16) hx hb dX3_highestBit_54 (by decide +kernel) ?_
    refine lv_lushr hx hb dX3_highestBit_56 rfl ?_
    refine lv_topl (fun z56 ez56 => ?_)
    refine lv_lor hx hb dX3_highestBit_57 ?_
    refine lv_topl (fun z57 ez57 => ?_)
    refine lv_lstore (lv' := [(4, .long z57), (0, .long p0), (2, .long p1)]) hx hb dX3_highestBit_58 hl (by decide) rfl (fun ls hl => ?_)
    refine lv_lload hx hb dX3_highestBit_60 (lv_at hl 0 rfl) ?_
    refine lv_lload hx hb dX3_highestBit_62 (lv_at hl 0 rfl) ?_
    refine lv_bipush (v := 32) hx hb dX3_highestBit_64 (by decide +kernel) ?_
    refine lv_lushr hx hb dX3_highestBit_66 rfl ?_
    refine lv_topl (fun z66 ez66 => ?_)
    refine lv_lor hx hb dX3_highestBit_67 ?_
    refine lv_topl (fun z67 ez67 => ?_)
    refine lv_lstore (lv' := [(4, .long z67), (0, .long p0), (2, .long p1)]) hx hb dX3_highestBit_68 hl (by decide) rfl (fun ls hl => ?_)
    refine lv_lload hx hb dX3_highestBit_70 (lv_at hl 0 rfl) ?_
    refine ro_i (va_runS (As := [.long z67]) (rest := []) ⟨hx, hb, hml, hown, hts⟩ (s_J13_bitCount l dC dI cs L K Q H.size I J z67) (va_cwS 1 hts (gS pq545 pq546 pq89 pq547) rfl rfl rfl (by decide +kernel) ⟨(by rw [hR]; exact (Nat.le_of_ble_eq_true rfl)), (by rw [hR]; exact (Nat.le_of_ble_eq_true rfl))⟩) (sP_S hP hD hK hN) rfl rfl hl.1 rfl (lv_room (Nat.le_of_ble_eq_true rfl)) dX3_highestBit_72 ⟨(by rw [hR]; exact (Nat.le_of_ble_eq_true rfl)), (by rw [hR]; exact (Nat.le_of_ble_eq_true rfl))⟩) hS hP (fun z72 H locs hz72 hP hS => ?_)
    obtain ⟨bz72, xpz72⟩ := hz72
    refine lv_iconst (v := 1) hx hb dX3_highestBit_75 (by decide +kernel) ?_
    refine lv_isub hx hb dX3_highestBit_76 ?_
    refine lv_topi (fun z76 ez76 => ?_)
    have bz76 := tq_sub (k := z72.toInt) (q := (1)) ez76 rfl (by decide +kernel) (by omega) (by omega)
    refine lv_lload_n hx hb dX3_highestBit_77 rfl (lv_at hl 2 rfl) ?_
    refine lv_lconst (v := 0) hx hb dX3_highestBit_78 (by decide +kernel) ?_
    refine W.lcmp hx hb dX3_highestBit_79 ?_
    refine lv_topi (fun z79 ez79 => ?_)
    refine lv_if_eq (tgt := 88) hx hb dX3_highestBit_80 (by decide) (fun c80 => ?_) (fun c80 => ?_)
    · have t80 := tq_eq (k := z79.toInt) (q := (0)) c80 rfl (by decide +kernel)
      refine lv_iconst (v := 0) hx hb dX3_highestBit_88 (by decide +kernel) ?_
      refine lv_iadd hx hb dX3_highestBit_89 ?_
      refine lv_topi (fun z89 ez89 => ?_)
      have bz89 := tq_add (k := z76.toInt) (q := (0)) ez89 rfl (by decide +kernel) (by omega) (by omega)
      subst hR; subst hQz
      exact W.iret (v := z89) hx hb hr (fun t ht hW => ⟨⟨z89, (), rfl, ⟨⟨by omega, by omega⟩, (h11.elim (fun q => ⟨fun _ t h => by have w := xpz72; rw [high_cnt (x := w11_0) (by rw [q.2]; exact h) (smr_2 (m := 32) (smr_2 (m := 16) (smr_2 (m := 8) (smr_2 (m := 4) (smr_2 (m := 2) (smr_2 (m := 1) (smr_1 w11_0) ez18 (by decide +kernel) (by decide) ez19) ez27 (by decide +kernel) (by decide) ez28) ez36 (by decide +kernel) (by decide) ez37) ez46 (by decide +kernel) (by decide) ez47) ez56 (by decide +kernel) (by decide) ez57) ez66 (by decide +kernel) (by decide) ez67)] at w; first | omega | exact absurd ((lc0 ez79).mp (by assumption)) q.1, fun z => absurd z q.1⟩) (fun q => ⟨fun z => absurd q.1 z, fun _ t h => by have w := xpz72; rw [high_cnt (x := w11_0) (by rw [q.2]; exact h) (smr_2 (m := 32) (smr_2 (m := 16) (smr_2 (m := 8) (smr_2 (m := 4) (smr_2 (m := 2) (smr_2 (m := 1) (smr_1 w11_0) ez18 (by decide +kernel) (by decide) ez19) ez27 (by decide +kernel) (by decide) ez28) ez36 (by decide +kernel) (by decide) ez37) ez46 (by decide +kernel) (by decide) ez47) ez56 (by decide +kernel) (by decide) ez57) ez66 (by decide +kernel) (by decide) ez67)] at w; first | omega | exact absurd ((lc0 ez79).mpr q.1) (by assumption)⟩))⟩, trivial⟩, hS.F ht⟩) hS.2.2 dX3_highestBit_90
    · have t80 := tq_ne (k := z79.toInt) (q := (0)) c80 rfl (by decide +kernel)
      refine lv_bipush (v := 64) hx hb dX3_highestBit_83 (by decide +kernel) ?_
      refine lv_goto (tgt := 89) hx hb dX3_highestBit_85 (by decide) ?_
      refine lv_iadd hx hb dX3_highestBit_89 ?_
      refine lv_topi (fun z89 ez89 => ?_)
      have bz89 := tq_add (k := z76.toInt) (q := (64)) ez89 rfl (by decide +kernel) (by omega) (by omega)
      subst hR; subst hQz
      exact W.iret (v := z89) hx hb hr (fun t ht hW => ⟨⟨z89, (), rfl, ⟨⟨by omega, by omega⟩, (h11.elim (fun q => ⟨fun _ t h => by have w := xpz72; rw [high_cnt (x := w11_0) (by rw [q.2]; exact h) (smr_2 (m := 32) (smr_2 (m := 16) (smr_2 (m := 8) (smr_2 (m := 4) (smr_2 (m := 2) (smr_2 (m := 1) (smr_1 w11_0) ez18 (by decide +kernel) (by decide) ez19) ez27 (by decide +kernel) (by decide) ez28) ez36 (by decide +kernel) (by decide) ez37) ez46 (by decide +kernel) (by decide) ez47) ez56 (by decide +kernel) (by decide) ez57) ez66 (by decide +kernel) (by decide) ez67)] at w; first | omega | exact absurd ((lc0 ez79).mp (by assumption)) q.1, fun z => absurd z q.1⟩) (fun q => ⟨fun z => absurd q.1 z, fun _ t h => by have w := xpz72; rw [high_cnt (x := w11_0) (by rw [q.2]; exact h) (smr_2 (m := 32) (smr_2 (m := 16) (smr_2 (m := 8) (smr_2 (m := 4) (smr_2 (m := 2) (smr_2 (m := 1) (smr_1 w11_0) ez18 (by decide +kernel) (by decide) ez19) ez27 (by decide +kernel) (by decide) ez28) ez36 (by decide +kernel) (by decide) ez37) ez46 (by decide +kernel) (by decide) ez47) ez56 (by decide +kernel) (by decide) ez57) ez66 (by decide +kernel) (by decide) ez67)] at w; first | omega | exact absurd ((lc0 ez79).mpr q.1) (by assumption)⟩))⟩, trivial⟩, hS.F ht⟩) hS.2.2 dX3_highestBit_90
  refine lv_if_eq (tgt := 10) hx hb dX3_highestBit_3 (by decide) (fun c3 => ?_) (fun c3 => ?_)
  · have t3 := tq_eq (k := z2.toInt) (q := (0)) c3 rfl (by decide +kernel)
    refine lv_lload_n hx hb dX3_highestBit_10 rfl (lv_at hl 0 rfl) ?_
    exact j11 p0 _ _ _ (Or.inr ⟨(lc0 ez2).mp t3, rfl⟩) hP hS (lv_sub hl [0, 1] rfl)
  · have t3 := tq_ne (k := z2.toInt) (q := (0)) c3 rfl (by decide +kernel)
    refine lv_lload_n hx hb dX3_highestBit_6 rfl (lv_at hl 1 rfl) ?_
    refine lv_goto (tgt := 11) hx hb dX3_highestBit_7 (by decide) ?_
    exact j11 p1 _ _ _ (Or.inl ⟨fun q => t3 ((lc0 ez2).mpr q), rfl⟩) hP hS (lv_sub hl [0, 1] rfl)

theorem fill_0 {J : Nat → Nat → Int64} {p : Nat} {v : Int64} : J = va_up J p (fun k => if k < (0 : Int32).toInt.toNat then v else J p k) := by
  funext b k
  unfold va_up
  split
  · next q =>
    rw [q]
    show J p k = if k < (0 : Int32).toInt.toNat then v else J p k
    rw [if_neg (by show ¬ k < 0; exact Nat.not_lt_zero _)]
  · rfl
theorem fill_s {J J6 J1 : Nat → Nat → Int64} {p : Nat} {v : Int64} {i i2 : Int32} (h : J6 = va_up J p (fun k => if k < i.toInt.toNat then v else J p k)) (e : J1 = va_up J6 p (vp_updL (J6 p) i.toNatClampNeg v)) (h0 : 0 ≤ i.toInt) (h2 : i2.toInt = i.toInt + 1) : J1 = va_up J p (fun k => if k < i2.toInt.toNat then v else J p k) := by
  funext b k
  by_cases q : b = p
  · rw [e, q, va_up_self, va_up_self]
    show (if k = i.toNatClampNeg then v else J6 p k) = if k < i2.toInt.toNat then v else J p k
    by_cases w : k = i.toNatClampNeg
    · have w2 : k = i.toInt.toNat := w
      rw [if_pos w, if_pos (by omega)]
    · have w2 : ¬ k = i.toInt.toNat := w
      rw [if_neg w, h, va_up_self]
      show (if k < i.toInt.toNat then v else J p k) = if k < i2.toInt.toNat then v else J p k
      by_cases z : k < i.toInt.toNat
      · rw [if_pos z, if_pos (by omega)]
      · rw [if_neg z, if_neg (by omega)]
  · rw [e, va_up_ne _ _ q, va_up_ne _ _ q, h, va_up_ne _ _ q]

set_option maxHeartbeats 4000000 in
set_option maxRecDepth 100000 in
theorem s_J7_fill (l : Launch) (dC : Nat → ClassId) (dI : Nat → Nat → Nat) (cs : Nat → ClassId) (L : List Nat) (K G : Nat → Nat) (Q : Nat → Nat → Option Nat) (hQ : Sv L K G Q) (x0 m0 : Nat) (tx : GT) (tm : GT × Int) (sz : Nat) (I : Nat → Nat → Int32) (J : Nat → Nat → Int64) (hI : Iv L K x0 m0 tx tm I) (p0 : Nat) (hLp0 : p0 ∈ L) (hKp0 : K p0 = 12) (p1 : Int64) : Met l yJ7_fill_d0a16 (.code yJ7_fill_d0a16 cJ7_fill_d0a16 5 none :: pw) ({ frames := 0, cells := 0, slots := 0, locals := 0 }) (sP (dC, dI) cs [.ref p0, .long p1] sz L K I J Q) (va_Qv (fun (_ : Unit) => True) (fun _ t => sB (dC, dI) cs L K Q (fun I1 J1 => Iv L K x0 m0 tx tm I1 ∧ I1 = I ∧ J1 = va_up J p0 (fun k => if k < 80 then p1 else J p0 k) ∧ (∀ b, ¬ (K b = 12 ∧ (G b = G p0)) → J1 b = J b)) t) (fun q => q ∈ L ∨ sz ≤ q)) 0 0 (fun q => q ∈ L ∨ sz ≤ q) := by
  refine va_MetF (l := l) (cc := cJ7_fill_d0a16) (maxL := 5) (ret := none) (by decide +kernel) rfl ?_
  intro p e s m args below meth c s₁ B hml hv
  obtain ⟨rfl, hsz, hP, hK, hD0, hN⟩ := hv
  have hx := B.exec
  have hb := B.bytes
  have hr := B.returns
  have hts := fun w (h : w ∈ pw) => atoms_spec (ws := Cond.code yJ7_fill_d0a16 cJ7_fill_d0a16 5 none :: pw) B.pre w (List.mem_cons_of_mem _ h)
  have hown : s.vm.findClass RJ7 = some m.cls := findClass_of_methodNamed B.named
  have hlocks := B.notSynchronized
  subst hsz
  have hBB : 999 ≤ tm.2 ∧ tm.2 ≤ 6000000 := hI.2.2.2.2.1
  have dj_J : (∀ b, ¬ (K b = 12 ∧ (G b = G p0)) → J b = J b) := fun _ _ => rfl
  obtain ⟨A, hAe⟩ : ∃ A : Nat → Prop, A = (fun q => q ∈ L ∨ s.heap.size ≤ q) := ⟨_, rfl⟩
  rw [← hAe]
  have hAL : ∀ q, q ∈ L → A q := fun q h => by rw [hAe]; exact Or.inl h
  have hA : ∀ q, s.heap.size ≤ q → A q := fun q h => by rw [hAe]; exact Or.inr h
  have hD : ∀ F, va_D A (va_pl L F) := fun F => (hD0 F).weaken (fun k q hk _ => hAL _ (pl_mem hk))
  obtain ⟨H, hHe⟩ : ∃ H : Heap, H = s.heap := ⟨_, rfl⟩
  have hS : va_S A s.heap H [] := by rw [hHe]; exact va_S.rf
  rw [← hHe] at hP
  have hl := lv_entry ([.ref p0, .long p1]) (n := 5) (Nat.le_of_ble_eq_true rfl)
  rw [lg_entry_eq]
  generalize (lg_sl ([.ref p0, .long p1]) ++ List.replicate (5 - (lg_sl ([.ref p0, .long p1])).length) Slot.unset).toArray = ls at hl ⊢
  have hl : lv_has ls 5 [(0, .ref p0), (1, .long p1)] := hl
  rw [← hHe]
  refine namedW (fun R Qz hR hQz => ?_)
  refine lv_iconst (v := 0) hx hb dJ7_fill_d0a16_0 (by decide +kernel) ?_
  refine lv_istore_n (lv' := [(3, .int 0), (0, .ref p0), (1, .long p1)]) hx hb dJ7_fill_d0a16_1 rfl hl (by decide) rfl (fun ls hl => ?_)
  refine lv_aload_n hx hb dJ7_fill_d0a16_2 rfl (lv_at hl 1 rfl) ?_
  refine p_alen (v := 80) hx hb hK hP 2 hLp0 hKp0 rfl rfl rfl dJ7_fill_d0a16_3 ?_
  refine lv_istore (lv' := [(4, .int 80), (3, .int 0), (0, .ref p0), (1, .long p1)]) hx hb dJ7_fill_d0a16_4 hl (by decide) rfl (fun ls hl => ?_)
  have key6 := blocks (fun n => ∀ (v6_3 : Int32) (J6 : Nat → Nat → Int64) (H : Heap) (lo : List Loc) (ls : Array Slot), (81 - v6_3.toInt).toNat = n → ((0) ≤ v6_3.toInt ∧ v6_3.toInt ≤ 80) → (∀ b, ¬ (K b = 12 ∧ (G b = G p0)) → J6 b = J b) → J6 = va_up J p0 (fun k => if k < v6_3.toInt.toNat then p1 else J p0 k) → va_P (dC, dI) vwCl (Wd cs L K I J6 Q) H → va_S A s.heap H lo → lv_has ls 5 [(0, .ref p0), (1, .long p1), (3, .int v6_3), (4, .int 80)] → W p l e R s m (([.ref p0, .long p1] : List Value).toArray) below meth c H lo 0 0 Qz (F0 m 6 ls [])) (by
    intro n ih6
    intro v6_3 J6 H lo ls hmu6 bv6_3 dj_J6 hj hP hS hl
    refine lv_iload_n hx hb dJ7_fill_d0a16_6 rfl (lv_at hl 2 rfl) ?_
    refine lv_iload hx hb dJ7_fill_d0a16_7 (lv_at hl 3 rfl) ?_
    refine lv_icmp_ge (tgt := 22) hx hb dJ7_fill_d0a16_9 (by decide) (fun c9 => ?_) (fun c9 => ?_)
    · have t9 := tq_le (k := (80)) (q := v6_3.toInt) c9 (by decide +kernel) rfl
      subst hR; subst hQz
      exact W.vret hx hb hr (fun t ht hW => ⟨⟨(), rfl, trivial, ⟨I, J6, ⟨hI, rfl, (by rw [hj, show v6_3.toInt.toNat = 80 by omega]), dj_J6⟩, by rw [ht]; exact hP⟩⟩, hS.F ht⟩) hS.2.2 dJ7_fill_d0a16_22
    · have t9 := tq_nle (k := (80)) (q := v6_3.toInt) c9 (by decide +kernel) rfl
      refine lv_aload_n hx hb dJ7_fill_d0a16_12 rfl (lv_at hl 0 rfl) ?_
      refine lv_iload_n hx hb dJ7_fill_d0a16_13 rfl (lv_at hl 2 rfl) ?_
      refine lv_lload_n hx hb dJ7_fill_d0a16_14 rfl (lv_at hl 1 rfl) ?_
      refine p_last hx hb hK hP hD hS 2 hLp0 hKp0 rfl (fun _ => rfl) rfl (in_of (by omega) (by omega)) dJ7_fill_d0a16_15 (fun H locs hP hS => ?_)
      obtain ⟨Jz15, hP, qJz15⟩ : ∃ Jz15, va_P (dC, dI) vwCl (Wd cs L K I Jz15 Q) H ∧ Jz15 = va_up J6 p0 (vp_updL (J6 p0) v6_3.toNatClampNeg p1) := ⟨_, hP, rfl⟩
      have dj_Jz15 : (∀ b, ¬ (K b = 12 ∧ (G b = G p0)) → Jz15 b = J b) := fun b hc => (congrFun qJz15 b).trans ((va_up_ne _ _ (fun z => hc (by rw [z]; exact ⟨hKp0, by omega⟩))).trans (dj_J6 b hc))
      obtain ⟨z16, ez16⟩ : ∃ y : Int32, y = v6_3 + 1 := ⟨_, rfl⟩
      refine lv_iinc (v := z16) (lv' := [(3, .int z16), (0, .ref p0), (1, .long p1), (4, .int 80)]) hx hb dJ7_fill_d0a16_16 hl (k := 2) rfl (by rw [ez16]; rfl) (by decide) rfl (fun ls hl => ?_)
      have bz16 := tq_add (k := v6_3.toInt) (q := 1) ez16 rfl (by decide +kernel) (by omega) (by omega)
      refine lv_goto (tgt := 6) hx hb dJ7_fill_d0a16_19 (by decide) ?_
      exact ih6 _ (by omega) z16 Jz15 _ _ _ rfl ⟨by omega, by omega⟩ dj_Jz15 (fill_s hj qJz15 (by omega) (by omega)) hP hS (lv_sub hl [1, 2, 0, 3] rfl))
  exact key6 _ 0 J _ _ _ rfl ⟨by decide +kernel, by decide +kernel⟩ dj_J fill_0 hP hS (lv_sub hl [2, 3, 1, 0] rfl)

set_option maxHeartbeats 4000000 in
set_option maxRecDepth 100000 in
theorem s_X3_resize (l : Launch) (dC : Nat → ClassId) (dI : Nat → Nat → Nat) (cs : Nat → ClassId) (L : List Nat) (K G : Nat → Nat) (Q : Nat → Nat → Option Nat) (hQ : Sv L K G Q) (x0 m0 : Nat) (tx : GT) (tm : GT × Int) (sz : Nat) (I : Nat → Nat → Int32) (J : Nat → Nat → Int64) (hI : Iv L K x0 m0 tx tm I) (p0 : Nat) (hLp0 : p0 ∈ L) (hKp0 : K p0 = 3) (p1 : Int32) (bp1 : (-300) ≤ p1.toInt ∧ p1.toInt ≤ 128) (p2 : Int32) (bp2 : (-300) ≤ p2.toInt ∧ p2.toInt ≤ 40) : Met l yX3_resize (.code yX3_resize cX3_resize 3 none :: pw) ({ frames := 1, cells := 0, slots := 0, locals := 24 }) (sP (dC, dI) cs [.ref p0, .int p1, .int p2] sz L K I J Q) (va_Qv (fun (_ : Unit) => True) (fun _ t => sB (dC, dI) cs L K Q (fun I1 J1 => Iv L K x0 m0 tx tm I1 ∧ (∀ b, ¬ (b = p0) → I1 b = I b) ∧ ((I1 p0 1 = p2 ∧ I1 p0 0 = p1 ∧ ∀ b k, ¬ k = 0 → ¬ k = 1 → ¬ k = 3 → I1 b k = I b k)) ∧ (∀ k, k < 80 → J1 (wo Q p0) k = 0) ∧ (∀ b, ¬ (K b = 12 ∧ (G b = G p0)) → J1 b = J b)) t) (fun q => q ∈ L ∨ sz ≤ q)) 0 0 (fun q => q ∈ L ∨ sz ≤ q) := by
  refine Met.ofW (cc := cX3_resize) (maxL := 3) (ret := none) (by decide +kernel) rfl ?_
  intro p e s m args below meth c s₁ B hml hv
  obtain ⟨rfl, hsz, hP, hK, hD0, hN⟩ := hv
  have hx := B.exec
  have hb := B.bytes
  have hr := B.returns
  have hts := fun w (h : w ∈ pw) => atoms_spec (ws := Cond.code yX3_resize cX3_resize 3 none :: pw) B.pre w (List.mem_cons_of_mem _ h)
  have hown : s.vm.findClass RX3 = some m.cls := findClass_of_methodNamed B.named
  have hlocks := B.notSynchronized
  subst hsz
  have hBB : 999 ≤ tm.2 ∧ tm.2 ≤ 6000000 := hI.2.2.2.2.1
  have dj_J : (∀ b, ¬ (K b = 12 ∧ (G b = G p0)) → J b = J b) := fun _ _ => rfl
  have fr_I : ∀ b, ¬ (b = p0) → I b = I b := fun _ _ => rfl
  obtain ⟨A, hAe⟩ : ∃ A : Nat → Prop, A = (fun q => q ∈ L ∨ s.heap.size ≤ q) := ⟨_, rfl⟩
  rw [← hAe]
  have hAL : ∀ q, q ∈ L → A q := fun q h => by rw [hAe]; exact Or.inl h
  have hA : ∀ q, s.heap.size ≤ q → A q := fun q h => by rw [hAe]; exact Or.inr h
  have hD : ∀ F, va_D A (va_pl L F) := fun F => (hD0 F).weaken (fun k q hk _ => hAL _ (pl_mem hk))
  obtain ⟨H, hHe⟩ : ∃ H : Heap, H = s.heap := ⟨_, rfl⟩
  have hS : va_S A s.heap H [] := by rw [hHe]; exact va_S.rf
  rw [← hHe] at hP
  have hl := lv_entry ([.ref p0, .int p1, .int p2]) (n := 3) (Nat.le_of_ble_eq_true rfl)
  rw [lg_entry_eq]
  generalize (lg_sl ([.ref p0, .int p1, .int p2]) ++ List.replicate (3 - (lg_sl ([.ref p0, .int p1, .int p2])).length) Slot.unset).toArray = ls at hl ⊢
  have hl : lv_has ls 3 [(0, .ref p0), (1, .int p1), (2, .int p2)] := hl
  rw [← hHe]
  refine namedW (fun R Qz hR hQz => ?_)
  refine lv_aload_n hx hb dX3_resize_0 rfl (lv_at hl 0 rfl) ?_
  refine lv_iload_n hx hb dX3_resize_1 rfl (lv_at hl 1 rfl) ?_
  refine p_put hx hb hts inX3 tyX3 tyX3_ok nmX3 hown hK hP hD hS hLp0 hKp0 rfl rfl 0 (by decide) (hts _ pq116) rfl (by decide +kernel) (Nat.le_of_ble_eq_true rfl) (oS_3_0 cs _ _ _ _) dX3_resize_2 (fun H locs hP hS => ?_)
  obtain ⟨Iz2, hP, hIz2, qIz2⟩ : ∃ Iz2, va_P (dC, dI) vwCl (Wd cs L K Iz2 J Q) H ∧ Iv L K x0 m0 tx tm Iz2 ∧ Iz2 = va_up I p0 (upd (I p0) 0 p1) := ⟨_, hP, Iv_put hI hKp0 (oP_3_0 (Iv_at hI hLp0 hKp0) ⟨by omega, by omega⟩) (by decide) (by decide), rfl⟩
  have fr_Iz2 : ∀ b, ¬ (b = p0) → Iz2 b = I b := fun b q => (congrFun qIz2 b).trans ((va_up_ne _ _ (fun z => q z)).trans (fr_I b q))
  refine lv_aload_n hx hb dX3_resize_5 rfl (lv_at hl 0 rfl) ?_
  refine lv_iload_n hx hb dX3_resize_6 rfl (lv_at hl 2 rfl) ?_
  refine p_put hx hb hts inX3 tyX3 tyX3_ok nmX3 hown hK hP hD hS hLp0 hKp0 rfl rfl 1 (by decide) (hts _ pq120) rfl (by decide +kernel) (Nat.le_of_ble_eq_true rfl) (oS_3_1 cs _ _ _ _) dX3_resize_7 (fun H locs hP hS => ?_)
  obtain ⟨Iz7, hP, hIz7, qIz7⟩ : ∃ Iz7, va_P (dC, dI) vwCl (Wd cs L K Iz7 J Q) H ∧ Iv L K x0 m0 tx tm Iz7 ∧ Iz7 = va_up Iz2 p0 (upd (Iz2 p0) 1 p2) := ⟨_, hP, Iv_put hIz2 hKp0 (oP_3_1 (Iv_at hIz2 hLp0 hKp0) ⟨by omega, by omega⟩) (by decide) (by decide), rfl⟩
  have fr_Iz7 : ∀ b, ¬ (b = p0) → Iz7 b = I b := fun b q => (congrFun qIz7 b).trans ((va_up_ne _ _ (fun z => q z)).trans (fr_Iz2 b q))
  refine lv_aload_n hx hb dX3_resize_10 rfl (lv_at hl 0 rfl) ?_
  refine lv_iconst (v := 0) hx hb dX3_resize_11 (by decide +kernel) ?_
  refine p_put hx hb hts inX3 tyX3 tyX3_ok nmX3 hown hK hP hD hS hLp0 hKp0 rfl rfl 3 (by decide) (hts _ pq129) rfl (by decide +kernel) (Nat.le_of_ble_eq_true rfl) (oS_3_3 cs _ _ _ _) dX3_resize_12 (fun H locs hP hS => ?_)
  obtain ⟨Iz12, hP, hIz12, qIz12⟩ : ∃ Iz12, va_P (dC, dI) vwCl (Wd cs L K Iz12 J Q) H ∧ Iv L K x0 m0 tx tm Iz12 ∧ Iz12 = va_up Iz7 p0 (upd (Iz7 p0) 3 0) := ⟨_, hP, Iv_put hIz7 hKp0 (oP_3_3z (Iv_at hIz7 hLp0 hKp0)) (by decide) (by decide), rfl⟩
  have fr_Iz12 : ∀ b, ¬ (b = p0) → Iz12 b = I b := fun b q => (congrFun qIz12 b).trans ((va_up_ne _ _ (fun z => q z)).trans (fr_Iz7 b q))
  refine lv_aload_n hx hb dX3_resize_15 rfl (lv_at hl 0 rfl) ?_
  obtain ⟨y16, ey16, hLy16, hKy16, hGy16⟩ := oQ_3_2 (Sv_at hQ hLp0 hKp0)
  refine p_get (v := .ref y16) hx hb hts inX3 hown hK hP hLp0 hKp0 rfl rfl 2 (by decide) (hts _ pq124) (congrArg (fun q => some (va_rf q)) ey16) dX3_resize_16 ?_
  refine lv_lconst (v := 0) hx hb dX3_resize_19 (by decide +kernel) ?_
  refine sw_v (Z := (fun I1 J1 => Iv L K x0 m0 tx tm I1 ∧ I1 = Iz12 ∧ J1 = va_up J y16 (fun k => if k < 80 then (0 : Int64) else J y16 k) ∧ (∀ b, ¬ (K b = 12 ∧ (G b = G y16)) → J1 b = J b))) (va_runS (As := [.ref y16, .long 0]) (rest := []) ⟨hx, hb, hml, hown, hts⟩ (s_J7_fill l dC dI cs L K G Q hQ x0 m0 tx tm H.size Iz12 J hIz12 y16 hLy16 hKy16 0) (va_cwS 2 hts (gS pq496 pq497 pq87 pq498) rfl rfl rfl (by decide +kernel) ⟨(by rw [hR]; exact (Nat.le_of_ble_eq_true rfl)), (by rw [hR]; exact (Nat.le_of_ble_eq_true rfl))⟩) (sP_S hP hD hK hN) rfl rfl hl.1 rfl (lv_room (Nat.le_of_ble_eq_true rfl)) dX3_resize_20 ⟨(by rw [hR]; exact (Nat.le_of_ble_eq_true rfl)), (by rw [hR]; exact (Nat.le_of_ble_eq_true rfl))⟩) hS hAL hA (fun Iz20 Jz20 H locs hz20 hIz20 hP hS => ?_)
  obtain ⟨hIz20, sm20, jz20, djc20⟩ := hIz20
  have dj_Jz20 : (∀ b, ¬ (K b = 12 ∧ (G b = G p0)) → Jz20 b = J b) := fun b hc => (djc20 b (fun z => hc (by exact ⟨z.1, by have z2 := z.2; omega⟩))).trans (dj_J b hc)
  obtain rfl : Iz12 = Iz20 := sm20.symm
  subst hR; subst hQz
  exact W.vret hx hb hr (fun t ht hW => ⟨⟨(), rfl, trivial, ⟨Iz12, Jz20, ⟨hIz12, fr_Iz12, ⟨(by rw [qIz12, rz_fr _ _ _ _ (by decide), qIz7, rz_at]), (by rw [qIz12, rz_fr _ _ _ _ (by decide), qIz7, rz_fr _ _ _ _ (by decide), qIz2, rz_at]), (fun b k h0 h1 h3 => by rw [qIz12, rz_fr _ _ _ _ h3, qIz7, rz_fr _ _ _ _ h1, qIz2, rz_fr _ _ _ _ h0])⟩, (fun k hk => by rw [wo_of ey16, jz20, va_up_self]; exact if_pos hk), dj_Jz20⟩, by rw [ht]; exact hP⟩⟩, hS.F ht⟩) hS.2.2 dX3_resize_23

set_option maxHeartbeats 4000000 in
set_option maxRecDepth 100000 in
theorem s_X3_measure (l : Launch) (dC : Nat → ClassId) (dI : Nat → Nat → Nat) (cs : Nat → ClassId) (L : List Nat) (K G : Nat → Nat) (Q : Nat → Nat → Option Nat) (hQ : Sv L K G Q) (x0 m0 : Nat) (tx : GT) (tm : GT × Int) (sz : Nat) (I : Nat → Nat → Int32) (J : Nat → Nat → Int64) (hI : Iv L K x0 m0 tx tm I) (p0 : Nat) (hLp0 : p0 ∈ L) (hKp0 : K p0 = 3) : Met l yX3_measure (.code yX3_measure cX3_measure 10 none :: pw) ({ frames := 2, cells := 0, slots := 0, locals := 46 }) (sP (dC, dI) cs [.ref p0] sz L K I J Q) (va_Qv (fun (_ : Unit) => True) (fun _ t => sB (dC, dI) cs L K Q (fun I1 J1 => Iv L K x0 m0 tx tm I1 ∧ (∀ b, ¬ (b = p0) → I1 b = I b) ∧ I1 p0 0 = I p0 0 ∧ I1 p0 1 = I p0 1 ∧ (mcl (I p0 0).toInt (I p0 1).toInt (J (wo Q p0)) → msr (J (wo Q p0)) (I1 p0 3).toInt (I1 p0 4).toInt (I1 p0 5).toInt (I1 p0 6).toInt (I1 p0 7).toInt) ∧ J1 = J) t) (fun q => q ∈ L ∨ sz ≤ q)) 0 0 (fun q => q ∈ L ∨ sz ≤ q) := by
  refine Met.ofW (cc := cX3_measure) (maxL := 10) (ret := none) (by decide +kernel) rfl ?_
  intro p e s m args below meth c s₁ B hml hv
  obtain ⟨rfl, hsz, hP, hK, hD0, hN⟩ := hv
  have hx := B.exec
  have hb := B.bytes
  have hr := B.returns
  have hts := fun w (h : w ∈ pw) => atoms_spec (ws := Cond.code yX3_measure cX3_measure 10 none :: pw) B.pre w (List.mem_cons_of_mem _ h)
  have hown : s.vm.findClass RX3 = some m.cls := findClass_of_methodNamed B.named
  have hlocks := B.notSynchronized
  subst hsz
  have hBB : 999 ≤ tm.2 ∧ tm.2 ≤ 6000000 := hI.2.2.2.2.1
  have hI0 := hI
  have hI := Iw_of hLp0 hKp0 hI
  have trI3 : I p0 3 = I p0 3 := rfl
  have trI4 : I p0 4 = I p0 4 := rfl
  have trI5 : I p0 5 = I p0 5 := rfl
  have trI7 : I p0 7 = I p0 7 := rfl
  have dj_J : J = J := rfl
  have kp0_0_I : I p0 0 = I p0 0 := rfl
  have kp0_1_I : I p0 1 = I p0 1 := rfl
  have fr_I : ∀ b, ¬ (b = p0) → I b = I b := fun _ _ => rfl
  obtain ⟨A, hAe⟩ : ∃ A : Nat → Prop, A = (fun q => q ∈ L ∨ s.heap.size ≤ q) := ⟨_, rfl⟩
  rw [← hAe]
  have hAL : ∀ q, q ∈ L → A q := fun q h => by rw [hAe]; exact Or.inl h
  have hA : ∀ q, s.heap.size ≤ q → A q := fun q h => by rw [hAe]; exact Or.inr h
  have hD : ∀ F, va_D A (va_pl L F) := fun F => (hD0 F).weaken (fun k q hk _ => hAL _ (pl_mem hk))
  obtain ⟨H, hHe⟩ : ∃ H : Heap, H = s.heap := ⟨_, rfl⟩
  have hS : va_S A s.heap H [] := by rw [hHe]; exact va_S.rf
  rw [← hHe] at hP
  have hl := lv_entry ([.ref p0]) (n := 10) (Nat.le_of_ble_eq_true rfl)
  rw [lg_entry_eq]
  generalize (lg_sl ([.ref p0]) ++ List.replicate (10 - (lg_sl ([.ref p0])).length) Slot.unset).toArray = ls at hl ⊢
  have hl : lv_has ls 10 [(0, .ref p0)] := hl
  rw [← hHe]
  refine namedW (fun R Qz hR hQz => ?_)
  refine lv_lconst (v := 0) hx hb dX3_measure_0 (by decide +kernel) ?_
  refine lv_lstore_n (lv' := [(1, .long 0), (0, .ref p0)]) hx hb dX3_measure_1 rfl hl (by decide) rfl (fun ls hl => ?_)
  refine lv_lconst (v := 0) hx hb dX3_measure_2 (by decide +kernel) ?_
  refine lv_lstore_n (lv' := [(3, .long 0), (1, .long 0), (0, .ref p0)]) hx hb dX3_measure_3 rfl hl (by decide) rfl (fun ls hl => ?_)
  refine lv_aload_n hx hb dX3_measure_4 rfl (lv_at hl 2 rfl) ?_
  refine lv_iconst (v := 0) hx hb dX3_measure_5 (by decide +kernel) ?_
  refine p_put hx hb hts inX3 tyX3 tyX3_ok nmX3 hown hK hP hD hS hLp0 hKp0 rfl rfl 3 (by decide) (hts _ pq129) rfl (by decide +kernel) (Nat.le_of_ble_eq_true rfl) (oS_3_3 cs _ _ _ _) dX3_measure_6 (fun H locs hP hS => ?_)
  obtain ⟨Iz6, hP, hIz6, trIz63, trIz64, trIz65, trIz67, qIz6⟩ : ∃ Iz6, va_P (dC, dI) vwCl (Wd cs L K Iz6 J Q) H ∧ Iw L K x0 m0 tx tm p0 Iz6 ∧ Iz6 p0 3 = (0 : Int32) ∧ Iz6 p0 4 = I p0 4 ∧ Iz6 p0 5 = I p0 5 ∧ Iz6 p0 7 = I p0 7 ∧ Iz6 = va_up I p0 (upd (I p0) 3 (0 : Int32)) := ⟨_, hP, Iw_put hI (oV_3_3 (Iw_at hI hLp0 hKp0)), by rw [va_up_self]; simp only [upd, if_true], by rw [va_up_self]; first | (simp only [upd, show ¬ (4 : Nat) = 3 from by decide, if_false]; done) | (simp only [upd, show ¬ (4 : Nat) = 3 from by decide, if_false]; exact trI4), by rw [va_up_self]; first | (simp only [upd, show ¬ (5 : Nat) = 3 from by decide, if_false]; done) | (simp only [upd, show ¬ (5 : Nat) = 3 from by decide, if_false]; exact trI5), by rw [va_up_self]; first | (simp only [upd, show ¬ (7 : Nat) = 3 from by decide, if_false]; done) | (simp only [upd, show ¬ (7 : Nat) = 3 from by decide, if_false]; exact trI7), rfl⟩
  have kp0_0_Iz6 : Iz6 p0 0 = I p0 0 := (congrFun (congrFun qIz6 p0) 0).trans ((rz_fr _ _ _ _ (by decide)).trans kp0_0_I)
  have kp0_1_Iz6 : Iz6 p0 1 = I p0 1 := (congrFun (congrFun qIz6 p0) 1).trans ((rz_fr _ _ _ _ (by decide)).trans kp0_1_I)
  have fr_Iz6 : ∀ b, ¬ (b = p0) → Iz6 b = I b := fun b q => (congrFun qIz6 b).trans ((va_up_ne _ _ (fun z => q z)).trans (fr_I b q))
  refine lv_aload_n hx hb dX3_measure_9 rfl (lv_at hl 2 rfl) ?_
  refine lv_iconst (v := (-1)) hx hb dX3_measure_10 (by decide +kernel) ?_
  refine p_put hx hb hts inX3 tyX3 tyX3_ok nmX3 hown hK hP hD hS hLp0 hKp0 rfl rfl 5 (by decide) (hts _ pq137) rfl (by decide +kernel) (Nat.le_of_ble_eq_true rfl) (oS_3_5 cs _ _ _ _) dX3_measure_11 (fun H locs hP hS => ?_)
  obtain ⟨Iz11, hP, hIz11, trIz113, trIz114, trIz115, trIz117, qIz11⟩ : ∃ Iz11, va_P (dC, dI) vwCl (Wd cs L K Iz11 J Q) H ∧ Iw L K x0 m0 tx tm p0 Iz11 ∧ Iz11 p0 3 = (0 : Int32) ∧ Iz11 p0 4 = I p0 4 ∧ Iz11 p0 5 = ((-1) : Int32) ∧ Iz11 p0 7 = I p0 7 ∧ Iz11 = va_up Iz6 p0 (upd (Iz6 p0) 5 ((-1) : Int32)) := ⟨_, hP, Iw_put hIz6 (oV_3_5 (Iw_at hIz6 hLp0 hKp0) ⟨by decide +kernel, by decide +kernel⟩), by rw [va_up_self]; first | (simp only [upd, show ¬ (3 : Nat) = 5 from by decide, if_false]; done) | (simp only [upd, show ¬ (3 : Nat) = 5 from by decide, if_false]; exact trIz63), by rw [va_up_self]; first | (simp only [upd, show ¬ (4 : Nat) = 5 from by decide, if_false]; done) | (simp only [upd, show ¬ (4 : Nat) = 5 from by decide, if_false]; exact trIz64), by rw [va_up_self]; simp only [upd, if_true], by rw [va_up_self]; first | (simp only [upd, show ¬ (7 : Nat) = 5 from by decide, if_false]; done) | (simp only [upd, show ¬ (7 : Nat) = 5 from by decide, if_false]; exact trIz67), rfl⟩
  have kp0_0_Iz11 : Iz11 p0 0 = I p0 0 := (congrFun (congrFun qIz11 p0) 0).trans ((rz_fr _ _ _ _ (by decide)).trans kp0_0_Iz6)
  have kp0_1_Iz11 : Iz11 p0 1 = I p0 1 := (congrFun (congrFun qIz11 p0) 1).trans ((rz_fr _ _ _ _ (by decide)).trans kp0_1_Iz6)
  have fr_Iz11 : ∀ b, ¬ (b = p0) → Iz11 b = I b := fun b q => (congrFun qIz11 b).trans ((va_up_ne _ _ (fun z => q z)).trans (fr_Iz6 b q))
  refine lv_aload_n hx hb dX3_measure_14 rfl (lv_at hl 2 rfl) ?_
  refine lv_iconst (v := (-1)) hx hb dX3_measure_15 (by decide +kernel) ?_
  refine p_put hx hb hts inX3 tyX3 tyX3_ok nmX3 hown hK hP hD hS hLp0 hKp0 rfl rfl 7 (by decide) (hts _ pq143) rfl (by decide +kernel) (Nat.le_of_ble_eq_true rfl) (oS_3_7 cs _ _ _ _) dX3_measure_16 (fun H locs hP hS => ?_)
  obtain ⟨Iz16, hP, hIz16, trIz163, trIz164, trIz165, trIz167, qIz16⟩ : ∃ Iz16, va_P (dC, dI) vwCl (Wd cs L K Iz16 J Q) H ∧ Iw L K x0 m0 tx tm p0 Iz16 ∧ Iz16 p0 3 = (0 : Int32) ∧ Iz16 p0 4 = I p0 4 ∧ Iz16 p0 5 = ((-1) : Int32) ∧ Iz16 p0 7 = ((-1) : Int32) ∧ Iz16 = va_up Iz11 p0 (upd (Iz11 p0) 7 ((-1) : Int32)) := ⟨_, hP, Iw_put hIz11 (oV_3_7 (Iw_at hIz11 hLp0 hKp0) ⟨by decide +kernel, by decide +kernel⟩), by rw [va_up_self]; first | (simp only [upd, show ¬ (3 : Nat) = 7 from by decide, if_false]; done) | (simp only [upd, show ¬ (3 : Nat) = 7 from by decide, if_false]; exact trIz113), by rw [va_up_self]; first | (simp only [upd, show ¬ (4 : Nat) = 7 from by decide, if_false]; done) | (simp only [upd, show ¬ (4 : Nat) = 7 from by decide, if_false]; exact trIz114), by rw [va_up_self]; first | (simp only [upd, show ¬ (5 : Nat) = 7 from by decide, if_false]; done) | (simp only [upd, show ¬ (5 : Nat) = 7 from by decide, if_false]; exact trIz115), by rw [va_up_self]; simp only [upd, if_true], rfl⟩
  have kp0_0_Iz16 : Iz16 p0 0 = I p0 0 := (congrFun (congrFun qIz16 p0) 0).trans ((rz_fr _ _ _ _ (by decide)).trans kp0_0_Iz11)
  have kp0_1_Iz16 : Iz16 p0 1 = I p0 1 := (congrFun (congrFun qIz16 p0) 1).trans ((rz_fr _ _ _ _ (by decide)).trans kp0_1_Iz11)
  have fr_Iz16 : ∀ b, ¬ (b = p0) → Iz16 b = I b := fun b q => (congrFun qIz16 b).trans ((va_up_ne _ _ (fun z => q z)).trans (fr_Iz11 b q))
  refine lv_iconst (v := 0) hx hb dX3_measure_19 (by decide +kernel) ?_
  refine lv_istore (lv' := [(5, .int 0), (3, .long 0), (1, .long 0), (0, .ref p0)]) hx hb dX3_measure_20 hl (by decide) rfl (fun ls hl => ?_)
  have key22 := blocks (fun n => ∀ (v22_1 : Int64) (v22_3 : Int64) (v22_5 : Int32) (I22 : Nat → Nat → Int32) (H : Heap) (lo : List Loc) (ls : Array Slot), (41 - v22_5.toInt).toNat = n → ((0) ≤ v22_5.toInt ∧ v22_5.toInt ≤ 40) → Iw L K x0 m0 tx tm p0 I22 → I22 p0 0 = I p0 0 → I22 p0 1 = I p0 1 → (∀ b, ¬ (b = p0) → I22 b = I b) → ((I22 p0 3).toInt = 0 ∨ (0 ≤ (I22 p0 5).toInt ∧ (I22 p0 5).toInt ≤ (I22 p0 7).toInt)) → (I22 p0 5).toInt < v22_5.toInt → mzI (J (wo Q p0)) v22_5.toInt (I22 p0 3).toInt v22_1 v22_3 (I22 p0 5).toInt (I22 p0 7).toInt → va_P (dC, dI) vwCl (Wd cs L K I22 J Q) H → va_S A s.heap H lo → lv_has ls 10 [(0, .ref p0), (1, .long v22_1), (3, .long v22_3), (5, .int v22_5)] → W p l e R s m (([.ref p0] : List Value).toArray) below meth c H lo 0 0 Qz (F0 m 22 ls [])) (by
    intro n ih22
    intro v22_1 v22_3 v22_5 I22 H lo ls hmu22 bv22_5 hI22 kp0_0_I22 kp0_1_I22 fr_I22 hT hV hz hP hS hl
    have trI223 : I22 p0 3 = I22 p0 3 := rfl
    have trI224 : I22 p0 4 = I22 p0 4 := rfl
    have trI225 : I22 p0 5 = I22 p0 5 := rfl
    have trI227 : I22 p0 7 = I22 p0 7 := rfl
    refine lv_iload hx hb dX3_measure_22 (lv_at hl 3 rfl) ?_
    refine lv_aload_n hx hb dX3_measure_24 rfl (lv_at hl 0 rfl) ?_
    refine p_get hx hb hts inX3 hown hK hP hLp0 hKp0 rfl rfl 1 (by decide) (hts _ pq120) rfl dX3_measure_25 ?_
    refine lv_topi (fun z25 ez25 => ?_)
    have bz25 := oW_3_1 (Iw_at hI22 hLp0 hKp0)
    rw [← ez25] at bz25
    refine lv_icmp_ge (tgt := 127) hx hb dX3_measure_28 (by decide) (fun c28 => ?_) (fun c28 => ?_)
    · have t28 := tq_le (k := z25.toInt) (q := v22_5.toInt) c28 rfl rfl
      refine lv_aload_n hx hb dX3_measure_127 rfl (lv_at hl 0 rfl) ?_
      refine lv_aload_n hx hb dX3_measure_128 rfl (lv_at hl 0 rfl) ?_
      refine p_get hx hb hts inX3 hown hK hP hLp0 hKp0 rfl rfl 3 (by decide) (hts _ pq129) rfl dX3_measure_129 ?_
      refine lv_topi (fun z129 ez129 => ?_)
      have j144 : ∀ (w144_1 : Int32) (H : Heap) (lo : List Loc) (ls : Array Slot), ((-1) ≤ w144_1.toInt ∧ w144_1.toInt ≤ 128) → ((I22 p0 3).toInt = 0 ∨ 0 ≤ w144_1.toInt) → ((∃ x, dt v22_1 v22_3 x = true) → dt v22_1 v22_3 w144_1.toInt = true ∧ ∀ x, dt v22_1 v22_3 x = true → w144_1.toInt ≤ x) → va_P (dC, dI) vwCl (Wd cs L K I22 J Q) H → va_S A s.heap H lo → lv_has ls 10 [(0, .ref p0), (1, .long v22_1), (3, .long v22_3), (5, .int v22_5)] → W p l e R s m (([.ref p0] : List Value).toArray) below meth c H lo 0 0 Qz (F0 m 144 ls [.int w144_1, .ref p0]) := by
        intro w144_1 H lo ls bw144_1 hU hlf hP hS hl
        refine p_put hx hb hts inX3 tyX3 tyX3_ok nmX3 hown hK hP hD hS hLp0 hKp0 rfl rfl 4 (by decide) (hts _ pq134) rfl (by decide +kernel) (Nat.le_of_ble_eq_true rfl) (oS_3_4 cs _ _ _ _) dX3_measure_144 (fun H locs hP hS => ?_)
        obtain ⟨Iz144, hP, hIz144, trIz1443, trIz1444, trIz1445, trIz1447, qIz144⟩ : ∃ Iz144, va_P (dC, dI) vwCl (Wd cs L K Iz144 J Q) H ∧ Iw L K x0 m0 tx tm p0 Iz144 ∧ Iz144 p0 3 = I22 p0 3 ∧ Iz144 p0 4 = w144_1 ∧ Iz144 p0 5 = I22 p0 5 ∧ Iz144 p0 7 = I22 p0 7 ∧ Iz144 = va_up I22 p0 (upd (I22 p0) 4 w144_1) := ⟨_, hP, Iw_put hI22 (oV_3_4 (Iw_at hI22 hLp0 hKp0) ⟨by omega, by omega⟩), by rw [va_up_self]; first | (simp only [upd, show ¬ (3 : Nat) = 4 from by decide, if_false]; done) | (simp only [upd, show ¬ (3 : Nat) = 4 from by decide, if_false]; exact trI223), by rw [va_up_self]; simp only [upd, if_true], by rw [va_up_self]; first | (simp only [upd, show ¬ (5 : Nat) = 4 from by decide, if_false]; done) | (simp only [upd, show ¬ (5 : Nat) = 4 from by decide, if_false]; exact trI225), by rw [va_up_self]; first | (simp only [upd, show ¬ (7 : Nat) = 4 from by decide, if_false]; done) | (simp only [upd, show ¬ (7 : Nat) = 4 from by decide, if_false]; exact trI227), rfl⟩
        have kp0_0_Iz144 : Iz144 p0 0 = I p0 0 := (congrFun (congrFun qIz144 p0) 0).trans ((rz_fr _ _ _ _ (by decide)).trans kp0_0_I22)
        have kp0_1_Iz144 : Iz144 p0 1 = I p0 1 := (congrFun (congrFun qIz144 p0) 1).trans ((rz_fr _ _ _ _ (by decide)).trans kp0_1_I22)
        have fr_Iz144 : ∀ b, ¬ (b = p0) → Iz144 b = I b := fun b q => (congrFun qIz144 b).trans ((va_up_ne _ _ (fun z => q z)).trans (fr_I22 b q))
        refine lv_aload_n hx hb dX3_measure_147 rfl (lv_at hl 0 rfl) ?_
        refine lv_aload_n hx hb dX3_measure_148 rfl (lv_at hl 0 rfl) ?_
        refine p_get hx hb hts inX3 hown hK hP hLp0 hKp0 rfl rfl 3 (by decide) (hts _ pq129) rfl dX3_measure_149 ?_
        refine lv_topi (fun z149 ez149 => ?_)
        obtain rfl : z129 = z149 := by rw [ez149, qIz144, rz_fr _ _ _ _ (by decide)]; exact ez129
        have ez129x149 := ez149
        refine lv_if_ne (tgt := 159) hx hb dX3_measure_152 (by decide) (fun c152 => ?_) (fun c152 => ?_)
        · have t152 := tq_ne (k := z129.toInt) (q := (0)) c152 rfl (by decide +kernel)
          refine lv_lload_n hx hb dX3_measure_159 rfl (lv_at hl 1 rfl) ?_
          refine lv_lload_n hx hb dX3_measure_160 rfl (lv_at hl 2 rfl) ?_
          refine ro_i (va_runS (As := [.long v22_1, .long v22_3]) (rest := [.ref p0]) ⟨hx, hb, hml, hown, hts⟩ (s_X3_highestBit l dC dI cs L K Q H.size Iz144 J v22_1 v22_3) (va_cwS 2 hts (gS pq554 pq555 pq76 pq556) rfl rfl rfl (by decide +kernel) ⟨(by rw [hR]; exact (Nat.le_of_ble_eq_true rfl)), (by rw [hR]; exact (Nat.le_of_ble_eq_true rfl))⟩) (sP_S hP hD hK hN) rfl rfl hl.1 rfl (lv_room (Nat.le_of_ble_eq_true rfl)) dX3_measure_161 ⟨(by rw [hR]; exact (Nat.le_of_ble_eq_true rfl)), (by rw [hR]; exact (Nat.le_of_ble_eq_true rfl))⟩) hS hP (fun z161 H locs hz161 hP hS => ?_)
          obtain ⟨bz161, xpz161⟩ := hz161
          refine p_put hx hb hts inX3 tyX3 tyX3_ok nmX3 hown hK hP hD hS hLp0 hKp0 rfl rfl 6 (by decide) (hts _ pq140) rfl (by decide +kernel) (Nat.le_of_ble_eq_true rfl) (oS_3_6 cs _ _ _ _) dX3_measure_164 (fun H locs hP hS => ?_)
          obtain ⟨Iz164, hP, hIz164, trIz1643, trIz1644, trIz1645, trIz1647, qIz164⟩ : ∃ Iz164, va_P (dC, dI) vwCl (Wd cs L K Iz164 J Q) H ∧ Iw L K x0 m0 tx tm p0 Iz164 ∧ Iz164 p0 3 = I22 p0 3 ∧ Iz164 p0 4 = w144_1 ∧ Iz164 p0 5 = I22 p0 5 ∧ Iz164 p0 7 = I22 p0 7 ∧ Iz164 = va_up Iz144 p0 (upd (Iz144 p0) 6 z161) := ⟨_, hP, Iw_put hIz144 (oV_3_6 (Iw_at hIz144 hLp0 hKp0) ⟨by omega, by omega⟩), by rw [va_up_self]; first | (simp only [upd, show ¬ (3 : Nat) = 6 from by decide, if_false]; done) | (simp only [upd, show ¬ (3 : Nat) = 6 from by decide, if_false]; exact trIz1443), by rw [va_up_self]; first | (simp only [upd, show ¬ (4 : Nat) = 6 from by decide, if_false]; done) | (simp only [upd, show ¬ (4 : Nat) = 6 from by decide, if_false]; exact trIz1444), by rw [va_up_self]; first | (simp only [upd, show ¬ (5 : Nat) = 6 from by decide, if_false]; done) | (simp only [upd, show ¬ (5 : Nat) = 6 from by decide, if_false]; exact trIz1445), by rw [va_up_self]; first | (simp only [upd, show ¬ (7 : Nat) = 6 from by decide, if_false]; done) | (simp only [upd, show ¬ (7 : Nat) = 6 from by decide, if_false]; exact trIz1447), rfl⟩
          have kp0_0_Iz164 : Iz164 p0 0 = I p0 0 := (congrFun (congrFun qIz164 p0) 0).trans ((rz_fr _ _ _ _ (by decide)).trans kp0_0_Iz144)
          have kp0_1_Iz164 : Iz164 p0 1 = I p0 1 := (congrFun (congrFun qIz164 p0) 1).trans ((rz_fr _ _ _ _ (by decide)).trans kp0_1_Iz144)
          have fr_Iz164 : ∀ b, ¬ (b = p0) → Iz164 b = I b := fun b q => (congrFun qIz164 b).trans ((va_up_ne _ _ (fun z => q z)).trans (fr_Iz144 b q))
          subst hR; subst hQz
          exact W.vret hx hb hr (fun t ht hW => ⟨⟨(), rfl, trivial, ⟨Iz164, J, ⟨(Iw_up hIz164 (by rw [trIz1643, trIz1644, trIz1645, trIz1647]; omega)), fr_Iz164, kp0_0_Iz164, kp0_1_Iz164, (fun c => by rw [trIz1643, trIz1644, trIz1645, trIz1647, qIz164, rz_at]; exact mz_end hz (by rw [← kp0_1_I22, ← ez25]; exact t28) (by omega) (by omega) c hlf (fun ne => by first | exact highX xpz161 ne | exact absurd (by rw [← ez129]; exact t152) (mz_ne hz ne))), dj_J⟩, by rw [ht]; exact hP⟩⟩, hS.F ht⟩) hS.2.2 dX3_measure_167
        · have t152 := tq_eq (k := z129.toInt) (q := (0)) c152 rfl (by decide +kernel)
          refine lv_iconst (v := (-1)) hx hb dX3_measure_155 (by decide +kernel) ?_
          refine lv_goto (tgt := 164) hx hb dX3_measure_156 (by decide) ?_
          refine p_put hx hb hts inX3 tyX3 tyX3_ok nmX3 hown hK hP hD hS hLp0 hKp0 rfl rfl 6 (by decide) (hts _ pq140) rfl (by decide +kernel) (Nat.le_of_ble_eq_true rfl) (oS_3_6 cs _ _ _ _) dX3_measure_164 (fun H locs hP hS => ?_)
          obtain ⟨Iz164, hP, hIz164, trIz1643, trIz1644, trIz1645, trIz1647, qIz164⟩ : ∃ Iz164, va_P (dC, dI) vwCl (Wd cs L K Iz164 J Q) H ∧ Iw L K x0 m0 tx tm p0 Iz164 ∧ Iz164 p0 3 = I22 p0 3 ∧ Iz164 p0 4 = w144_1 ∧ Iz164 p0 5 = I22 p0 5 ∧ Iz164 p0 7 = I22 p0 7 ∧ Iz164 = va_up Iz144 p0 (upd (Iz144 p0) 6 ((-1) : Int32)) := ⟨_, hP, Iw_put hIz144 (oV_3_6 (Iw_at hIz144 hLp0 hKp0) ⟨by decide +kernel, by decide +kernel⟩), by rw [va_up_self]; first | (simp only [upd, show ¬ (3 : Nat) = 6 from by decide, if_false]; done) | (simp only [upd, show ¬ (3 : Nat) = 6 from by decide, if_false]; exact trIz1443), by rw [va_up_self]; first | (simp only [upd, show ¬ (4 : Nat) = 6 from by decide, if_false]; done) | (simp only [upd, show ¬ (4 : Nat) = 6 from by decide, if_false]; exact trIz1444), by rw [va_up_self]; first | (simp only [upd, show ¬ (5 : Nat) = 6 from by decide, if_false]; done) | (simp only [upd, show ¬ (5 : Nat) = 6 from by decide, if_false]; exact trIz1445), by rw [va_up_self]; first | (simp only [upd, show ¬ (7 : Nat) = 6 from by decide, if_false]; done) | (simp only [upd, show ¬ (7 : Nat) = 6 from by decide, if_false]; exact trIz1447), rfl⟩
          have kp0_0_Iz164 : Iz164 p0 0 = I p0 0 := (congrFun (congrFun qIz164 p0) 0).trans ((rz_fr _ _ _ _ (by decide)).trans kp0_0_Iz144)
          have kp0_1_Iz164 : Iz164 p0 1 = I p0 1 := (congrFun (congrFun qIz164 p0) 1).trans ((rz_fr _ _ _ _ (by decide)).trans kp0_1_Iz144)
          have fr_Iz164 : ∀ b, ¬ (b = p0) → Iz164 b = I b := fun b q => (congrFun qIz164 b).trans ((va_up_ne _ _ (fun z => q z)).trans (fr_Iz144 b q))
          subst hR; subst hQz
          exact W.vret hx hb hr (fun t ht hW => ⟨⟨(), rfl, trivial, ⟨Iz164, J, ⟨(Iw_up hIz164 (by rw [trIz1643, trIz1644, trIz1645, trIz1647]; omega)), fr_Iz164, kp0_0_Iz164, kp0_1_Iz164, (fun c => by rw [trIz1643, trIz1644, trIz1645, trIz1647, qIz164, rz_at]; exact mz_end hz (by rw [← kp0_1_I22, ← ez25]; exact t28) (by omega) (by omega) c hlf (fun ne => by first | exact highX xpz161 ne | exact absurd (by rw [← ez129]; exact t152) (mz_ne hz ne))), dj_J⟩, by rw [ht]; exact hP⟩⟩, hS.F ht⟩) hS.2.2 dX3_measure_167
      refine lv_if_ne (tgt := 139) hx hb dX3_measure_132 (by decide) (fun c132 => ?_) (fun c132 => ?_)
      · have t132 := tq_ne (k := z129.toInt) (q := (0)) c132 rfl (by decide +kernel)
        refine lv_lload_n hx hb dX3_measure_139 rfl (lv_at hl 1 rfl) ?_
        refine lv_lload_n hx hb dX3_measure_140 rfl (lv_at hl 2 rfl) ?_
        refine ro_i (va_runS (As := [.long v22_1, .long v22_3]) (rest := [.ref p0]) ⟨hx, hb, hml, hown, hts⟩ (s_X3_lowestBit l dC dI cs L K Q H.size I22 J v22_1 v22_3) (va_cwS 2 hts (gS pq551 pq552 pq76 pq553) rfl rfl rfl (by decide +kernel) ⟨(by rw [hR]; exact (Nat.le_of_ble_eq_true rfl)), (by rw [hR]; exact (Nat.le_of_ble_eq_true rfl))⟩) (sP_S hP hD hK hN) rfl rfl hl.1 rfl (lv_room (Nat.le_of_ble_eq_true rfl)) dX3_measure_141 ⟨(by rw [hR]; exact (Nat.le_of_ble_eq_true rfl)), (by rw [hR]; exact (Nat.le_of_ble_eq_true rfl))⟩) hS hP (fun z141 H locs hz141 hP hS => ?_)
        obtain ⟨bz141, xpz141⟩ := hz141
        exact j144 z141 _ _ _ ⟨by omega, by omega⟩ (Or.inr (by omega)) (fun ne => lowX xpz141 ne) hP hS (lv_sub hl [0, 1, 2, 3] rfl)
      · have t132 := tq_eq (k := z129.toInt) (q := (0)) c132 rfl (by decide +kernel)
        refine lv_iconst (v := (-1)) hx hb dX3_measure_135 (by decide +kernel) ?_
        refine lv_goto (tgt := 144) hx hb dX3_measure_136 (by decide) ?_
        exact j144 (-1) _ _ _ ⟨by decide +kernel, by decide +kernel⟩ (Or.inl (by rw [← ez129]; omega)) (fun ne => absurd (by rw [← ez129]; exact t132) (mz_ne hz ne)) hP hS (lv_sub hl [0, 1, 2, 3] rfl)
    · have t28 := tq_nle (k := z25.toInt) (q := v22_5.toInt) c28 rfl rfl
      refine lv_aload_n hx hb dX3_measure_31 rfl (lv_at hl 0 rfl) ?_
      obtain ⟨y32, ey32, hLy32, hKy32, hGy32⟩ := oQ_3_2 (Sv_at hQ hLp0 hKp0)
      refine p_get (v := .ref y32) hx hb hts inX3 hown hK hP hLp0 hKp0 rfl rfl 2 (by decide) (hts _ pq124) (congrArg (fun q => some (va_rf q)) ey32) dX3_measure_32 ?_
      refine lv_iconst (v := 2) hx hb dX3_measure_35 (by decide +kernel) ?_
      refine lv_iload hx hb dX3_measure_36 (lv_at hl 3 rfl) ?_
      refine lv_imul hx hb dX3_measure_38 ?_
      refine lv_topi (fun z38 ez38 => ?_)
      have bz38 := tq_mul (k := (2)) (q := v22_5.toInt) ez38 (by decide +kernel) rfl (by omega) (by omega)
      refine p_lald hx hb hK hP 2 hLy32 hKy32 rfl rfl (in_of (by omega) (by omega)) dX3_measure_39 ?_
      refine lv_topl (fun z39 ez39 => ?_)
      refine lv_lstore (lv' := [(6, .long z39), (0, .ref p0), (1, .long v22_1), (3, .long v22_3), (5, .int v22_5)]) hx hb dX3_measure_40 hl (by decide) rfl (fun ls hl => ?_)
      refine lv_aload_n hx hb dX3_measure_42 rfl (lv_at hl 1 rfl) ?_
      refine p_get (v := .ref y32) hx hb hts inX3 hown hK hP hLp0 hKp0 rfl rfl 2 (by decide) (hts _ pq124) (congrArg (fun q => some (va_rf q)) ey32) dX3_measure_43 ?_
      refine lv_iconst (v := 2) hx hb dX3_measure_46 (by decide +kernel) ?_
      refine lv_iload hx hb dX3_measure_47 (lv_at hl 4 rfl) ?_
      refine lv_imul hx hb dX3_measure_49 ?_
      refine lv_topi (fun z49 ez49 => ?_)
      have bz49 := tq_mul (k := (2)) (q := v22_5.toInt) ez49 (by decide +kernel) rfl (by omega) (by omega)
      refine lv_iconst (v := 1) hx hb dX3_measure_50 (by decide +kernel) ?_
      refine lv_iadd hx hb dX3_measure_51 ?_
      refine lv_topi (fun z51 ez51 => ?_)
      have bz51 := tq_add (k := z49.toInt) (q := (1)) ez51 rfl (by decide +kernel) (by omega) (by omega)
      refine p_lald hx hb hK hP 2 hLy32 hKy32 rfl rfl (in_of (by omega) (by omega)) dX3_measure_52 ?_
      refine lv_topl (fun z52 ez52 => ?_)
      refine lv_lstore (lv' := [(8, .long z52), (6, .long z39), (0, .ref p0), (1, .long v22_1), (3, .long v22_3), (5, .int v22_5)]) hx hb dX3_measure_53 hl (by decide) rfl (fun ls hl => ?_)
      have f39 : z39 = J (wo Q p0) (2 * v22_5.toInt.toNat) := by rw [ez39, wo_of ey32]; congr 1; show z38.toInt.toNat = _; omega
      have f52 : z52 = J (wo Q p0) (2 * v22_5.toInt.toNat + 1) := by rw [ez52, wo_of ey32]; congr 1; show z51.toInt.toNat = _; omega
      refine lv_lload hx hb dX3_measure_55 (lv_at hl 1 rfl) ?_
      refine lv_lload hx hb dX3_measure_57 (lv_at hl 0 rfl) ?_
      refine lv_lor hx hb dX3_measure_59 ?_
      refine lv_topl (fun z59 ez59 => ?_)
      refine lv_lconst (v := 0) hx hb dX3_measure_60 (by decide +kernel) ?_
      refine W.lcmp hx hb dX3_measure_61 ?_
      refine lv_topi (fun z61 ez61 => ?_)
      have j121 : ∀ (v121_1 : Int64) (v121_3 : Int64) (I121 : Nat → Nat → Int32) (H : Heap) (lo : List Loc) (ls : Array Slot), Iw L K x0 m0 tx tm p0 I121 → I121 p0 0 = I p0 0 → I121 p0 1 = I p0 1 → (∀ b, ¬ (b = p0) → I121 b = I b) → ((I121 p0 3).toInt = 0 ∨ (0 ≤ (I121 p0 5).toInt ∧ (I121 p0 5).toInt ≤ (I121 p0 7).toInt)) → (I121 p0 5).toInt ≤ v22_5.toInt → mzI (J (wo Q p0)) (v22_5.toInt + 1) (I121 p0 3).toInt v121_1 v121_3 (I121 p0 5).toInt (I121 p0 7).toInt → va_P (dC, dI) vwCl (Wd cs L K I121 J Q) H → va_S A s.heap H lo → lv_has ls 10 [(0, .ref p0), (1, .long v121_1), (3, .long v121_3), (5, .int v22_5), (6, .long z39), (8, .long z52)] → W p l e R s m (([.ref p0] : List Value).toArray) below meth c H lo 0 0 Qz (F0 m 121 ls []) := by
        intro v121_1 v121_3 I121 H lo ls hI121 kp0_0_I121 kp0_1_I121 fr_I121 hT hV hz2 hP hS hl
        have trI1213 : I121 p0 3 = I121 p0 3 := rfl
        have trI1214 : I121 p0 4 = I121 p0 4 := rfl
        have trI1215 : I121 p0 5 = I121 p0 5 := rfl
        have trI1217 : I121 p0 7 = I121 p0 7 := rfl
        obtain ⟨z121, ez121⟩ : ∃ y : Int32, y = v22_5 + 1 := ⟨_, rfl⟩
        refine lv_iinc (v := z121) (lv' := [(5, .int z121), (0, .ref p0), (1, .long v121_1), (3, .long v121_3), (6, .long z39), (8, .long z52)]) hx hb dX3_measure_121 hl (k := 3) rfl (by rw [ez121]; rfl) (by decide) rfl (fun ls hl => ?_)
        have bz121 := tq_add (k := v22_5.toInt) (q := 1) ez121 rfl (by decide +kernel) (by omega) (by omega)
        refine lv_goto (tgt := 22) hx hb dX3_measure_124 (by decide) ?_
        exact ih22 _ (by omega) v121_1 v121_3 z121 I121 _ _ _ rfl ⟨by omega, by omega⟩ hI121 kp0_0_I121 kp0_1_I121 fr_I121 (by rw [trI1213, trI1215, trI1217]; omega) (by rw [trI1215]; omega) (by rw [bz121]; exact hz2) hP hS (lv_sub hl [1, 2, 3, 0] rfl)
      refine lv_if_eq (tgt := 121) hx hb dX3_measure_62 (by decide) (fun c62 => ?_) (fun c62 => ?_)
      · have t62 := tq_eq (k := z61.toInt) (q := (0)) c62 rfl (by decide +kernel)
        exact j121 v22_1 v22_3 I22 _ _ _ hI22 kp0_0_I22 kp0_1_I22 fr_I22 (by rw [trI223, trI225, trI227]; omega) (by rw [trI225]; omega) (mz_skip hz (by omega) rfl (by show J (wo Q p0) (2 * v22_5.toInt.toNat) = 0 ∧ J (wo Q p0) (2 * v22_5.toInt.toNat + 1) = 0; rw [← f39, ← f52]; exact (or_0 ez59).mp ((lc0 ez61).mp t62))) hP hS (lv_sub hl [2, 3, 4, 5, 1, 0] rfl)
      · have t62 := tq_ne (k := z61.toInt) (q := (0)) c62 rfl (by decide +kernel)
        refine lv_aload_n hx hb dX3_measure_65 rfl (lv_at hl 2 rfl) ?_
        refine lv_dup hx hb dX3_measure_66 rfl ?_
        refine p_get hx hb hts inX3 hown hK hP hLp0 hKp0 rfl rfl 3 (by decide) (hts _ pq129) rfl dX3_measure_67 ?_
        refine lv_topi (fun z67 ez67 => ?_)
        refine lv_lload hx hb dX3_measure_70 (lv_at hl 1 rfl) ?_
        refine ro_i (va_runS (As := [.long z39]) (rest := [.int z67, .ref p0]) ⟨hx, hb, hml, hown, hts⟩ (s_J13_bitCount l dC dI cs L K Q H.size I22 J z39) (va_cwS 1 hts (gS pq545 pq546 pq89 pq547) rfl rfl rfl (by decide +kernel) ⟨(by rw [hR]; exact (Nat.le_of_ble_eq_true rfl)), (by rw [hR]; exact (Nat.le_of_ble_eq_true rfl))⟩) (sP_S hP hD hK hN) rfl rfl hl.1 rfl (lv_room (Nat.le_of_ble_eq_true rfl)) dX3_measure_72 ⟨(by rw [hR]; exact (Nat.le_of_ble_eq_true rfl)), (by rw [hR]; exact (Nat.le_of_ble_eq_true rfl))⟩) hS hP (fun z72 H locs hz72 hP hS => ?_)
        obtain ⟨bz72, xpz72⟩ := hz72
        refine lv_lload hx hb dX3_measure_75 (lv_at hl 0 rfl) ?_
        refine ro_i (va_runS (As := [.long z52]) (rest := [.int z72, .int z67, .ref p0]) ⟨hx, hb, hml, hown, hts⟩ (s_J13_bitCount l dC dI cs L K Q H.size I22 J z52) (va_cwS 1 hts (gS pq545 pq546 pq89 pq547) rfl rfl rfl (by decide +kernel) ⟨(by rw [hR]; exact (Nat.le_of_ble_eq_true rfl)), (by rw [hR]; exact (Nat.le_of_ble_eq_true rfl))⟩) (sP_S hP hD hK hN) rfl rfl hl.1 rfl (lv_room (Nat.le_of_ble_eq_true rfl)) dX3_measure_77 ⟨(by rw [hR]; exact (Nat.le_of_ble_eq_true rfl)), (by rw [hR]; exact (Nat.le_of_ble_eq_true rfl))⟩) hS hP (fun z77 H locs hz77 hP hS => ?_)
        obtain ⟨bz77, xpz77⟩ := hz77
        refine lv_iadd hx hb dX3_measure_80 ?_
        refine lv_topi (fun z80 ez80 => ?_)
        have bz80 := tq_add (k := z72.toInt) (q := z77.toInt) ez80 rfl rfl (by omega) (by omega)
        refine lv_iadd hx hb dX3_measure_81 ?_
        refine lv_topi (fun z81 ez81 => ?_)
        have t67 : z67.toInt = (totr (J (wo Q p0)) v22_5.toInt.toNat : Int) := by rw [ez67]; exact hz.1
        have l67 := totr_le (J (wo Q p0)) v22_5.toInt.toNat
        have b81 := tq_add (k := z67.toInt) (q := z80.toInt) ez81 rfl rfl (by omega) (by omega)
        refine p_put hx hb hts inX3 tyX3 tyX3_ok nmX3 hown hK hP hD hS hLp0 hKp0 rfl rfl 3 (by decide) (hts _ pq129) rfl (by decide +kernel) (Nat.le_of_ble_eq_true rfl) (oS_3_3 cs _ _ _ _) dX3_measure_82 (fun H locs hP hS => ?_)
        obtain ⟨Iz82, hP, hIz82, trIz823, trIz824, trIz825, trIz827, qIz82⟩ : ∃ Iz82, va_P (dC, dI) vwCl (Wd cs L K Iz82 J Q) H ∧ Iw L K x0 m0 tx tm p0 Iz82 ∧ Iz82 p0 3 = z81 ∧ Iz82 p0 4 = I22 p0 4 ∧ Iz82 p0 5 = I22 p0 5 ∧ Iz82 p0 7 = I22 p0 7 ∧ Iz82 = va_up I22 p0 (upd (I22 p0) 3 z81) := ⟨_, hP, Iw_put hI22 (oV_3_3 (Iw_at hI22 hLp0 hKp0)), by rw [va_up_self]; simp only [upd, if_true], by rw [va_up_self]; first | (simp only [upd, show ¬ (4 : Nat) = 3 from by decide, if_false]; done) | (simp only [upd, show ¬ (4 : Nat) = 3 from by decide, if_false]; exact trI224), by rw [va_up_self]; first | (simp only [upd, show ¬ (5 : Nat) = 3 from by decide, if_false]; done) | (simp only [upd, show ¬ (5 : Nat) = 3 from by decide, if_false]; exact trI225), by rw [va_up_self]; first | (simp only [upd, show ¬ (7 : Nat) = 3 from by decide, if_false]; done) | (simp only [upd, show ¬ (7 : Nat) = 3 from by decide, if_false]; exact trI227), rfl⟩
        have kp0_0_Iz82 : Iz82 p0 0 = I p0 0 := (congrFun (congrFun qIz82 p0) 0).trans ((rz_fr _ _ _ _ (by decide)).trans kp0_0_I22)
        have kp0_1_Iz82 : Iz82 p0 1 = I p0 1 := (congrFun (congrFun qIz82 p0) 1).trans ((rz_fr _ _ _ _ (by decide)).trans kp0_1_I22)
        have fr_Iz82 : ∀ b, ¬ (b = p0) → Iz82 b = I b := fun b q => (congrFun qIz82 b).trans ((va_up_ne _ _ (fun z => q z)).trans (fr_I22 b q))
        refine lv_lload_n hx hb dX3_measure_85 rfl (lv_at hl 3 rfl) ?_
        refine lv_lload hx hb dX3_measure_86 (lv_at hl 1 rfl) ?_
        refine lv_lor hx hb dX3_measure_88 ?_
        refine lv_topl (fun z88 ez88 => ?_)
        refine lv_lstore_n (lv' := [(1, .long z88), (8, .long z52), (6, .long z39), (0, .ref p0), (3, .long v22_3), (5, .int v22_5)]) hx hb dX3_measure_89 rfl hl (by decide) rfl (fun ls hl => ?_)
        refine lv_lload_n hx hb dX3_measure_90 rfl (lv_at hl 4 rfl) ?_
        refine lv_lload hx hb dX3_measure_91 (lv_at hl 1 rfl) ?_
        refine lv_lor hx hb dX3_measure_93 ?_
        refine lv_topl (fun z93 ez93 => ?_)
        refine lv_lstore_n (lv' := [(3, .long z93), (1, .long z88), (8, .long z52), (6, .long z39), (0, .ref p0), (5, .int v22_5)]) hx hb dX3_measure_94 rfl hl (by decide) rfl (fun ls hl => ?_)
        refine lv_aload_n hx hb dX3_measure_95 rfl (lv_at hl 4 rfl) ?_
        refine lv_aload_n hx hb dX3_measure_96 rfl (lv_at hl 4 rfl) ?_
        refine p_get hx hb hts inX3 hown hK hP hLp0 hKp0 rfl rfl 5 (by decide) (hts _ pq137) rfl dX3_measure_97 ?_
        refine lv_topi (fun z97 ez97 => ?_)
        have bz97 := oW_3_5 (Iw_at hIz82 hLp0 hKp0)
        rw [← ez97] at bz97
        have t5 : z97 = I22 p0 5 := by rw [ez97, trIz825]
        have j112 : ∀ (w112_1 : Int32) (H : Heap) (lo : List Loc) (ls : Array Slot), ((0) ≤ w112_1.toInt ∧ w112_1.toInt ≤ 39) → w112_1.toInt ≤ v22_5.toInt → (w112_1.toInt = if (I22 p0 5).toInt < 0 then v22_5.toInt else (I22 p0 5).toInt) → va_P (dC, dI) vwCl (Wd cs L K Iz82 J Q) H → va_S A s.heap H lo → lv_has ls 10 [(0, .ref p0), (1, .long z88), (3, .long z93), (5, .int v22_5), (6, .long z39), (8, .long z52)] → W p l e R s m (([.ref p0] : List Value).toArray) below meth c H lo 0 0 Qz (F0 m 112 ls [.int w112_1, .ref p0]) := by
          intro w112_1 H lo ls bw112_1 hW hw2 hP hS hl
          refine p_put hx hb hts inX3 tyX3 tyX3_ok nmX3 hown hK hP hD hS hLp0 hKp0 rfl rfl 5 (by decide) (hts _ pq137) rfl (by decide +kernel) (Nat.le_of_ble_eq_true rfl) (oS_3_5 cs _ _ _ _) dX3_measure_112 (fun H locs hP hS => ?_)
          obtain ⟨Iz112, hP, hIz112, trIz1123, trIz1124, trIz1125, trIz1127, qIz112⟩ : ∃ Iz112, va_P (dC, dI) vwCl (Wd cs L K Iz112 J Q) H ∧ Iw L K x0 m0 tx tm p0 Iz112 ∧ Iz112 p0 3 = z81 ∧ Iz112 p0 4 = I22 p0 4 ∧ Iz112 p0 5 = w112_1 ∧ Iz112 p0 7 = I22 p0 7 ∧ Iz112 = va_up Iz82 p0 (upd (Iz82 p0) 5 w112_1) := ⟨_, hP, Iw_put hIz82 (oV_3_5 (Iw_at hIz82 hLp0 hKp0) ⟨by omega, by omega⟩), by rw [va_up_self]; first | (simp only [upd, show ¬ (3 : Nat) = 5 from by decide, if_false]; done) | (simp only [upd, show ¬ (3 : Nat) = 5 from by decide, if_false]; exact trIz823), by rw [va_up_self]; first | (simp only [upd, show ¬ (4 : Nat) = 5 from by decide, if_false]; done) | (simp only [upd, show ¬ (4 : Nat) = 5 from by decide, if_false]; exact trIz824), by rw [va_up_self]; simp only [upd, if_true], by rw [va_up_self]; first | (simp only [upd, show ¬ (7 : Nat) = 5 from by decide, if_false]; done) | (simp only [upd, show ¬ (7 : Nat) = 5 from by decide, if_false]; exact trIz827), rfl⟩
          have kp0_0_Iz112 : Iz112 p0 0 = I p0 0 := (congrFun (congrFun qIz112 p0) 0).trans ((rz_fr _ _ _ _ (by decide)).trans kp0_0_Iz82)
          have kp0_1_Iz112 : Iz112 p0 1 = I p0 1 := (congrFun (congrFun qIz112 p0) 1).trans ((rz_fr _ _ _ _ (by decide)).trans kp0_1_Iz82)
          have fr_Iz112 : ∀ b, ¬ (b = p0) → Iz112 b = I b := fun b q => (congrFun qIz112 b).trans ((va_up_ne _ _ (fun z => q z)).trans (fr_Iz82 b q))
          refine lv_aload_n hx hb dX3_measure_115 rfl (lv_at hl 0 rfl) ?_
          refine lv_iload hx hb dX3_measure_116 (lv_at hl 3 rfl) ?_
          refine p_put hx hb hts inX3 tyX3 tyX3_ok nmX3 hown hK hP hD hS hLp0 hKp0 rfl rfl 7 (by decide) (hts _ pq143) rfl (by decide +kernel) (Nat.le_of_ble_eq_true rfl) (oS_3_7 cs _ _ _ _) dX3_measure_118 (fun H locs hP hS => ?_)
          obtain ⟨Iz118, hP, hIz118, trIz1183, trIz1184, trIz1185, trIz1187, qIz118⟩ : ∃ Iz118, va_P (dC, dI) vwCl (Wd cs L K Iz118 J Q) H ∧ Iw L K x0 m0 tx tm p0 Iz118 ∧ Iz118 p0 3 = z81 ∧ Iz118 p0 4 = I22 p0 4 ∧ Iz118 p0 5 = w112_1 ∧ Iz118 p0 7 = v22_5 ∧ Iz118 = va_up Iz112 p0 (upd (Iz112 p0) 7 v22_5) := ⟨_, hP, Iw_put hIz112 (oV_3_7 (Iw_at hIz112 hLp0 hKp0) ⟨by omega, by omega⟩), by rw [va_up_self]; first | (simp only [upd, show ¬ (3 : Nat) = 7 from by decide, if_false]; done) | (simp only [upd, show ¬ (3 : Nat) = 7 from by decide, if_false]; exact trIz1123), by rw [va_up_self]; first | (simp only [upd, show ¬ (4 : Nat) = 7 from by decide, if_false]; done) | (simp only [upd, show ¬ (4 : Nat) = 7 from by decide, if_false]; exact trIz1124), by rw [va_up_self]; first | (simp only [upd, show ¬ (5 : Nat) = 7 from by decide, if_false]; done) | (simp only [upd, show ¬ (5 : Nat) = 7 from by decide, if_false]; exact trIz1125), by rw [va_up_self]; simp only [upd, if_true], rfl⟩
          have kp0_0_Iz118 : Iz118 p0 0 = I p0 0 := (congrFun (congrFun qIz118 p0) 0).trans ((rz_fr _ _ _ _ (by decide)).trans kp0_0_Iz112)
          have kp0_1_Iz118 : Iz118 p0 1 = I p0 1 := (congrFun (congrFun qIz118 p0) 1).trans ((rz_fr _ _ _ _ (by decide)).trans kp0_1_Iz112)
          have fr_Iz118 : ∀ b, ¬ (b = p0) → Iz118 b = I b := fun b q => (congrFun qIz118 b).trans ((va_up_ne _ _ (fun z => q z)).trans (fr_Iz112 b q))
          exact j121 z88 z93 Iz118 _ _ _ hIz118 kp0_0_Iz118 kp0_1_Iz118 fr_Iz118 (by rw [trIz1183, trIz1185, trIz1187]; omega) (by rw [trIz1185]; omega) (mz_add hz (by omega) rfl (fun e => t62 ((lc0 ez61).mpr ((or_0 ez59).mpr (by rw [f39, f52]; exact e)))) (by rw [trIz1183, b81, bz80, xpz72, xpz77, ← f39, ← f52, ← ez67]; rfl) (by rw [← f39]; exact ez88) (by rw [← f52]; exact ez93) (by rw [trIz1185]; exact hw2) (by rw [trIz1187])) hP hS (lv_sub hl [0, 1, 2, 3, 4, 5] rfl)
        refine lv_if_ge (tgt := 108) hx hb dX3_measure_100 (by decide) (fun c100 => ?_) (fun c100 => ?_)
        · have t100 := tq_le (k := (0)) (q := z97.toInt) c100 (by decide +kernel) rfl
          refine lv_aload_n hx hb dX3_measure_108 rfl (lv_at hl 4 rfl) ?_
          refine p_get hx hb hts inX3 hown hK hP hLp0 hKp0 rfl rfl 5 (by decide) (hts _ pq137) rfl dX3_measure_109 ?_
          refine lv_topi (fun z109 ez109 => ?_)
          obtain rfl : z97 = z109 := ez97.trans ez109.symm
          exact j112 z97 _ _ _ ⟨by omega, by omega⟩ (by rw [ez97, trIz825]; omega) (by rw [← t5, if_neg (by omega)]) hP hS (lv_sub hl [4, 1, 0, 5, 3, 2] rfl)
        · have t100 := tq_nle (k := (0)) (q := z97.toInt) c100 (by decide +kernel) rfl
          refine lv_iload hx hb dX3_measure_103 (lv_at hl 5 rfl) ?_
          refine lv_goto (tgt := 112) hx hb dX3_measure_105 (by decide) ?_
          exact j112 v22_5 _ _ _ ⟨by omega, by omega⟩ (by omega) (by rw [← t5, if_pos t100]) hP hS (lv_sub hl [4, 1, 0, 5, 3, 2] rfl))
  exact key22 _ 0 0 0 Iz16 _ _ _ rfl ⟨by decide +kernel, by decide +kernel⟩ hIz16 kp0_0_Iz16 kp0_1_Iz16 fr_Iz16 (Or.inl (by rw [trIz163]; decide +kernel)) (by rw [trIz165]; decide +kernel) (by rw [trIz163, trIz165]; exact mz_0) hP hS (lv_sub hl [3, 2, 1, 0] rfl)

set_option maxHeartbeats 4000000 in
set_option maxRecDepth 100000 in
theorem s_X3_become (l : Launch) (dC : Nat → ClassId) (dI : Nat → Nat → Nat) (cs : Nat → ClassId) (L : List Nat) (K G : Nat → Nat) (Q : Nat → Nat → Option Nat) (hQ : Sv L K G Q) (x0 m0 : Nat) (tx : GT) (tm : GT × Int) (sz : Nat) (I : Nat → Nat → Int32) (J : Nat → Nat → Int64) (hI : Iv L K x0 m0 tx tm I) (p0 : Nat) (hLp0 : p0 ∈ L) (hKp0 : K p0 = 3) (p1 : Nat) (hLp1 : p1 ∈ L) (hKp1 : K p1 = 3) : Met l yX3_become (.code yX3_become cX3_become 2 none :: pw) ({ frames := 1, cells := 0, slots := 0, locals := 60 }) (sP (dC, dI) cs [.ref p0, .ref p1] sz L K I J Q) (va_Qv (fun (_ : Unit) => True) (fun _ t => sB (dC, dI) cs L K Q (fun I1 J1 => Iv L K x0 m0 tx tm I1 ∧ (∀ b, ¬ (b = p0) → I1 b = I b) ∧ (¬ p1 = p0 → ∀ k, k < 8 → ¬ k = 2 → I1 p0 k = I p1 k) ∧ (∀ k, k < 80 → J1 (wo Q p0) k = J (wo Q p1) k) ∧ (∀ b, ¬ (K b = 12 ∧ (G b = G p0)) → J1 b = J b)) t) (fun q => q ∈ L ∨ sz ≤ q)) 0 0 (fun q => q ∈ L ∨ sz ≤ q) := by
  refine Met.ofW (cc := cX3_become) (maxL := 2) (ret := none) (by decide +kernel) rfl ?_
  intro p e s m args below meth c s₁ B hml hv
  obtain ⟨rfl, hsz, hP, hK, hD0, hN⟩ := hv
  have hx := B.exec
  have hb := B.bytes
  have hr := B.returns
  have hts := fun w (h : w ∈ pw) => atoms_spec (ws := Cond.code yX3_become cX3_become 2 none :: pw) B.pre w (List.mem_cons_of_mem _ h)
  have hown : s.vm.findClass RX3 = some m.cls := findClass_of_methodNamed B.named
  have hlocks := B.notSynchronized
  subst hsz
  have hBB : 999 ≤ tm.2 ∧ tm.2 ≤ 6000000 := hI.2.2.2.2.1
  have hI0 := hI
  have hI := Iw_of hLp0 hKp0 hI
  have frI : ∀ b, ¬ b = p0 → I b = I b := fun _ _ => rfl
  have trI3 : I p0 3 = I p0 3 := rfl
  have trI4 : I p0 4 = I p0 4 := rfl
  have trI5 : I p0 5 = I p0 5 := rfl
  have trI7 : I p0 7 = I p0 7 := rfl
  have dj_J : (∀ b, ¬ (K b = 12 ∧ (G b = G p0)) → J b = J b) := fun _ _ => rfl
  have fr_I : ∀ b, ¬ (b = p0) → I b = I b := fun _ _ => rfl
  obtain ⟨A, hAe⟩ : ∃ A : Nat → Prop, A = (fun q => q ∈ L ∨ s.heap.size ≤ q) := ⟨_, rfl⟩
  rw [← hAe]
  have hAL : ∀ q, q ∈ L → A q := fun q h => by rw [hAe]; exact Or.inl h
  have hA : ∀ q, s.heap.size ≤ q → A q := fun q h => by rw [hAe]; exact Or.inr h
  have hD : ∀ F, va_D A (va_pl L F) := fun F => (hD0 F).weaken (fun k q hk _ => hAL _ (pl_mem hk))
  obtain ⟨H, hHe⟩ : ∃ H : Heap, H = s.heap := ⟨_, rfl⟩
  have hS : va_S A s.heap H [] := by rw [hHe]; exact va_S.rf
  rw [← hHe] at hP
  have hl := lv_entry ([.ref p0, .ref p1]) (n := 2) (Nat.le_of_ble_eq_true rfl)
  rw [lg_entry_eq]
  generalize (lg_sl ([.ref p0, .ref p1]) ++ List.replicate (2 - (lg_sl ([.ref p0, .ref p1])).length) Slot.unset).toArray = ls at hl ⊢
  have hl : lv_has ls 2 [(0, .ref p0), (1, .ref p1)] := hl
  rw [← hHe]
  refine namedW (fun R Qz hR hQz => ?_)
  refine lv_aload_n hx hb dX3_become_0 rfl (lv_at hl 0 rfl) ?_
  refine lv_aload_n hx hb dX3_become_1 rfl (lv_at hl 1 rfl) ?_
  refine p_get hx hb hts inX3 hown hK hP hLp1 hKp1 rfl rfl 0 (by decide) (hts _ pq116) rfl dX3_become_2 ?_
  refine lv_topi (fun z2 ez2 => ?_)
  have bz2 := oW_3_0 (Iw_at hI hLp1 hKp1)
  rw [← ez2] at bz2
  refine p_put hx hb hts inX3 tyX3 tyX3_ok nmX3 hown hK hP hD hS hLp0 hKp0 rfl rfl 0 (by decide) (hts _ pq116) rfl (by decide +kernel) (Nat.le_of_ble_eq_true rfl) (oS_3_0 cs _ _ _ _) dX3_become_5 (fun H locs hP hS => ?_)
  obtain ⟨Iz5, hP, hIz5, trIz53, trIz54, trIz55, trIz57, frIz5, qIz5⟩ : ∃ Iz5, va_P (dC, dI) vwCl (Wd cs L K Iz5 J Q) H ∧ Iw L K x0 m0 tx tm p0 Iz5 ∧ Iz5 p0 3 = I p0 3 ∧ Iz5 p0 4 = I p0 4 ∧ Iz5 p0 5 = I p0 5 ∧ Iz5 p0 7 = I p0 7 ∧ (∀ b, ¬ b = p0 → Iz5 b = I b) ∧ Iz5 = va_up I p0 (upd (I p0) 0 z2) := ⟨_, hP, Iw_put hI (oV_3_0 (Iw_at hI hLp0 hKp0) ⟨by omega, by omega⟩), by rw [va_up_self]; first | (simp only [upd, show ¬ (3 : Nat) = 0 from by decide, if_false]; done) | (simp only [upd, show ¬ (3 : Nat) = 0 from by decide, if_false]; exact trI3), by rw [va_up_self]; first | (simp only [upd, show ¬ (4 : Nat) = 0 from by decide, if_false]; done) | (simp only [upd, show ¬ (4 : Nat) = 0 from by decide, if_false]; exact trI4), by rw [va_up_self]; first | (simp only [upd, show ¬ (5 : Nat) = 0 from by decide, if_false]; done) | (simp only [upd, show ¬ (5 : Nat) = 0 from by decide, if_false]; exact trI5), by rw [va_up_self]; first | (simp only [upd, show ¬ (7 : Nat) = 0 from by decide, if_false]; done) | (simp only [upd, show ¬ (7 : Nat) = 0 from by decide, if_false]; exact trI7), fun b q => (va_up_ne _ _ q).trans (frI b q), rfl⟩
  have fr_Iz5 : ∀ b, ¬ (b = p0) → Iz5 b = I b := fun b q => (congrFun qIz5 b).trans ((va_up_ne _ _ (fun z => q z)).trans (fr_I b q))
  refine lv_aload_n hx hb dX3_become_8 rfl (lv_at hl 0 rfl) ?_
  refine lv_aload_n hx hb dX3_become_9 rfl (lv_at hl 1 rfl) ?_
  refine p_get hx hb hts inX3 hown hK hP hLp1 hKp1 rfl rfl 1 (by decide) (hts _ pq120) rfl dX3_become_10 ?_
  refine lv_topi (fun z10 ez10 => ?_)
  have bz10 := oW_3_1 (Iw_at hIz5 hLp1 hKp1)
  rw [← ez10] at bz10
  refine p_put hx hb hts inX3 tyX3 tyX3_ok nmX3 hown hK hP hD hS hLp0 hKp0 rfl rfl 1 (by decide) (hts _ pq120) rfl (by decide +kernel) (Nat.le_of_ble_eq_true rfl) (oS_3_1 cs _ _ _ _) dX3_become_13 (fun H locs hP hS => ?_)
  obtain ⟨Iz13, hP, hIz13, trIz133, trIz134, trIz135, trIz137, frIz13, qIz13⟩ : ∃ Iz13, va_P (dC, dI) vwCl (Wd cs L K Iz13 J Q) H ∧ Iw L K x0 m0 tx tm p0 Iz13 ∧ Iz13 p0 3 = I p0 3 ∧ Iz13 p0 4 = I p0 4 ∧ Iz13 p0 5 = I p0 5 ∧ Iz13 p0 7 = I p0 7 ∧ (∀ b, ¬ b = p0 → Iz13 b = I b) ∧ Iz13 = va_up Iz5 p0 (upd (Iz5 p0) 1 z10) := ⟨_, hP, Iw_put hIz5 (oV_3_1 (Iw_at hIz5 hLp0 hKp0) ⟨by omega, by omega⟩), by rw [va_up_self]; first | (simp only [upd, show ¬ (3 : Nat) = 1 from by decide, if_false]; done) | (simp only [upd, show ¬ (3 : Nat) = 1 from by decide, if_false]; exact trIz53), by rw [va_up_self]; first | (simp only [upd, show ¬ (4 : Nat) = 1 from by decide, if_false]; done) | (simp only [upd, show ¬ (4 : Nat) = 1 from by decide, if_false]; exact trIz54), by rw [va_up_self]; first | (simp only [upd, show ¬ (5 : Nat) = 1 from by decide, if_false]; done) | (simp only [upd, show ¬ (5 : Nat) = 1 from by decide, if_false]; exact trIz55), by rw [va_up_self]; first | (simp only [upd, show ¬ (7 : Nat) = 1 from by decide, if_false]; done) | (simp only [upd, show ¬ (7 : Nat) = 1 from by decide, if_false]; exact trIz57), fun b q => (va_up_ne _ _ q).trans (frIz5 b q), rfl⟩
  have fr_Iz13 : ∀ b, ¬ (b = p0) → Iz13 b = I b := fun b q => (congrFun qIz13 b).trans ((va_up_ne _ _ (fun z => q z)).trans (fr_Iz5 b q))
  refine lv_aload_n hx hb dX3_become_16 rfl (lv_at hl 0 rfl) ?_
  refine lv_aload_n hx hb dX3_become_17 rfl (lv_at hl 1 rfl) ?_
  refine p_get hx hb hts inX3 hown hK hP hLp1 hKp1 rfl rfl 3 (by decide) (hts _ pq129) rfl dX3_become_18 ?_
  refine lv_topi (fun z18 ez18 => ?_)
  refine p_put hx hb hts inX3 tyX3 tyX3_ok nmX3 hown hK hP hD hS hLp0 hKp0 rfl rfl 3 (by decide) (hts _ pq129) rfl (by decide +kernel) (Nat.le_of_ble_eq_true rfl) (oS_3_3 cs _ _ _ _) dX3_become_21 (fun H locs hP hS => ?_)
  obtain ⟨Iz21, hP, hIz21, trIz213, trIz214, trIz215, trIz217, frIz21, qIz21⟩ : ∃ Iz21, va_P (dC, dI) vwCl (Wd cs L K Iz21 J Q) H ∧ Iw L K x0 m0 tx tm p0 Iz21 ∧ Iz21 p0 3 = z18 ∧ Iz21 p0 4 = I p0 4 ∧ Iz21 p0 5 = I p0 5 ∧ Iz21 p0 7 = I p0 7 ∧ (∀ b, ¬ b = p0 → Iz21 b = I b) ∧ Iz21 = va_up Iz13 p0 (upd (Iz13 p0) 3 z18) := ⟨_, hP, Iw_put hIz13 (oV_3_3 (Iw_at hIz13 hLp0 hKp0)), by rw [va_up_self]; simp only [upd, if_true], by rw [va_up_self]; first | (simp only [upd, show ¬ (4 : Nat) = 3 from by decide, if_false]; done) | (simp only [upd, show ¬ (4 : Nat) = 3 from by decide, if_false]; exact trIz134), by rw [va_up_self]; first | (simp only [upd, show ¬ (5 : Nat) = 3 from by decide, if_false]; done) | (simp only [upd, show ¬ (5 : Nat) = 3 from by decide, if_false]; exact trIz135), by rw [va_up_self]; first | (simp only [upd, show ¬ (7 : Nat) = 3 from by decide, if_false]; done) | (simp only [upd, show ¬ (7 : Nat) = 3 from by decide, if_false]; exact trIz137), fun b q => (va_up_ne _ _ q).trans (frIz13 b q), rfl⟩
  have fr_Iz21 : ∀ b, ¬ (b = p0) → Iz21 b = I b := fun b q => (congrFun qIz21 b).trans ((va_up_ne _ _ (fun z => q z)).trans (fr_Iz13 b q))
  refine lv_aload_n hx hb dX3_become_24 rfl (lv_at hl 0 rfl) ?_
  refine lv_aload_n hx hb dX3_become_25 rfl (lv_at hl 1 rfl) ?_
  refine p_get hx hb hts inX3 hown hK hP hLp1 hKp1 rfl rfl 4 (by decide) (hts _ pq134) rfl dX3_become_26 ?_
  refine lv_topi (fun z26 ez26 => ?_)
  have bz26 := oW_3_4 (Iw_at hIz21 hLp1 hKp1)
  rw [← ez26] at bz26
  refine p_put hx hb hts inX3 tyX3 tyX3_ok nmX3 hown hK hP hD hS hLp0 hKp0 rfl rfl 4 (by decide) (hts _ pq134) rfl (by decide +kernel) (Nat.le_of_ble_eq_true rfl) (oS_3_4 cs _ _ _ _) dX3_become_29 (fun H locs hP hS => ?_)
  obtain ⟨Iz29, hP, hIz29, trIz293, trIz294, trIz295, trIz297, frIz29, qIz29⟩ : ∃ Iz29, va_P (dC, dI) vwCl (Wd cs L K Iz29 J Q) H ∧ Iw L K x0 m0 tx tm p0 Iz29 ∧ Iz29 p0 3 = z18 ∧ Iz29 p0 4 = z26 ∧ Iz29 p0 5 = I p0 5 ∧ Iz29 p0 7 = I p0 7 ∧ (∀ b, ¬ b = p0 → Iz29 b = I b) ∧ Iz29 = va_up Iz21 p0 (upd (Iz21 p0) 4 z26) := ⟨_, hP, Iw_put hIz21 (oV_3_4 (Iw_at hIz21 hLp0 hKp0) ⟨by omega, by omega⟩), by rw [va_up_self]; first | (simp only [upd, show ¬ (3 : Nat) = 4 from by decide, if_false]; done) | (simp only [upd, show ¬ (3 : Nat) = 4 from by decide, if_false]; exact trIz213), by rw [va_up_self]; simp only [upd, if_true], by rw [va_up_self]; first | (simp only [upd, show ¬ (5 : Nat) = 4 from by decide, if_false]; done) | (simp only [upd, show ¬ (5 : Nat) = 4 from by decide, if_false]; exact trIz215), by rw [va_up_self]; first | (simp only [upd, show ¬ (7 : Nat) = 4 from by decide, if_false]; done) | (simp only [upd, show ¬ (7 : Nat) = 4 from by decide, if_false]; exact trIz217), fun b q => (va_up_ne _ _ q).trans (frIz21 b q), rfl⟩
  have fr_Iz29 : ∀ b, ¬ (b = p0) → Iz29 b = I b := fun b q => (congrFun qIz29 b).trans ((va_up_ne _ _ (fun z => q z)).trans (fr_Iz21 b q))
  refine lv_aload_n hx hb dX3_become_32 rfl (lv_at hl 0 rfl) ?_
  refine lv_aload_n hx hb dX3_become_33 rfl (lv_at hl 1 rfl) ?_
  refine p_get hx hb hts inX3 hown hK hP hLp1 hKp1 rfl rfl 5 (by decide) (hts _ pq137) rfl dX3_become_34 ?_
  refine lv_topi (fun z34 ez34 => ?_)
  have bz34 := oW_3_5 (Iw_at hIz29 hLp1 hKp1)
  rw [← ez34] at bz34
  refine p_put hx hb hts inX3 tyX3 tyX3_ok nmX3 hown hK hP hD hS hLp0 hKp0 rfl rfl 5 (by decide) (hts _ pq137) rfl (by decide +kernel) (Nat.le_of_ble_eq_true rfl) (oS_3_5 cs _ _ _ _) dX3_become_37 (fun H locs hP hS => ?_)
  obtain ⟨Iz37, hP, hIz37, trIz373, trIz374, trIz375, trIz377, frIz37, qIz37⟩ : ∃ Iz37, va_P (dC, dI) vwCl (Wd cs L K Iz37 J Q) H ∧ Iw L K x0 m0 tx tm p0 Iz37 ∧ Iz37 p0 3 = z18 ∧ Iz37 p0 4 = z26 ∧ Iz37 p0 5 = z34 ∧ Iz37 p0 7 = I p0 7 ∧ (∀ b, ¬ b = p0 → Iz37 b = I b) ∧ Iz37 = va_up Iz29 p0 (upd (Iz29 p0) 5 z34) := ⟨_, hP, Iw_put hIz29 (oV_3_5 (Iw_at hIz29 hLp0 hKp0) ⟨by omega, by omega⟩), by rw [va_up_self]; first | (simp only [upd, show ¬ (3 : Nat) = 5 from by decide, if_false]; done) | (simp only [upd, show ¬ (3 : Nat) = 5 from by decide, if_false]; exact trIz293), by rw [va_up_self]; first | (simp only [upd, show ¬ (4 : Nat) = 5 from by decide, if_false]; done) | (simp only [upd, show ¬ (4 : Nat) = 5 from by decide, if_false]; exact trIz294), by rw [va_up_self]; simp only [upd, if_true], by rw [va_up_self]; first | (simp only [upd, show ¬ (7 : Nat) = 5 from by decide, if_false]; done) | (simp only [upd, show ¬ (7 : Nat) = 5 from by decide, if_false]; exact trIz297), fun b q => (va_up_ne _ _ q).trans (frIz29 b q), rfl⟩
  have fr_Iz37 : ∀ b, ¬ (b = p0) → Iz37 b = I b := fun b q => (congrFun qIz37 b).trans ((va_up_ne _ _ (fun z => q z)).trans (fr_Iz29 b q))
  refine lv_aload_n hx hb dX3_become_40 rfl (lv_at hl 0 rfl) ?_
  refine lv_aload_n hx hb dX3_become_41 rfl (lv_at hl 1 rfl) ?_
  refine p_get hx hb hts inX3 hown hK hP hLp1 hKp1 rfl rfl 6 (by decide) (hts _ pq140) rfl dX3_become_42 ?_
  refine lv_topi (fun z42 ez42 => ?_)
  have bz42 := oW_3_6 (Iw_at hIz37 hLp1 hKp1)
  rw [← ez42] at bz42
  refine p_put hx hb hts inX3 tyX3 tyX3_ok nmX3 hown hK hP hD hS hLp0 hKp0 rfl rfl 6 (by decide) (hts _ pq140) rfl (by decide +kernel) (Nat.le_of_ble_eq_true rfl) (oS_3_6 cs _ _ _ _) dX3_become_45 (fun H locs hP hS => ?_)
  obtain ⟨Iz45, hP, hIz45, trIz453, trIz454, trIz455, trIz457, frIz45, qIz45⟩ : ∃ Iz45, va_P (dC, dI) vwCl (Wd cs L K Iz45 J Q) H ∧ Iw L K x0 m0 tx tm p0 Iz45 ∧ Iz45 p0 3 = z18 ∧ Iz45 p0 4 = z26 ∧ Iz45 p0 5 = z34 ∧ Iz45 p0 7 = I p0 7 ∧ (∀ b, ¬ b = p0 → Iz45 b = I b) ∧ Iz45 = va_up Iz37 p0 (upd (Iz37 p0) 6 z42) := ⟨_, hP, Iw_put hIz37 (oV_3_6 (Iw_at hIz37 hLp0 hKp0) ⟨by omega, by omega⟩), by rw [va_up_self]; first | (simp only [upd, show ¬ (3 : Nat) = 6 from by decide, if_false]; done) | (simp only [upd, show ¬ (3 : Nat) = 6 from by decide, if_false]; exact trIz373), by rw [va_up_self]; first | (simp only [upd, show ¬ (4 : Nat) = 6 from by decide, if_false]; done) | (simp only [upd, show ¬ (4 : Nat) = 6 from by decide, if_false]; exact trIz374), by rw [va_up_self]; first | (simp only [upd, show ¬ (5 : Nat) = 6 from by decide, if_false]; done) | (simp only [upd, show ¬ (5 : Nat) = 6 from by decide, if_false]; exact trIz375), by rw [va_up_self]; first | (simp only [upd, show ¬ (7 : Nat) = 6 from by decide, if_false]; done) | (simp only [upd, show ¬ (7 : Nat) = 6 from by decide, if_false]; exact trIz377), fun b q => (va_up_ne _ _ q).trans (frIz37 b q), rfl⟩
  have fr_Iz45 : ∀ b, ¬ (b = p0) → Iz45 b = I b := fun b q => (congrFun qIz45 b).trans ((va_up_ne _ _ (fun z => q z)).trans (fr_Iz37 b q))
  refine lv_aload_n hx hb dX3_become_48 rfl (lv_at hl 0 rfl) ?_
  refine lv_aload_n hx hb dX3_become_49 rfl (lv_at hl 1 rfl) ?_
  refine p_get hx hb hts inX3 hown hK hP hLp1 hKp1 rfl rfl 7 (by decide) (hts _ pq143) rfl dX3_become_50 ?_
  refine lv_topi (fun z50 ez50 => ?_)
  have bz50 := oW_3_7 (Iw_at hIz45 hLp1 hKp1)
  rw [← ez50] at bz50
  refine p_put hx hb hts inX3 tyX3 tyX3_ok nmX3 hown hK hP hD hS hLp0 hKp0 rfl rfl 7 (by decide) (hts _ pq143) rfl (by decide +kernel) (Nat.le_of_ble_eq_true rfl) (oS_3_7 cs _ _ _ _) dX3_become_53 (fun H locs hP hS => ?_)
  obtain ⟨Iz53, hP, hIz53, trIz533, trIz534, trIz535, trIz537, frIz53, qIz53⟩ : ∃ Iz53, va_P (dC, dI) vwCl (Wd cs L K Iz53 J Q) H ∧ Iw L K x0 m0 tx tm p0 Iz53 ∧ Iz53 p0 3 = z18 ∧ Iz53 p0 4 = z26 ∧ Iz53 p0 5 = z34 ∧ Iz53 p0 7 = z50 ∧ (∀ b, ¬ b = p0 → Iz53 b = I b) ∧ Iz53 = va_up Iz45 p0 (upd (Iz45 p0) 7 z50) := ⟨_, hP, Iw_put hIz45 (oV_3_7 (Iw_at hIz45 hLp0 hKp0) ⟨by omega, by omega⟩), by rw [va_up_self]; first | (simp only [upd, show ¬ (3 : Nat) = 7 from by decide, if_false]; done) | (simp only [upd, show ¬ (3 : Nat) = 7 from by decide, if_false]; exact trIz453), by rw [va_up_self]; first | (simp only [upd, show ¬ (4 : Nat) = 7 from by decide, if_false]; done) | (simp only [upd, show ¬ (4 : Nat) = 7 from by decide, if_false]; exact trIz454), by rw [va_up_self]; first | (simp only [upd, show ¬ (5 : Nat) = 7 from by decide, if_false]; done) | (simp only [upd, show ¬ (5 : Nat) = 7 from by decide, if_false]; exact trIz455), by rw [va_up_self]; simp only [upd, if_true], fun b q => (va_up_ne _ _ q).trans (frIz45 b q), rfl⟩
  have fr_Iz53 : ∀ b, ¬ (b = p0) → Iz53 b = I b := fun b q => (congrFun qIz53 b).trans ((va_up_ne _ _ (fun z => q z)).trans (fr_Iz45 b q))
  refine lv_aload_n hx hb dX3_become_56 rfl (lv_at hl 1 rfl) ?_
  obtain ⟨y57, ey57, hLy57, hKy57, hGy57⟩ := oQ_3_2 (Sv_at hQ hLp1 hKp1)
  refine p_get (v := .ref y57) hx hb hts inX3 hown hK hP hLp1 hKp1 rfl rfl 2 (by decide) (hts _ pq124) (congrArg (fun q => some (va_rf q)) ey57) dX3_become_57 ?_
  refine lv_iconst (v := 0) hx hb dX3_become_60 (by decide +kernel) ?_
  refine lv_aload_n hx hb dX3_become_61 rfl (lv_at hl 0 rfl) ?_
  obtain ⟨y62, ey62, hLy62, hKy62, hGy62⟩ := oQ_3_2 (Sv_at hQ hLp0 hKp0)
  refine p_get (v := .ref y62) hx hb hts inX3 hown hK hP hLp0 hKp0 rfl rfl 2 (by decide) (hts _ pq124) (congrArg (fun q => some (va_rf q)) ey62) dX3_become_62 ?_
  refine lv_iconst (v := 0) hx hb dX3_become_65 (by decide +kernel) ?_
  refine lv_aload_n hx hb dX3_become_66 rfl (lv_at hl 0 rfl) ?_
  refine p_get (v := .ref y62) hx hb hts inX3 hown hK hP hLp0 hKp0 rfl rfl 2 (by decide) (hts _ pq124) (congrArg (fun q => some (va_rf q)) ey62) dX3_become_67 ?_
  refine p_alen (v := 80) hx hb hK hP 2 hLy62 hKy62 rfl rfl rfl dX3_become_70 ?_
  refine p_copy hx hb (hml.trans hl.1.symm) hown (hts _ pq597) (hts _ pq599) (hts _ pq598) (hts _ pq90) hK hP hD hS hLy57 hKy57 hLy62 hKy62 (by rw [hR]; exact (Nat.le_of_ble_eq_true rfl)) (by rw [hR]; exact (Nat.le_of_ble_eq_true rfl)) dX3_become_71 (fun Jz71 H locs qJz71 hP hS => ?_)
  have dj_Jz71 : (∀ b, ¬ (K b = 12 ∧ (G b = G p0)) → Jz71 b = J b) := fun b hc => (congrFun qJz71 b).trans ((va_up_ne _ _ (fun z => hc (by rw [z]; exact ⟨hKy62, by omega⟩))).trans (dj_J b hc))
  subst hR; subst hQz
  exact W.vret hx hb hr (fun t ht hW => ⟨⟨(), rfl, trivial, ⟨Iz53, Jz71, ⟨(Iw_up hIz53 (by rw [trIz533, trIz534, trIz535, trIz537]; exact (Classical.em (p1 = p0)).elim (fun q => by rw [ez18, ez26, ez34, ez50, q, trIz133, trIz214, trIz295, trIz457]; exact oI_3_t (Iv_at hI0 hLp0 hKp0)) (fun q => by rw [ez18, ez26, ez34, ez50, frIz13 p1 q, frIz21 p1 q, frIz29 p1 q, frIz45 p1 q]; exact oI_3_t (Iv_at hI0 hLp1 hKp1)))), fr_Iz53, (fun hne k hk h2 => by rcases (show k = 0 ∨ k = 1 ∨ k = 3 ∨ k = 4 ∨ k = 5 ∨ k = 6 ∨ k = 7 by omega) with rfl | rfl | rfl | rfl | rfl | rfl | rfl; (rw [qIz53, rz_fr _ _ _ _ (by decide), qIz45, rz_fr _ _ _ _ (by decide), qIz37, rz_fr _ _ _ _ (by decide), qIz29, rz_fr _ _ _ _ (by decide), qIz21, rz_fr _ _ _ _ (by decide), qIz13, rz_fr _ _ _ _ (by decide), qIz5, rz_at, ez2]); (rw [qIz53, rz_fr _ _ _ _ (by decide), qIz45, rz_fr _ _ _ _ (by decide), qIz37, rz_fr _ _ _ _ (by decide), qIz29, rz_fr _ _ _ _ (by decide), qIz21, rz_fr _ _ _ _ (by decide), qIz13, rz_at, ez10, frIz5 p1 hne]); (rw [qIz53, rz_fr _ _ _ _ (by decide), qIz45, rz_fr _ _ _ _ (by decide), qIz37, rz_fr _ _ _ _ (by decide), qIz29, rz_fr _ _ _ _ (by decide), qIz21, rz_at, ez18, frIz13 p1 hne]); (rw [qIz53, rz_fr _ _ _ _ (by decide), qIz45, rz_fr _ _ _ _ (by decide), qIz37, rz_fr _ _ _ _ (by decide), qIz29, rz_at, ez26, frIz21 p1 hne]); (rw [qIz53, rz_fr _ _ _ _ (by decide), qIz45, rz_fr _ _ _ _ (by decide), qIz37, rz_at, ez34, frIz29 p1 hne]); (rw [qIz53, rz_fr _ _ _ _ (by decide), qIz45, rz_at, ez42, frIz37 p1 hne]); (rw [qIz53, rz_at, ez50, frIz45 p1 hne])), (fun k hk => by rw [wo_of ey62, wo_of ey57, qJz71, va_up_self]; exact cpy80 hk), dj_Jz71⟩, by rw [ht]; exact hP⟩⟩, hS.F ht⟩) hS.2.2 dX3_become_74
