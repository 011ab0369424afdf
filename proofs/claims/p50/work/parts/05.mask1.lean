def yX3_isInside : MethodName := ⟨RX3, "isInside", "(II)Z"⟩
abbrev cX3_isInside : ByteArray := prog_5_method_3_code
def yX3_movedHigh : MethodName := ⟨RX3, "movedHigh", "(JJI)J"⟩
abbrev cX3_movedHigh : ByteArray := prog_5_method_26_code
abbrev cX3_highOnes : ByteArray := prog_5_method_30_code
abbrev cX3_holds : ByteArray := prog_5_method_4_code
abbrev cX3_isSameAs : ByteArray := prog_5_method_15_code
abbrev cX3_lowOnes : ByteArray := prog_5_method_29_code
abbrev cX3_reversed : ByteArray := prog_5_method_33_code
abbrev cX3_shiftedHigh : ByteArray := prog_5_method_28_code
abbrev cX3_shiftedLow : ByteArray := prog_5_method_27_code
abbrev cX3_toggle : ByteArray := prog_5_method_5_code
def yX3_highOnes : MethodName := ⟨RX3, "highOnes", "(I)J"⟩
def yX3_holds : MethodName := ⟨RX3, "holds", "(II)Z"⟩
def yX3_isSameAs : MethodName := ⟨RX3, "isSameAs", "(LMaskTouch$Mask;)Z"⟩
def yX3_lowOnes : MethodName := ⟨RX3, "lowOnes", "(I)J"⟩
def yX3_reversed : MethodName := ⟨RX3, "reversed", "(J)J"⟩
def yX3_shiftedHigh : MethodName := ⟨RX3, "shiftedHigh", "(JJI)J"⟩
def yX3_shiftedLow : MethodName := ⟨RX3, "shiftedLow", "(JJI)J"⟩
def yX3_toggle : MethodName := ⟨RX3, "toggle", "(II)V"⟩
theorem dX3_highOnes_0 : decode cX3_highOnes 0 = .ok (.iload_n 0, 1) := by decide +kernel
theorem dX3_highOnes_1 : decode cX3_highOnes 1 = .ok (.bipush 64, 2) := by decide +kernel
theorem dX3_highOnes_3 : decode cX3_highOnes 3 = .ok (.if_icmp .gt 7, 3) := by decide +kernel
theorem dX3_highOnes_6 : decode cX3_highOnes 6 = .ok (.lconst 0, 1) := by decide +kernel
theorem dX3_highOnes_7 : decode cX3_highOnes 7 = .ok (.goto 11, 3) := by decide +kernel
theorem dX3_highOnes_10 : decode cX3_highOnes 10 = .ok (.lconst 1, 1) := by decide +kernel
theorem dX3_highOnes_11 : decode cX3_highOnes 11 = .ok (.iload_n 0, 1) := by decide +kernel
theorem dX3_highOnes_12 : decode cX3_highOnes 12 = .ok (.bipush 64, 2) := by decide +kernel
theorem dX3_highOnes_14 : decode cX3_highOnes 14 = .ok (.isub, 1) := by decide +kernel
theorem dX3_highOnes_15 : decode cX3_highOnes 15 = .ok (.lshl, 1) := by decide +kernel
theorem dX3_highOnes_16 : decode cX3_highOnes 16 = .ok (.lconst 1, 1) := by decide +kernel
theorem dX3_highOnes_17 : decode cX3_highOnes 17 = .ok (.lsub, 1) := by decide +kernel
theorem dX3_highOnes_18 : decode cX3_highOnes 18 = .ok (.lreturn, 1) := by decide +kernel
theorem dX3_holds_0 : decode cX3_holds 0 = .ok (.aload_n 0, 1) := by decide +kernel
theorem dX3_holds_1 : decode cX3_holds 1 = .ok (.iload_n 1, 1) := by decide +kernel
theorem dX3_holds_2 : decode cX3_holds 2 = .ok (.iload_n 2, 1) := by decide +kernel
theorem dX3_holds_3 : decode cX3_holds 3 = .ok (.invokevirtual 31, 3) := by decide +kernel
theorem dX3_holds_6 : decode cX3_holds 6 = .ok (.ifCond .eq 32, 3) := by decide +kernel
theorem dX3_holds_9 : decode cX3_holds 9 = .ok (.aload_n 0, 1) := by decide +kernel
theorem dX3_holds_10 : decode cX3_holds 10 = .ok (.getfield 9, 3) := by decide +kernel
theorem dX3_holds_13 : decode cX3_holds 13 = .ok (.iconst 2, 1) := by decide +kernel
theorem dX3_holds_14 : decode cX3_holds 14 = .ok (.iload_n 2, 1) := by decide +kernel
theorem dX3_holds_15 : decode cX3_holds 15 = .ok (.imul, 1) := by decide +kernel
theorem dX3_holds_16 : decode cX3_holds 16 = .ok (.iload_n 1, 1) := by decide +kernel
theorem dX3_holds_17 : decode cX3_holds 17 = .ok (.bipush 6, 2) := by decide +kernel
theorem dX3_holds_19 : decode cX3_holds 19 = .ok (.ishr, 1) := by decide +kernel
theorem dX3_holds_20 : decode cX3_holds 20 = .ok (.iadd, 1) := by decide +kernel
theorem dX3_holds_21 : decode cX3_holds 21 = .ok (.laload, 1) := by decide +kernel
theorem dX3_holds_22 : decode cX3_holds 22 = .ok (.iload_n 1, 1) := by decide +kernel
theorem dX3_holds_23 : decode cX3_holds 23 = .ok (.bipush 63, 2) := by decide +kernel
theorem dX3_holds_25 : decode cX3_holds 25 = .ok (.iand, 1) := by decide +kernel
theorem dX3_holds_26 : decode cX3_holds 26 = .ok (.lushr, 1) := by decide +kernel
theorem dX3_holds_27 : decode cX3_holds 27 = .ok (.lconst 1, 1) := by decide +kernel
theorem dX3_holds_28 : decode cX3_holds 28 = .ok (.land, 1) := by decide +kernel
theorem dX3_holds_29 : decode cX3_holds 29 = .ok (.lconst 1, 1) := by decide +kernel
theorem dX3_holds_30 : decode cX3_holds 30 = .ok (.lcmp, 1) := by decide +kernel
theorem dX3_holds_31 : decode cX3_holds 31 = .ok (.ifCond .ne 7, 3) := by decide +kernel
theorem dX3_holds_34 : decode cX3_holds 34 = .ok (.iconst 1, 1) := by decide +kernel
theorem dX3_holds_35 : decode cX3_holds 35 = .ok (.goto 4, 3) := by decide +kernel
theorem dX3_holds_38 : decode cX3_holds 38 = .ok (.iconst 0, 1) := by decide +kernel
theorem dX3_holds_39 : decode cX3_holds 39 = .ok (.ireturn, 1) := by decide +kernel
theorem dX3_isInside_0 : decode cX3_isInside 0 = .ok (.iload_n 1, 1) := by decide +kernel
theorem dX3_isInside_1 : decode cX3_isInside 1 = .ok (.ifCond .lt 27, 3) := by decide +kernel
theorem dX3_isInside_4 : decode cX3_isInside 4 = .ok (.iload_n 1, 1) := by decide +kernel
theorem dX3_isInside_5 : decode cX3_isInside 5 = .ok (.aload_n 0, 1) := by decide +kernel
theorem dX3_isInside_6 : decode cX3_isInside 6 = .ok (.getfield 15, 3) := by decide +kernel
theorem dX3_isInside_9 : decode cX3_isInside 9 = .ok (.if_icmp .ge 19, 3) := by decide +kernel
theorem dX3_isInside_12 : decode cX3_isInside 12 = .ok (.iload_n 2, 1) := by decide +kernel
theorem dX3_isInside_13 : decode cX3_isInside 13 = .ok (.ifCond .lt 15, 3) := by decide +kernel
theorem dX3_isInside_16 : decode cX3_isInside 16 = .ok (.iload_n 2, 1) := by decide +kernel
theorem dX3_isInside_17 : decode cX3_isInside 17 = .ok (.aload_n 0, 1) := by decide +kernel
theorem dX3_isInside_18 : decode cX3_isInside 18 = .ok (.getfield 19, 3) := by decide +kernel
theorem dX3_isInside_21 : decode cX3_isInside 21 = .ok (.if_icmp .ge 7, 3) := by decide +kernel
theorem dX3_isInside_24 : decode cX3_isInside 24 = .ok (.iconst 1, 1) := by decide +kernel
theorem dX3_isInside_25 : decode cX3_isInside 25 = .ok (.goto 4, 3) := by decide +kernel
theorem dX3_isInside_28 : decode cX3_isInside 28 = .ok (.iconst 0, 1) := by decide +kernel
theorem dX3_isInside_29 : decode cX3_isInside 29 = .ok (.ireturn, 1) := by decide +kernel
theorem dX3_isSameAs_0 : decode cX3_isSameAs 0 = .ok (.aload_n 0, 1) := by decide +kernel
theorem dX3_isSameAs_1 : decode cX3_isSameAs 1 = .ok (.getfield 15, 3) := by decide +kernel
theorem dX3_isSameAs_4 : decode cX3_isSameAs 4 = .ok (.aload_n 1, 1) := by decide +kernel
theorem dX3_isSameAs_5 : decode cX3_isSameAs 5 = .ok (.getfield 15, 3) := by decide +kernel
theorem dX3_isSameAs_8 : decode cX3_isSameAs 8 = .ok (.if_icmp .ne 25, 3) := by decide +kernel
theorem dX3_isSameAs_11 : decode cX3_isSameAs 11 = .ok (.aload_n 0, 1) := by decide +kernel
theorem dX3_isSameAs_12 : decode cX3_isSameAs 12 = .ok (.getfield 19, 3) := by decide +kernel
theorem dX3_isSameAs_15 : decode cX3_isSameAs 15 = .ok (.aload_n 1, 1) := by decide +kernel
theorem dX3_isSameAs_16 : decode cX3_isSameAs 16 = .ok (.getfield 19, 3) := by decide +kernel
theorem dX3_isSameAs_19 : decode cX3_isSameAs 19 = .ok (.if_icmp .ne 14, 3) := by decide +kernel
theorem dX3_isSameAs_22 : decode cX3_isSameAs 22 = .ok (.aload_n 0, 1) := by decide +kernel
theorem dX3_isSameAs_23 : decode cX3_isSameAs 23 = .ok (.getfield 22, 3) := by decide +kernel
theorem dX3_isSameAs_26 : decode cX3_isSameAs 26 = .ok (.aload_n 1, 1) := by decide +kernel
theorem dX3_isSameAs_27 : decode cX3_isSameAs 27 = .ok (.getfield 22, 3) := by decide +kernel
theorem dX3_isSameAs_30 : decode cX3_isSameAs 30 = .ok (.if_icmp .eq 5, 3) := by decide +kernel
theorem dX3_isSameAs_33 : decode cX3_isSameAs 33 = .ok (.iconst 0, 1) := by decide +kernel
theorem dX3_isSameAs_34 : decode cX3_isSameAs 34 = .ok (.ireturn, 1) := by decide +kernel
theorem dX3_isSameAs_35 : decode cX3_isSameAs 35 = .ok (.iconst 0, 1) := by decide +kernel
theorem dX3_isSameAs_36 : decode cX3_isSameAs 36 = .ok (.istore_n 2, 1) := by decide +kernel
theorem dX3_isSameAs_37 : decode cX3_isSameAs 37 = .ok (.iload_n 2, 1) := by decide +kernel
theorem dX3_isSameAs_38 : decode cX3_isSameAs 38 = .ok (.iconst 2, 1) := by decide +kernel
theorem dX3_isSameAs_39 : decode cX3_isSameAs 39 = .ok (.aload_n 0, 1) := by decide +kernel
theorem dX3_isSameAs_40 : decode cX3_isSameAs 40 = .ok (.getfield 19, 3) := by decide +kernel
theorem dX3_isSameAs_43 : decode cX3_isSameAs 43 = .ok (.imul, 1) := by decide +kernel
theorem dX3_isSameAs_44 : decode cX3_isSameAs 44 = .ok (.if_icmp .ge 27, 3) := by decide +kernel
theorem dX3_isSameAs_47 : decode cX3_isSameAs 47 = .ok (.aload_n 0, 1) := by decide +kernel
theorem dX3_isSameAs_48 : decode cX3_isSameAs 48 = .ok (.getfield 9, 3) := by decide +kernel
theorem dX3_isSameAs_51 : decode cX3_isSameAs 51 = .ok (.iload_n 2, 1) := by decide +kernel
theorem dX3_isSameAs_52 : decode cX3_isSameAs 52 = .ok (.laload, 1) := by decide +kernel
theorem dX3_isSameAs_53 : decode cX3_isSameAs 53 = .ok (.aload_n 1, 1) := by decide +kernel
theorem dX3_isSameAs_54 : decode cX3_isSameAs 54 = .ok (.getfield 9, 3) := by decide +kernel
theorem dX3_isSameAs_57 : decode cX3_isSameAs 57 = .ok (.iload_n 2, 1) := by decide +kernel
theorem dX3_isSameAs_58 : decode cX3_isSameAs 58 = .ok (.laload, 1) := by decide +kernel
theorem dX3_isSameAs_59 : decode cX3_isSameAs 59 = .ok (.lcmp, 1) := by decide +kernel
theorem dX3_isSameAs_60 : decode cX3_isSameAs 60 = .ok (.ifCond .eq 5, 3) := by decide +kernel
theorem dX3_isSameAs_63 : decode cX3_isSameAs 63 = .ok (.iconst 0, 1) := by decide +kernel
theorem dX3_isSameAs_64 : decode cX3_isSameAs 64 = .ok (.ireturn, 1) := by decide +kernel
theorem dX3_isSameAs_65 : decode cX3_isSameAs 65 = .ok (.iinc 2 1, 3) := by decide +kernel
theorem dX3_isSameAs_68 : decode cX3_isSameAs 68 = .ok (.goto (-31), 3) := by decide +kernel
theorem dX3_isSameAs_71 : decode cX3_isSameAs 71 = .ok (.iconst 1, 1) := by decide +kernel
theorem dX3_isSameAs_72 : decode cX3_isSameAs 72 = .ok (.ireturn, 1) := by decide +kernel
theorem dX3_lowOnes_0 : decode cX3_lowOnes 0 = .ok (.iload_n 0, 1) := by decide +kernel
theorem dX3_lowOnes_1 : decode cX3_lowOnes 1 = .ok (.bipush 64, 2) := by decide +kernel
theorem dX3_lowOnes_3 : decode cX3_lowOnes 3 = .ok (.if_icmp .lt 9, 3) := by decide +kernel
theorem dX3_lowOnes_6 : decode cX3_lowOnes 6 = .ok (.ldc2_w 90, 3) := by decide +kernel
theorem dX3_lowOnes_9 : decode cX3_lowOnes 9 = .ok (.goto 8, 3) := by decide +kernel
theorem dX3_lowOnes_12 : decode cX3_lowOnes 12 = .ok (.lconst 1, 1) := by decide +kernel
theorem dX3_lowOnes_13 : decode cX3_lowOnes 13 = .ok (.iload_n 0, 1) := by decide +kernel
theorem dX3_lowOnes_14 : decode cX3_lowOnes 14 = .ok (.lshl, 1) := by decide +kernel
theorem dX3_lowOnes_15 : decode cX3_lowOnes 15 = .ok (.lconst 1, 1) := by decide +kernel
theorem dX3_lowOnes_16 : decode cX3_lowOnes 16 = .ok (.lsub, 1) := by decide +kernel
theorem dX3_lowOnes_17 : decode cX3_lowOnes 17 = .ok (.lreturn, 1) := by decide +kernel
theorem dX3_movedHigh_0 : decode cX3_movedHigh 0 = .ok (.iload 4, 2) := by decide +kernel
theorem dX3_movedHigh_2 : decode cX3_movedHigh 2 = .ok (.bipush 64, 2) := by decide +kernel
theorem dX3_movedHigh_4 : decode cX3_movedHigh 4 = .ok (.if_icmp .ge 20, 3) := by decide +kernel
theorem dX3_movedHigh_7 : decode cX3_movedHigh 7 = .ok (.lload_n 2, 1) := by decide +kernel
theorem dX3_movedHigh_8 : decode cX3_movedHigh 8 = .ok (.iload 4, 2) := by decide +kernel
theorem dX3_movedHigh_10 : decode cX3_movedHigh 10 = .ok (.lshl, 1) := by decide +kernel
theorem dX3_movedHigh_11 : decode cX3_movedHigh 11 = .ok (.lload_n 0, 1) := by decide +kernel
theorem dX3_movedHigh_12 : decode cX3_movedHigh 12 = .ok (.iconst 1, 1) := by decide +kernel
theorem dX3_movedHigh_13 : decode cX3_movedHigh 13 = .ok (.lushr, 1) := by decide +kernel
theorem dX3_movedHigh_14 : decode cX3_movedHigh 14 = .ok (.bipush 63, 2) := by decide +kernel
theorem dX3_movedHigh_16 : decode cX3_movedHigh 16 = .ok (.iload 4, 2) := by decide +kernel
theorem dX3_movedHigh_18 : decode cX3_movedHigh 18 = .ok (.isub, 1) := by decide +kernel
theorem dX3_movedHigh_19 : decode cX3_movedHigh 19 = .ok (.lushr, 1) := by decide +kernel
theorem dX3_movedHigh_20 : decode cX3_movedHigh 20 = .ok (.lor, 1) := by decide +kernel
theorem dX3_movedHigh_21 : decode cX3_movedHigh 21 = .ok (.goto 10, 3) := by decide +kernel
theorem dX3_movedHigh_24 : decode cX3_movedHigh 24 = .ok (.lload_n 0, 1) := by decide +kernel
theorem dX3_movedHigh_25 : decode cX3_movedHigh 25 = .ok (.iload 4, 2) := by decide +kernel
theorem dX3_movedHigh_27 : decode cX3_movedHigh 27 = .ok (.bipush 64, 2) := by decide +kernel
theorem dX3_movedHigh_29 : decode cX3_movedHigh 29 = .ok (.isub, 1) := by decide +kernel
theorem dX3_movedHigh_30 : decode cX3_movedHigh 30 = .ok (.lshl, 1) := by decide +kernel
theorem dX3_movedHigh_31 : decode cX3_movedHigh 31 = .ok (.lreturn, 1) := by decide +kernel
theorem dX3_reversed_0 : decode cX3_reversed 0 = .ok (.lload_n 0, 1) := by decide +kernel
theorem dX3_reversed_1 : decode cX3_reversed 1 = .ok (.lstore_n 2, 1) := by decide +kernel
theorem dX3_reversed_2 : decode cX3_reversed 2 = .ok (.lload_n 2, 1) := by decide +kernel
theorem dX3_reversed_3 : decode cX3_reversed 3 = .ok (.ldc2_w 130, 3) := by decide +kernel
theorem dX3_reversed_6 : decode cX3_reversed 6 = .ok (.land, 1) := by decide +kernel
theorem dX3_reversed_7 : decode cX3_reversed 7 = .ok (.iconst 1, 1) := by decide +kernel
theorem dX3_reversed_8 : decode cX3_reversed 8 = .ok (.lshl, 1) := by decide +kernel
theorem dX3_reversed_9 : decode cX3_reversed 9 = .ok (.lload_n 2, 1) := by decide +kernel
theorem dX3_reversed_10 : decode cX3_reversed 10 = .ok (.iconst 1, 1) := by decide +kernel
theorem dX3_reversed_11 : decode cX3_reversed 11 = .ok (.lushr, 1) := by decide +kernel
theorem dX3_reversed_12 : decode cX3_reversed 12 = .ok (.ldc2_w 130, 3) := by decide +kernel
theorem dX3_reversed_15 : decode cX3_reversed 15 = .ok (.land, 1) := by decide +kernel
theorem dX3_reversed_16 : decode cX3_reversed 16 = .ok (.lor, 1) := by decide +kernel
theorem dX3_reversed_17 : decode cX3_reversed 17 = .ok (.lstore_n 2, 1) := by decide +kernel
theorem dX3_reversed_18 : decode cX3_reversed 18 = .ok (.lload_n 2, 1) := by decide +kernel
theorem dX3_reversed_19 : decode cX3_reversed 19 = .ok (.ldc2_w 132, 3) := by decide +kernel
theorem dX3_reversed_22 : decode cX3_reversed 22 = .ok (.land, 1) := by decide +kernel
theorem dX3_reversed_23 : decode cX3_reversed 23 = .ok (.iconst 2, 1) := by decide +kernel
theorem dX3_reversed_24 : decode cX3_reversed 24 = .ok (.lshl, 1) := by decide +kernel
theorem dX3_reversed_25 : decode cX3_reversed 25 = .ok (.lload_n 2, 1) := by decide +kernel
theorem dX3_reversed_26 : decode cX3_reversed 26 = .ok (.iconst 2, 1) := by decide +kernel
theorem dX3_reversed_27 : decode cX3_reversed 27 = .ok (.lushr, 1) := by decide +kernel
theorem dX3_reversed_28 : decode cX3_reversed 28 = .ok (.ldc2_w 132, 3) := by decide +kernel
theorem dX3_reversed_31 : decode cX3_reversed 31 = .ok (.land, 1) := by decide +kernel
theorem dX3_reversed_32 : decode cX3_reversed 32 = .ok (.lor, 1) := by decide +kernel
theorem dX3_reversed_33 : decode cX3_reversed 33 = .ok (.lstore_n 2, 1) := by decide +kernel
theorem dX3_reversed_34 : decode cX3_reversed 34 = .ok (.lload_n 2, 1) := by decide +kernel
theorem dX3_reversed_35 : decode cX3_reversed 35 = .ok (.ldc2_w 134, 3) := by decide +kernel
theorem dX3_reversed_38 : decode cX3_reversed 38 = .ok (.land, 1) := by decide +kernel
theorem dX3_reversed_39 : decode cX3_reversed 39 = .ok (.iconst 4, 1) := by decide +kernel
theorem dX3_reversed_40 : decode cX3_reversed 40 = .ok (.lshl, 1) := by decide +kernel
theorem dX3_reversed_41 : decode cX3_reversed 41 = .ok (.lload_n 2, 1) := by decide +kernel
theorem dX3_reversed_42 : decode cX3_reversed 42 = .ok (.iconst 4, 1) := by decide +kernel
theorem dX3_reversed_43 : decode cX3_reversed 43 = .ok (.lushr, 1) := by decide +kernel
theorem dX3_reversed_44 : decode cX3_reversed 44 = .ok (.ldc2_w 134, 3) := by decide +kernel
theorem dX3_reversed_47 : decode cX3_reversed 47 = .ok (.land, 1) := by decide +kernel
theorem dX3_reversed_48 : decode cX3_reversed 48 = .ok (.lor, 1) := by decide +kernel
theorem dX3_reversed_49 : decode cX3_reversed 49 = .ok (.lstore_n 2, 1) := by decide +kernel
theorem dX3_reversed_50 : decode cX3_reversed 50 = .ok (.lload_n 2, 1) := by decide +kernel
theorem dX3_reversed_51 : decode cX3_reversed 51 = .ok (.ldc2_w 136, 3) := by decide +kernel
theorem dX3_reversed_54 : decode cX3_reversed 54 = .ok (.land, 1) := by decide +kernel
theorem dX3_reversed_55 : decode cX3_reversed 55 = .ok (.bipush 8, 2) := by decide +kernel
theorem dX3_reversed_57 : decode cX3_reversed 57 = .ok (.lshl, 1) := by decide +kernel
theorem dX3_reversed_58 : decode cX3_reversed 58 = .ok (.lload_n 2, 1) := by decide +kernel
theorem dX3_reversed_59 : decode cX3_reversed 59 = .ok (.bipush 8, 2) := by decide +kernel
theorem dX3_reversed_61 : decode cX3_reversed 61 = .ok (.lushr, 1) := by decide +kernel
theorem dX3_reversed_62 : decode cX3_reversed 62 = .ok (.ldc2_w 136, 3) := by decide +kernel
theorem dX3_reversed_65 : decode cX3_reversed 65 = .ok (.land, 1) := by decide +kernel
theorem dX3_reversed_66 : decode cX3_reversed 66 = .ok (.lor, 1) := by decide +kernel
theorem dX3_reversed_67 : decode cX3_reversed 67 = .ok (.lstore_n 2, 1) := by decide +kernel
theorem dX3_reversed_68 : decode cX3_reversed 68 = .ok (.lload_n 2, 1) := by decide +kernel
theorem dX3_reversed_69 : decode cX3_reversed 69 = .ok (.ldc2_w 138, 3) := by decide +kernel
theorem dX3_reversed_72 : decode cX3_reversed 72 = .ok (.land, 1) := by decide +kernel
theorem dX3_reversed_73 : decode cX3_reversed 73 = .ok (.bipush 16, 2) := by decide +kernel
theorem dX3_reversed_75 : decode cX3_reversed 75 = .ok (.lshl, 1) := by decide +kernel
theorem dX3_reversed_76 : decode cX3_reversed 76 = .ok (.lload_n 2, 1) := by decide +kernel
theorem dX3_reversed_77 : decode cX3_reversed 77 = .ok (.bipush 16, 2) := by decide +kernel
theorem dX3_reversed_79 : decode cX3_reversed 79 = .ok (.lushr, 1) := by decide +kernel
theorem dX3_reversed_80 : decode cX3_reversed 80 = .ok (.ldc2_w 138, 3) := by decide +kernel
theorem dX3_reversed_83 : decode cX3_reversed 83 = .ok (.land, 1) := by decide +kernel
theorem dX3_reversed_84 : decode cX3_reversed 84 = .ok (.lor, 1) := by decide +kernel
theorem dX3_reversed_85 : decode cX3_reversed 85 = .ok (.lstore_n 2, 1) := by decide +kernel
theorem dX3_reversed_86 : decode cX3_reversed 86 = .ok (.lload_n 2, 1) := by decide +kernel
theorem dX3_reversed_87 : decode cX3_reversed 87 = .ok (.bipush 32, 2) := by decide +kernel
theorem dX3_reversed_89 : decode cX3_reversed 89 = .ok (.lshl, 1) := by decide +kernel
theorem dX3_reversed_90 : decode cX3_reversed 90 = .ok (.lload_n 2, 1) := by decide +kernel
theorem dX3_reversed_91 : decode cX3_reversed 91 = .ok (.bipush 32, 2) := by decide +kernel
theorem dX3_reversed_93 : decode cX3_reversed 93 = .ok (.lushr, 1) := by decide +kernel
theorem dX3_reversed_94 : decode cX3_reversed 94 = .ok (.lor, 1) := by decide +kernel
theorem dX3_reversed_95 : decode cX3_reversed 95 = .ok (.lreturn, 1) := by decide +kernel
theorem dX3_shiftedHigh_0 : decode cX3_shiftedHigh 0 = .ok (.iload 4, 2) := by decide +kernel
theorem dX3_shiftedHigh_2 : decode cX3_shiftedHigh 2 = .ok (.sipush 128, 3) := by decide +kernel
theorem dX3_shiftedHigh_5 : decode cX3_shiftedHigh 5 = .ok (.if_icmp .ge 10, 3) := by decide +kernel
theorem dX3_shiftedHigh_8 : decode cX3_shiftedHigh 8 = .ok (.iload 4, 2) := by decide +kernel
theorem dX3_shiftedHigh_10 : decode cX3_shiftedHigh 10 = .ok (.bipush (-64), 2) := by decide +kernel
theorem dX3_shiftedHigh_12 : decode cX3_shiftedHigh 12 = .ok (.if_icmp .gt 5, 3) := by decide +kernel
theorem dX3_shiftedHigh_15 : decode cX3_shiftedHigh 15 = .ok (.lconst 0, 1) := by decide +kernel
theorem dX3_shiftedHigh_16 : decode cX3_shiftedHigh 16 = .ok (.lreturn, 1) := by decide +kernel
theorem dX3_shiftedHigh_17 : decode cX3_shiftedHigh 17 = .ok (.iload 4, 2) := by decide +kernel
theorem dX3_shiftedHigh_19 : decode cX3_shiftedHigh 19 = .ok (.ifCond .lt 13, 3) := by decide +kernel
theorem dX3_shiftedHigh_22 : decode cX3_shiftedHigh 22 = .ok (.lload_n 0, 1) := by decide +kernel
theorem dX3_shiftedHigh_23 : decode cX3_shiftedHigh 23 = .ok (.lload_n 2, 1) := by decide +kernel
theorem dX3_shiftedHigh_24 : decode cX3_shiftedHigh 24 = .ok (.iload 4, 2) := by decide +kernel
theorem dX3_shiftedHigh_26 : decode cX3_shiftedHigh 26 = .ok (.invokestatic 127, 3) := by decide +kernel
theorem dX3_shiftedHigh_29 : decode cX3_shiftedHigh 29 = .ok (.goto 8, 3) := by decide +kernel
theorem dX3_shiftedHigh_32 : decode cX3_shiftedHigh 32 = .ok (.lload_n 2, 1) := by decide +kernel
theorem dX3_shiftedHigh_33 : decode cX3_shiftedHigh 33 = .ok (.iload 4, 2) := by decide +kernel
theorem dX3_shiftedHigh_35 : decode cX3_shiftedHigh 35 = .ok (.ineg, 1) := by decide +kernel
theorem dX3_shiftedHigh_36 : decode cX3_shiftedHigh 36 = .ok (.lushr, 1) := by decide +kernel
theorem dX3_shiftedHigh_37 : decode cX3_shiftedHigh 37 = .ok (.lreturn, 1) := by decide +kernel
theorem dX3_shiftedLow_0 : decode cX3_shiftedLow 0 = .ok (.iload 4, 2) := by decide +kernel
theorem dX3_shiftedLow_2 : decode cX3_shiftedLow 2 = .ok (.bipush 64, 2) := by decide +kernel
theorem dX3_shiftedLow_4 : decode cX3_shiftedLow 4 = .ok (.if_icmp .ge 10, 3) := by decide +kernel
theorem dX3_shiftedLow_7 : decode cX3_shiftedLow 7 = .ok (.iload 4, 2) := by decide +kernel
theorem dX3_shiftedLow_9 : decode cX3_shiftedLow 9 = .ok (.bipush (-128), 2) := by decide +kernel
theorem dX3_shiftedLow_11 : decode cX3_shiftedLow 11 = .ok (.if_icmp .gt 5, 3) := by decide +kernel
theorem dX3_shiftedLow_14 : decode cX3_shiftedLow 14 = .ok (.lconst 0, 1) := by decide +kernel
theorem dX3_shiftedLow_15 : decode cX3_shiftedLow 15 = .ok (.lreturn, 1) := by decide +kernel
theorem dX3_shiftedLow_16 : decode cX3_shiftedLow 16 = .ok (.iload 4, 2) := by decide +kernel
theorem dX3_shiftedLow_18 : decode cX3_shiftedLow 18 = .ok (.ifCond .lt 8, 3) := by decide +kernel
theorem dX3_shiftedLow_21 : decode cX3_shiftedLow 21 = .ok (.lload_n 0, 1) := by decide +kernel
theorem dX3_shiftedLow_22 : decode cX3_shiftedLow 22 = .ok (.iload 4, 2) := by decide +kernel
theorem dX3_shiftedLow_24 : decode cX3_shiftedLow 24 = .ok (.lshl, 1) := by decide +kernel
theorem dX3_shiftedLow_25 : decode cX3_shiftedLow 25 = .ok (.lreturn, 1) := by decide +kernel
theorem dX3_shiftedLow_26 : decode cX3_shiftedLow 26 = .ok (.iload 4, 2) := by decide +kernel
theorem dX3_shiftedLow_28 : decode cX3_shiftedLow 28 = .ok (.bipush (-64), 2) := by decide +kernel
theorem dX3_shiftedLow_30 : decode cX3_shiftedLow 30 = .ok (.if_icmp .le 19, 3) := by decide +kernel
theorem dX3_shiftedLow_33 : decode cX3_shiftedLow 33 = .ok (.lload_n 0, 1) := by decide +kernel
theorem dX3_shiftedLow_34 : decode cX3_shiftedLow 34 = .ok (.iload 4, 2) := by decide +kernel
theorem dX3_shiftedLow_36 : decode cX3_shiftedLow 36 = .ok (.ineg, 1) := by decide +kernel
theorem dX3_shiftedLow_37 : decode cX3_shiftedLow 37 = .ok (.lushr, 1) := by decide +kernel
theorem dX3_shiftedLow_38 : decode cX3_shiftedLow 38 = .ok (.lload_n 2, 1) := by decide +kernel
theorem dX3_shiftedLow_39 : decode cX3_shiftedLow 39 = .ok (.bipush 64, 2) := by decide +kernel
theorem dX3_shiftedLow_41 : decode cX3_shiftedLow 41 = .ok (.iload 4, 2) := by decide +kernel
theorem dX3_shiftedLow_43 : decode cX3_shiftedLow 43 = .ok (.iadd, 1) := by decide +kernel
theorem dX3_shiftedLow_44 : decode cX3_shiftedLow 44 = .ok (.lshl, 1) := by decide +kernel
theorem dX3_shiftedLow_45 : decode cX3_shiftedLow 45 = .ok (.lor, 1) := by decide +kernel
theorem dX3_shiftedLow_46 : decode cX3_shiftedLow 46 = .ok (.goto 11, 3) := by decide +kernel
theorem dX3_shiftedLow_49 : decode cX3_shiftedLow 49 = .ok (.lload_n 2, 1) := by decide +kernel
theorem dX3_shiftedLow_50 : decode cX3_shiftedLow 50 = .ok (.iload 4, 2) := by decide +kernel
theorem dX3_shiftedLow_52 : decode cX3_shiftedLow 52 = .ok (.ineg, 1) := by decide +kernel
theorem dX3_shiftedLow_53 : decode cX3_shiftedLow 53 = .ok (.bipush 64, 2) := by decide +kernel
theorem dX3_shiftedLow_55 : decode cX3_shiftedLow 55 = .ok (.isub, 1) := by decide +kernel
theorem dX3_shiftedLow_56 : decode cX3_shiftedLow 56 = .ok (.lushr, 1) := by decide +kernel
theorem dX3_shiftedLow_57 : decode cX3_shiftedLow 57 = .ok (.lreturn, 1) := by decide +kernel
theorem dX3_toggle_0 : decode cX3_toggle 0 = .ok (.aload_n 0, 1) := by decide +kernel
theorem dX3_toggle_1 : decode cX3_toggle 1 = .ok (.iload_n 1, 1) := by decide +kernel
theorem dX3_toggle_2 : decode cX3_toggle 2 = .ok (.iload_n 2, 1) := by decide +kernel
theorem dX3_toggle_3 : decode cX3_toggle 3 = .ok (.invokevirtual 31, 3) := by decide +kernel
theorem dX3_toggle_6 : decode cX3_toggle 6 = .ok (.ifCond .eq 25, 3) := by decide +kernel
theorem dX3_toggle_9 : decode cX3_toggle 9 = .ok (.aload_n 0, 1) := by decide +kernel
theorem dX3_toggle_10 : decode cX3_toggle 10 = .ok (.getfield 9, 3) := by decide +kernel
theorem dX3_toggle_13 : decode cX3_toggle 13 = .ok (.iconst 2, 1) := by decide +kernel
theorem dX3_toggle_14 : decode cX3_toggle 14 = .ok (.iload_n 2, 1) := by decide +kernel
theorem dX3_toggle_15 : decode cX3_toggle 15 = .ok (.imul, 1) := by decide +kernel
theorem dX3_toggle_16 : decode cX3_toggle 16 = .ok (.iload_n 1, 1) := by decide +kernel
theorem dX3_toggle_17 : decode cX3_toggle 17 = .ok (.bipush 6, 2) := by decide +kernel
theorem dX3_toggle_19 : decode cX3_toggle 19 = .ok (.ishr, 1) := by decide +kernel
theorem dX3_toggle_20 : decode cX3_toggle 20 = .ok (.iadd, 1) := by decide +kernel
theorem dX3_toggle_21 : decode cX3_toggle 21 = .ok (.dup2, 1) := by decide +kernel
theorem dX3_toggle_22 : decode cX3_toggle 22 = .ok (.laload, 1) := by decide +kernel
theorem dX3_toggle_23 : decode cX3_toggle 23 = .ok (.lconst 1, 1) := by decide +kernel
theorem dX3_toggle_24 : decode cX3_toggle 24 = .ok (.iload_n 1, 1) := by decide +kernel
theorem dX3_toggle_25 : decode cX3_toggle 25 = .ok (.bipush 63, 2) := by decide +kernel
theorem dX3_toggle_27 : decode cX3_toggle 27 = .ok (.iand, 1) := by decide +kernel
theorem dX3_toggle_28 : decode cX3_toggle 28 = .ok (.lshl, 1) := by decide +kernel
theorem dX3_toggle_29 : decode cX3_toggle 29 = .ok (.lxor, 1) := by decide +kernel
theorem dX3_toggle_30 : decode cX3_toggle 30 = .ok (.lastore, 1) := by decide +kernel
theorem dX3_toggle_31 : decode cX3_toggle 31 = .ok (.return_, 1) := by decide +kernel
set_option maxRecDepth 100000 in
theorem pq76 : Cond.initialized RX3 ∈ pw := pw_mem (i := 76) (by decide +kernel) rfl
set_option maxRecDepth 100000 in
theorem pq116 : Cond.fieldLink RX3 15 "MaskTouch$Mask" "wide" "I" ∈ pw := pw_mem (i := 116) (by decide +kernel) rfl
set_option maxRecDepth 100000 in
theorem pq120 : Cond.fieldLink RX3 19 "MaskTouch$Mask" "high" "I" ∈ pw := pw_mem (i := 120) (by decide +kernel) rfl
set_option maxRecDepth 100000 in
theorem pq124 : Cond.fieldLink RX3 9 "MaskTouch$Mask" "words" "[J" ∈ pw := pw_mem (i := 124) (by decide +kernel) rfl
set_option maxRecDepth 100000 in
theorem pq129 : Cond.fieldLink RX3 22 "MaskTouch$Mask" "total" "I" ∈ pw := pw_mem (i := 129) (by decide +kernel) rfl
set_option maxRecDepth 100000 in
theorem pq505 : Cond.constantLong RX3 90 (-1) ∈ pw := pw_mem (i := 505) (by decide +kernel) rfl
set_option maxRecDepth 100000 in
theorem pq517 : Cond.methodLink RX3 31 yX3_isInside ∈ pw := pw_mem (i := 517) (by decide +kernel) rfl
set_option maxRecDepth 100000 in
theorem pq518 : Cond.instanceMethod yX3_isInside ∈ pw := pw_mem (i := 518) (by decide +kernel) rfl
set_option maxRecDepth 100000 in
theorem pq519 : Cond.selects RX3 yX3_isInside yX3_isInside ∈ pw := pw_mem (i := 519) (by decide +kernel) rfl
set_option maxRecDepth 100000 in
theorem pq520 : Cond.code yX3_isInside cX3_isInside 3 (some .boolean) ∈ pw := pw_mem (i := 520) (by rfl) rfl
set_option maxRecDepth 100000 in
theorem pq617 : Cond.constantLong RX3 130 (6148914691236517205) ∈ pw := pw_mem (i := 617) (by decide +kernel) rfl
set_option maxRecDepth 100000 in
theorem pq618 : Cond.constantLong RX3 132 (3689348814741910323) ∈ pw := pw_mem (i := 618) (by decide +kernel) rfl
set_option maxRecDepth 100000 in
theorem pq619 : Cond.constantLong RX3 134 (1085102592571150095) ∈ pw := pw_mem (i := 619) (by decide +kernel) rfl
set_option maxRecDepth 100000 in
theorem pq620 : Cond.constantLong RX3 136 (71777214294589695) ∈ pw := pw_mem (i := 620) (by decide +kernel) rfl
set_option maxRecDepth 100000 in
theorem pq621 : Cond.constantLong RX3 138 (281470681808895) ∈ pw := pw_mem (i := 621) (by decide +kernel) rfl
set_option maxRecDepth 100000 in
theorem pq628 : Cond.methodLink RX3 127 yX3_movedHigh ∈ pw := pw_mem (i := 628) (by decide +kernel) rfl
set_option maxRecDepth 100000 in
theorem pq629 : Cond.static yX3_movedHigh ∈ pw := pw_mem (i := 629) (by decide +kernel) rfl
set_option maxRecDepth 100000 in
theorem pq630 : Cond.code yX3_movedHigh cX3_movedHigh 5 (some .long) ∈ pw := pw_mem (i := 630) (by rfl) rfl
set_option maxHeartbeats 4000000 in
set_option maxRecDepth 100000 in
theorem s_X3_lowOnes (l : Launch) (dC : Nat → ClassId) (dI : Nat → Nat → Nat) (cs : Nat → ClassId) (L : List Nat) (K G : Nat → Nat) (Q : Nat → Nat → Option Nat) (hQ : Sv L K G Q) (x0 m0 : Nat) (tx : GT) (tm : GT × Int) (sz : Nat) (I : Nat → Nat → Int32) (J : Nat → Nat → Int64) (hI : Iv L K x0 m0 tx tm I) (p0 : Int32) : Met l yX3_lowOnes (.code yX3_lowOnes cX3_lowOnes 1 (some .long) :: pw) ({ frames := 0, cells := 0, slots := 0, locals := 0 }) (sP (dC, dI) cs [.int p0] sz L K I J Q) (va_Ql (fun (r : Int64) (_ : Unit) => (0 ≤ p0.toInt → ∀ i : Nat, i < 64 → b64 r i = decide ((i : Int) < p0.toInt))) (fun _ _ => True) (fun _ => False)) 0 0 (fun _ => False) := by
  refine Met.ofW (cc := cX3_lowOnes) (maxL := 1) (ret := (some .long)) (by decide +kernel) rfl ?_
  intro p e s m args below meth c s₁ B hml hv
  obtain ⟨rfl, hsz, hP, hK, hD0, hN⟩ := hv
  have hx := B.exec
  have hb := B.bytes
  have hr := B.returns
  have hts := fun w (h : w ∈ pw) => atoms_spec (ws := Cond.code yX3_lowOnes cX3_lowOnes 1 (some .long) :: pw) B.pre w (List.mem_cons_of_mem _ h)
  have hown : s.vm.findClass RX3 = some m.cls := findClass_of_methodNamed B.named
  have hlocks := B.notSynchronized
  subst hsz
  have hBB : 999 ≤ tm.2 ∧ tm.2 ≤ 6000000 := hI.2.2.2.2.1
  have hD := hD0
  obtain ⟨H, hHe⟩ : ∃ H : Heap, H = s.heap := ⟨_, rfl⟩
  have hS : va_S (fun _ => False) s.heap H [] := by rw [hHe]; exact va_S.rf
  rw [← hHe] at hP
  have hl := lv_entry ([.int p0]) (n := 1) (Nat.le_of_ble_eq_true rfl)
  rw [lg_entry_eq]
  generalize (lg_sl ([.int p0]) ++ List.replicate (1 - (lg_sl ([.int p0])).length) Slot.unset).toArray = ls at hl ⊢
  have hl : lv_has ls 1 [(0, .int p0)] := hl
  rw [← hHe]
  refine namedW (fun R Qz hR hQz => ?_)
  refine lv_iload_n hx hb dX3_lowOnes_0 rfl (lv_at hl 0 rfl) ?_
  refine lv_bipush (v := 64) hx hb dX3_lowOnes_1 (by decide +kernel) ?_
  refine lv_icmp_lt (tgt := 12) hx hb dX3_lowOnes_3 (by decide) (fun c3 => ?_) (fun c3 => ?_)
  · have t3 := tq_lt (k := p0.toInt) (q := (64)) c3 rfl (by decide +kernel)
    refine lv_lconst (v := 1) hx hb dX3_lowOnes_12 (by decide +kernel) ?_
    refine lv_iload_n hx hb dX3_lowOnes_13 rfl (lv_at hl 0 rfl) ?_
    refine lv_lshl hx hb dX3_lowOnes_14 rfl ?_
    refine lv_topl (fun z14 ez14 => ?_)
    refine lv_lconst (v := 1) hx hb dX3_lowOnes_15 (by decide +kernel) ?_
    refine lv_lsub hx hb dX3_lowOnes_16 ?_
    refine lv_topl (fun z16 ez16 => ?_)
    subst hR; subst hQz
    exact W.lret (v := z16) hx hb hr (fun t ht hW => ⟨⟨z16, (), rfl, (fun hp i hi => by rw [b64_ones (k := p0.toInt.toNat) ez14 ez16 (by omega) (by omega) hi]; exact decide_eq_decide.mpr (by omega)), trivial⟩, hS.F ht⟩) hS.2.2 dX3_lowOnes_17
  · have t3 := tq_nlt (k := p0.toInt) (q := (64)) c3 rfl (by decide +kernel)
    refine lv_ldc2 hx hb hown (hts _ pq505) dX3_lowOnes_6 ?_
    refine lv_goto (tgt := 17) hx hb dX3_lowOnes_9 (by decide) ?_
    subst hR; subst hQz
    exact W.lret (v := (-1)) hx hb hr (fun t ht hW => ⟨⟨(-1), (), rfl, (fun hp i hi => by rw [b64_m1 hi]; exact (decide_eq_true (by omega)).symm), trivial⟩, hS.F ht⟩) hS.2.2 dX3_lowOnes_17

set_option maxHeartbeats 4000000 in
set_option maxRecDepth 100000 in
theorem s_X3_highOnes (l : Launch) (dC : Nat → ClassId) (dI : Nat → Nat → Nat) (cs : Nat → ClassId) (L : List Nat) (K G : Nat → Nat) (Q : Nat → Nat → Option Nat) (hQ : Sv L K G Q) (x0 m0 : Nat) (tx : GT) (tm : GT × Int) (sz : Nat) (I : Nat → Nat → Int32) (J : Nat → Nat → Int64) (hI : Iv L K x0 m0 tx tm I) (p0 : Int32) : Met l yX3_highOnes (.code yX3_highOnes cX3_highOnes 1 (some .long) :: pw) ({ frames := 0, cells := 0, slots := 0, locals := 0 }) (sP (dC, dI) cs [.int p0] sz L K I J Q) (va_Ql (fun (r : Int64) (_ : Unit) => (p0.toInt ≤ 127 → ∀ i : Nat, i < 64 → b64 r i = decide ((i : Int) + 64 < p0.toInt))) (fun _ _ => True) (fun _ => False)) 0 0 (fun _ => False) := by
  refine Met.ofW (cc := cX3_highOnes) (maxL := 1) (ret := (some .long)) (by decide +kernel) rfl ?_
  intro p e s m args below meth c s₁ B hml hv
  obtain ⟨rfl, hsz, hP, hK, hD0, hN⟩ := hv
  have hx := B.exec
  have hb := B.bytes
  have hr := B.returns
  have hts := fun w (h : w ∈ pw) => atoms_spec (ws := Cond.code yX3_highOnes cX3_highOnes 1 (some .long) :: pw) B.pre w (List.mem_cons_of_mem _ h)
  have hown : s.vm.findClass RX3 = some m.cls := findClass_of_methodNamed B.named
  have hlocks := B.notSynchronized
  subst hsz
  have hBB : 999 ≤ tm.2 ∧ tm.2 ≤ 6000000 := hI.2.2.2.2.1
  have hD := hD0
  obtain ⟨H, hHe⟩ : ∃ H : Heap, H = s.heap := ⟨_, rfl⟩
  have hS : va_S (fun _ => False) s.heap H [] := by rw [hHe]; exact va_S.rf
  rw [← hHe] at hP
  have hl := lv_entry ([.int p0]) (n := 1) (Nat.le_of_ble_eq_true rfl)
  rw [lg_entry_eq]
  generalize (lg_sl ([.int p0]) ++ List.replicate (1 - (lg_sl ([.int p0])).length) Slot.unset).toArray = ls at hl ⊢
  have hl : lv_has ls 1 [(0, .int p0)] := hl
  rw [← hHe]
  refine namedW (fun R Qz hR hQz => ?_)
  refine lv_iload_n hx hb dX3_highOnes_0 rfl (lv_at hl 0 rfl) ?_
  refine lv_bipush (v := 64) hx hb dX3_highOnes_1 (by decide +kernel) ?_
  refine lv_icmp_gt (tgt := 10) hx hb dX3_highOnes_3 (by decide) (fun c3 => ?_) (fun c3 => ?_)
  · have t3 := tq_lt (k := (64)) (q := p0.toInt) c3 (by decide +kernel) rfl
    refine lv_lconst (v := 1) hx hb dX3_highOnes_10 (by decide +kernel) ?_
    refine lv_iload_n hx hb dX3_highOnes_11 rfl (lv_at hl 0 rfl) ?_
    refine lv_bipush (v := 64) hx hb dX3_highOnes_12 (by decide +kernel) ?_
    refine lv_isub hx hb dX3_highOnes_14 ?_
    refine lv_topi (fun z14 ez14 => ?_)
    have rg14p0 := fb_rng p0
    have bz14 := tq_sub (k := p0.toInt) (q := (64)) ez14 rfl (by decide +kernel) (by omega) (by omega)
    refine lv_lshl hx hb dX3_highOnes_15 rfl ?_
    refine lv_topl (fun z15 ez15 => ?_)
    refine lv_lconst (v := 1) hx hb dX3_highOnes_16 (by decide +kernel) ?_
    refine lv_lsub hx hb dX3_highOnes_17 ?_
    refine lv_topl (fun z17 ez17 => ?_)
    subst hR; subst hQz
    exact W.lret (v := z17) hx hb hr (fun t ht hW => ⟨⟨z17, (), rfl, (fun hp i hi => by rw [b64_ones (k := z14.toInt.toNat) ez15 ez17 (by omega) (by omega) hi]; exact decide_eq_decide.mpr (by omega)), trivial⟩, hS.F ht⟩) hS.2.2 dX3_highOnes_18
  · have t3 := tq_nlt (k := (64)) (q := p0.toInt) c3 (by decide +kernel) rfl
    refine lv_lconst (v := 0) hx hb dX3_highOnes_6 (by decide +kernel) ?_
    refine lv_goto (tgt := 18) hx hb dX3_highOnes_7 (by decide) ?_
    subst hR; subst hQz
    exact W.lret (v := 0) hx hb hr (fun t ht hW => ⟨⟨0, (), rfl, (fun hp i hi => by rw [b64_0]; exact (decide_eq_false (by omega)).symm), trivial⟩, hS.F ht⟩) hS.2.2 dX3_highOnes_18

set_option maxHeartbeats 4000000 in
set_option maxRecDepth 100000 in
theorem s_X3_movedHigh (l : Launch) (dC : Nat → ClassId) (dI : Nat → Nat → Nat) (cs : Nat → ClassId) (L : List Nat) (K G : Nat → Nat) (Q : Nat → Nat → Option Nat) (hQ : Sv L K G Q) (x0 m0 : Nat) (tx : GT) (tm : GT × Int) (sz : Nat) (I : Nat → Nat → Int32) (J : Nat → Nat → Int64) (hI : Iv L K x0 m0 tx tm I) (p0 : Int64) (p1 : Int64) (p2 : Int32) : Met l yX3_movedHigh (.code yX3_movedHigh cX3_movedHigh 5 (some .long) :: pw) ({ frames := 0, cells := 0, slots := 0, locals := 0 }) (sP (dC, dI) cs [.long p0, .long p1, .int p2] sz L K I J Q) (va_Ql (fun (r : Int64) (_ : Unit) => (0 ≤ p2.toInt ∧ p2.toInt ≤ 127 → (∀ i : Nat, i < 64 → b64 r i = dt p0 p1 ((i : Int) + 64 - p2.toInt)))) (fun _ _ => True) (fun _ => False)) 0 0 (fun _ => False) := by
  refine Met.ofW (cc := cX3_movedHigh) (maxL := 5) (ret := (some .long)) (by decide +kernel) rfl ?_
  intro p e s m args below meth c s₁ B hml hv
  obtain ⟨rfl, hsz, hP, hK, hD0, hN⟩ := hv
  have hx := B.exec
  have hb := B.bytes
  have hr := B.returns
  have hts := fun w (h : w ∈ pw) => atoms_spec (ws := Cond.code yX3_movedHigh cX3_movedHigh 5 (some .long) :: pw) B.pre w (List.mem_cons_of_mem _ h)
  have hown : s.vm.findClass RX3 = some m.cls := findClass_of_methodNamed B.named
  have hlocks := B.notSynchronized
  subst hsz
  have hBB : 999 ≤ tm.2 ∧ tm.2 ≤ 6000000 := hI.2.2.2.2.1
  have hD := hD0
  obtain ⟨H, hHe⟩ : ∃ H : Heap, H = s.heap := ⟨_, rfl⟩
  have hS : va_S (fun _ => False) s.heap H [] := by rw [hHe]; exact va_S.rf
  rw [← hHe] at hP
  have hl := lv_entry ([.long p0, .long p1, .int p2]) (n := 5) (Nat.le_of_ble_eq_true rfl)
  rw [lg_entry_eq]
  generalize (lg_sl ([.long p0, .long p1, .int p2]) ++ List.replicate (5 - (lg_sl ([.long p0, .long p1, .int p2])).length) Slot.unset).toArray = ls at hl ⊢
  have hl : lv_has ls 5 [(0, .long p0), (2, .long p1), (4, .int p2)] := hl
  rw [← hHe]
  refine namedW (fun R Qz hR hQz => ?_)
  refine lv_iload hx hb dX3_movedHigh_0 (lv_at hl 2 rfl) ?_
  refine lv_bipush (v := 64) hx hb dX3_movedHigh_2 (by decide +kernel) ?_
  refine lv_icmp_ge (tgt := 24) hx hb dX3_movedHigh_4 (by decide) (fun c4 => ?_) (fun c4 => ?_)
  · have t4 := tq_le (k := (64)) (q := p2.toInt) c4 (by decide +kernel) rfl
    refine lv_lload_n hx hb dX3_movedHigh_24 rfl (lv_at hl 0 rfl) ?_
    refine lv_iload hx hb dX3_movedHigh_25 (lv_at hl 2 rfl) ?_
    refine lv_bipush (v := 64) hx hb dX3_movedHigh_27 (by decide +kernel) ?_
    refine lv_isub hx hb dX3_movedHigh_29 ?_
    refine lv_topi (fun z29 ez29 => ?_)
    have rg29p2 := fb_rng p2
    have bz29 := tq_sub (k := p2.toInt) (q := (64)) ez29 rfl (by decide +kernel) (by omega) (by omega)
    refine lv_lshl hx hb dX3_movedHigh_30 rfl ?_
    refine lv_topl (fun z30 ez30 => ?_)
    subst hR; subst hQz
    exact W.lret (v := z30) hx hb hr (fun t ht hW => ⟨⟨z30, (), rfl, (fun hp => mh_b (by omega) ez30 (by omega) (by omega)), trivial⟩, hS.F ht⟩) hS.2.2 dX3_movedHigh_31
  · have t4 := tq_nle (k := (64)) (q := p2.toInt) c4 (by decide +kernel) rfl
    refine lv_lload_n hx hb dX3_movedHigh_7 rfl (lv_at hl 1 rfl) ?_
    refine lv_iload hx hb dX3_movedHigh_8 (lv_at hl 2 rfl) ?_
    refine lv_lshl hx hb dX3_movedHigh_10 rfl ?_
    refine lv_topl (fun z10 ez10 => ?_)
    refine lv_lload_n hx hb dX3_movedHigh_11 rfl (lv_at hl 0 rfl) ?_
    refine lv_iconst (v := 1) hx hb dX3_movedHigh_12 (by decide +kernel) ?_
    refine lv_lushr hx hb dX3_movedHigh_13 rfl ?_
    refine lv_topl (fun z13 ez13 => ?_)
    refine lv_bipush (v := 63) hx hb dX3_movedHigh_14 (by decide +kernel) ?_
    refine lv_iload hx hb dX3_movedHigh_16 (lv_at hl 2 rfl) ?_
    refine lv_isub hx hb dX3_movedHigh_18 ?_
    refine lv_topi (fun z18 ez18 => ?_)
    refine lv_lushr hx hb dX3_movedHigh_19 rfl ?_
    refine lv_topl (fun z19 ez19 => ?_)
    refine lv_lor hx hb dX3_movedHigh_20 ?_
    refine lv_topl (fun z20 ez20 => ?_)
    refine lv_goto (tgt := 31) hx hb dX3_movedHigh_21 (by decide) ?_
    subst hR; subst hQz
    exact W.lret (v := z20) hx hb hr (fun t ht hW => ⟨⟨z20, (), rfl, (fun hp => mh_a ez10 ez13 (by have := tq_sub (k := 63) (q := p2.toInt) ez18 (by decide +kernel) rfl (by omega) (by omega); omega) ez19 ez20 (by omega) (by omega)), trivial⟩, hS.F ht⟩) hS.2.2 dX3_movedHigh_31

set_option maxHeartbeats 4000000 in
set_option maxRecDepth 100000 in
theorem s_X3_shiftedLow (l : Launch) (dC : Nat → ClassId) (dI : Nat → Nat → Nat) (cs : Nat → ClassId) (L : List Nat) (K G : Nat → Nat) (Q : Nat → Nat → Option Nat) (hQ : Sv L K G Q) (x0 m0 : Nat) (tx : GT) (tm : GT × Int) (sz : Nat) (I : Nat → Nat → Int32) (J : Nat → Nat → Int64) (hI : Iv L K x0 m0 tx tm I) (p0 : Int64) (p1 : Int64) (p2 : Int32) : Met l yX3_shiftedLow (.code yX3_shiftedLow cX3_shiftedLow 5 (some .long) :: pw) ({ frames := 0, cells := 0, slots := 0, locals := 0 }) (sP (dC, dI) cs [.long p0, .long p1, .int p2] sz L K I J Q) (va_Ql (fun (r : Int64) (_ : Unit) => (∀ i : Nat, i < 64 → b64 r i = dt p0 p1 ((i : Int) - p2.toInt))) (fun _ _ => True) (fun _ => False)) 0 0 (fun _ => False) := by
  refine Met.ofW (cc := cX3_shiftedLow) (maxL := 5) (ret := (some .long)) (by decide +kernel) rfl ?_
  intro p e s m args below meth c s₁ B hml hv
  obtain ⟨rfl, hsz, hP, hK, hD0, hN⟩ := hv
  have hx := B.exec
  have hb := B.bytes
  have hr := B.returns
  have hts := fun w (h : w ∈ pw) => atoms_spec (ws := Cond.code yX3_shiftedLow cX3_shiftedLow 5 (some .long) :: pw) B.pre w (List.mem_cons_of_mem _ h)
  have hown : s.vm.findClass RX3 = some m.cls := findClass_of_methodNamed B.named
  have hlocks := B.notSynchronized
  subst hsz
  have hBB : 999 ≤ tm.2 ∧ tm.2 ≤ 6000000 := hI.2.2.2.2.1
  have hD := hD0
  obtain ⟨H, hHe⟩ : ∃ H : Heap, H = s.heap := ⟨_, rfl⟩
  have hS : va_S (fun _ => False) s.heap H [] := by rw [hHe]; exact va_S.rf
  rw [← hHe] at hP
  have hl := lv_entry ([.long p0, .long p1, .int p2]) (n := 5) (Nat.le_of_ble_eq_true rfl)
  rw [lg_entry_eq]
  generalize (lg_sl ([.long p0, .long p1, .int p2]) ++ List.replicate (5 - (lg_sl ([.long p0, .long p1, .int p2])).length) Slot.unset).toArray = ls at hl ⊢
  have hl : lv_has ls 5 [(0, .long p0), (2, .long p1), (4, .int p2)] := hl
  rw [← hHe]
  refine namedW (fun R Qz hR hQz => ?_)
  refine lv_iload hx hb dX3_shiftedLow_0 (lv_at hl 2 rfl) ?_
  refine lv_bipush (v := 64) hx hb dX3_shiftedLow_2 (by decide +kernel) ?_
  refine lv_icmp_ge (tgt := 14) hx hb dX3_shiftedLow_4 (by decide) (fun c4 => ?_) (fun c4 => ?_)
  · have t4 := tq_le (k := (64)) (q := p2.toInt) c4 (by decide +kernel) rfl
    refine lv_lconst (v := 0) hx hb dX3_shiftedLow_14 (by decide +kernel) ?_
    subst hR; subst hQz
    exact W.lret (v := 0) hx hb hr (fun t ht hW => ⟨⟨0, (), rfl, (sl_0 (by omega)), trivial⟩, hS.F ht⟩) hS.2.2 dX3_shiftedLow_15
  · have t4 := tq_nle (k := (64)) (q := p2.toInt) c4 (by decide +kernel) rfl
    refine lv_iload hx hb dX3_shiftedLow_7 (lv_at hl 2 rfl) ?_
    refine lv_bipush (v := (-128)) hx hb dX3_shiftedLow_9 (by decide +kernel) ?_
    refine lv_icmp_gt (tgt := 16) hx hb dX3_shiftedLow_11 (by decide) (fun c11 => ?_) (fun c11 => ?_)
    · have t11 := tq_lt (k := (-128)) (q := p2.toInt) c11 (by decide +kernel) rfl
      refine lv_iload hx hb dX3_shiftedLow_16 (lv_at hl 2 rfl) ?_
      refine lv_if_lt (tgt := 26) hx hb dX3_shiftedLow_18 (by decide) (fun c18 => ?_) (fun c18 => ?_)
      · have t18 := tq_lt (k := p2.toInt) (q := (0)) c18 rfl (by decide +kernel)
        refine lv_iload hx hb dX3_shiftedLow_26 (lv_at hl 2 rfl) ?_
        refine lv_bipush (v := (-64)) hx hb dX3_shiftedLow_28 (by decide +kernel) ?_
        refine lv_icmp_le (tgt := 49) hx hb dX3_shiftedLow_30 (by decide) (fun c30 => ?_) (fun c30 => ?_)
        · have t30 := tq_le (k := p2.toInt) (q := (-64)) c30 rfl (by decide +kernel)
          refine lv_lload_n hx hb dX3_shiftedLow_49 rfl (lv_at hl 1 rfl) ?_
          refine lv_iload hx hb dX3_shiftedLow_50 (lv_at hl 2 rfl) ?_
          refine lv_ineg hx hb dX3_shiftedLow_52 ?_
          refine lv_topi (fun z52 ez52 => ?_)
          have bz52 := tq_neg (k := p2.toInt) ez52 rfl (by omega) (by omega)
          refine lv_bipush (v := 64) hx hb dX3_shiftedLow_53 (by decide +kernel) ?_
          refine lv_isub hx hb dX3_shiftedLow_55 ?_
          refine lv_topi (fun z55 ez55 => ?_)
          have bz55 := tq_sub (k := z52.toInt) (q := (64)) ez55 rfl (by decide +kernel) (by omega) (by omega)
          refine lv_lushr hx hb dX3_shiftedLow_56 rfl ?_
          refine lv_topl (fun z56 ez56 => ?_)
          subst hR; subst hQz
          exact W.lret (v := z56) hx hb hr (fun t ht hW => ⟨⟨z56, (), rfl, (sl_c (by omega) ez56 (by omega) (by omega)), trivial⟩, hS.F ht⟩) hS.2.2 dX3_shiftedLow_57
        · have t30 := tq_nle (k := p2.toInt) (q := (-64)) c30 rfl (by decide +kernel)
          refine lv_lload_n hx hb dX3_shiftedLow_33 rfl (lv_at hl 0 rfl) ?_
          refine lv_iload hx hb dX3_shiftedLow_34 (lv_at hl 2 rfl) ?_
          refine lv_ineg hx hb dX3_shiftedLow_36 ?_
          refine lv_topi (fun z36 ez36 => ?_)
          have bz36 := tq_neg (k := p2.toInt) ez36 rfl (by omega) (by omega)
          refine lv_lushr hx hb dX3_shiftedLow_37 rfl ?_
          refine lv_topl (fun z37 ez37 => ?_)
          refine lv_lload_n hx hb dX3_shiftedLow_38 rfl (lv_at hl 1 rfl) ?_
          refine lv_bipush (v := 64) hx hb dX3_shiftedLow_39 (by decide +kernel) ?_
          refine lv_iload hx hb dX3_shiftedLow_41 (lv_at hl 2 rfl) ?_
          refine lv_iadd hx hb dX3_shiftedLow_43 ?_
          refine lv_topi (fun z43 ez43 => ?_)
          have bz43 := tq_add (k := (64)) (q := p2.toInt) ez43 (by decide +kernel) rfl (by omega) (by omega)
          refine lv_lshl hx hb dX3_shiftedLow_44 rfl ?_
          refine lv_topl (fun z44 ez44 => ?_)
          refine lv_lor hx hb dX3_shiftedLow_45 ?_
          refine lv_topl (fun z45 ez45 => ?_)
          refine lv_goto (tgt := 57) hx hb dX3_shiftedLow_46 (by decide) ?_
          subst hR; subst hQz
          exact W.lret (v := z45) hx hb hr (fun t ht hW => ⟨⟨z45, (), rfl, (sl_b bz36 ez37 bz43 ez44 ez45 (by omega) (by omega)), trivial⟩, hS.F ht⟩) hS.2.2 dX3_shiftedLow_57
      · have t18 := tq_nlt (k := p2.toInt) (q := (0)) c18 rfl (by decide +kernel)
        refine lv_lload_n hx hb dX3_shiftedLow_21 rfl (lv_at hl 0 rfl) ?_
        refine lv_iload hx hb dX3_shiftedLow_22 (lv_at hl 2 rfl) ?_
        refine lv_lshl hx hb dX3_shiftedLow_24 rfl ?_
        refine lv_topl (fun z24 ez24 => ?_)
        subst hR; subst hQz
        exact W.lret (v := z24) hx hb hr (fun t ht hW => ⟨⟨z24, (), rfl, (sl_a ez24 (by omega) (by omega)), trivial⟩, hS.F ht⟩) hS.2.2 dX3_shiftedLow_25
    · have t11 := tq_nlt (k := (-128)) (q := p2.toInt) c11 (by decide +kernel) rfl
      refine lv_lconst (v := 0) hx hb dX3_shiftedLow_14 (by decide +kernel) ?_
      subst hR; subst hQz
      exact W.lret (v := 0) hx hb hr (fun t ht hW => ⟨⟨0, (), rfl, (sl_0 (by omega)), trivial⟩, hS.F ht⟩) hS.2.2 dX3_shiftedLow_15

set_option maxHeartbeats 4000000 in
set_option maxRecDepth 100000 in
theorem s_X3_shiftedHigh (l : Launch) (dC : Nat → ClassId) (dI : Nat → Nat → Nat) (cs : Nat → ClassId) (L : List Nat) (K G : Nat → Nat) (Q : Nat → Nat → Option Nat) (hQ : Sv L K G Q) (x0 m0 : Nat) (tx : GT) (tm : GT × Int) (sz : Nat) (I : Nat → Nat → Int32) (J : Nat → Nat → Int64) (hI : Iv L K x0 m0 tx tm I) (p0 : Int64) (p1 : Int64) (p2 : Int32) : Met l yX3_shiftedHigh (.code yX3_shiftedHigh cX3_shiftedHigh 5 (some .long) :: pw) ({ frames := 1, cells := 0, slots := 0, locals := 24 }) (sP (dC, dI) cs [.long p0, .long p1, .int p2] sz L K I J Q) (va_Ql (fun (r : Int64) (_ : Unit) => (∀ i : Nat, i < 64 → b64 r i = dt p0 p1 ((i : Int) + 64 - p2.toInt))) (fun _ _ => True) (fun _ => False)) 0 0 (fun _ => False) := by
  refine Met.ofW (cc := cX3_shiftedHigh) (maxL := 5) (ret := (some .long)) (by decide +kernel) rfl ?_
  intro p e s m args below meth c s₁ B hml hv
  obtain ⟨rfl, hsz, hP, hK, hD0, hN⟩ := hv
  have hx := B.exec
  have hb := B.bytes
  have hr := B.returns
  have hts := fun w (h : w ∈ pw) => atoms_spec (ws := Cond.code yX3_shiftedHigh cX3_shiftedHigh 5 (some .long) :: pw) B.pre w (List.mem_cons_of_mem _ h)
  have hown : s.vm.findClass RX3 = some m.cls := findClass_of_methodNamed B.named
  have hlocks := B.notSynchronized
  subst hsz
  have hBB : 999 ≤ tm.2 ∧ tm.2 ≤ 6000000 := hI.2.2.2.2.1
  have hD := hD0
  obtain ⟨H, hHe⟩ : ∃ H : Heap, H = s.heap := ⟨_, rfl⟩
  have hS : va_S (fun _ => False) s.heap H [] := by rw [hHe]; exact va_S.rf
  rw [← hHe] at hP
  have hl := lv_entry ([.long p0, .long p1, .int p2]) (n := 5) (Nat.le_of_ble_eq_true rfl)
  rw [lg_entry_eq]
  generalize (lg_sl ([.long p0, .long p1, .int p2]) ++ List.replicate (5 - (lg_sl ([.long p0, .long p1, .int p2])).length) Slot.unset).toArray = ls at hl ⊢
  have hl : lv_has ls 5 [(0, .long p0), (2, .long p1), (4, .int p2)] := hl
  rw [← hHe]
  refine namedW (fun R Qz hR hQz => ?_)
  refine lv_iload hx hb dX3_shiftedHigh_0 (lv_at hl 2 rfl) ?_
  refine lv_sipush (v := 128) hx hb dX3_shiftedHigh_2 (by decide +kernel) ?_
  refine lv_icmp_ge (tgt := 15) hx hb dX3_shiftedHigh_5 (by decide) (fun c5 => ?_) (fun c5 => ?_)
  · have t5 := tq_le (k := (128)) (q := p2.toInt) c5 (by decide +kernel) rfl
    refine lv_lconst (v := 0) hx hb dX3_shiftedHigh_15 (by decide +kernel) ?_
    subst hR; subst hQz
    exact W.lret (v := 0) hx hb hr (fun t ht hW => ⟨⟨0, (), rfl, (sh_0 (by omega)), trivial⟩, hS.F ht⟩) hS.2.2 dX3_shiftedHigh_16
  · have t5 := tq_nle (k := (128)) (q := p2.toInt) c5 (by decide +kernel) rfl
    refine lv_iload hx hb dX3_shiftedHigh_8 (lv_at hl 2 rfl) ?_
    refine lv_bipush (v := (-64)) hx hb dX3_shiftedHigh_10 (by decide +kernel) ?_
    refine lv_icmp_gt (tgt := 17) hx hb dX3_shiftedHigh_12 (by decide) (fun c12 => ?_) (fun c12 => ?_)
    · have t12 := tq_lt (k := (-64)) (q := p2.toInt) c12 (by decide +kernel) rfl
      refine lv_iload hx hb dX3_shiftedHigh_17 (lv_at hl 2 rfl) ?_
      refine lv_if_lt (tgt := 32) hx hb dX3_shiftedHigh_19 (by decide) (fun c19 => ?_) (fun c19 => ?_)
      · have t19 := tq_lt (k := p2.toInt) (q := (0)) c19 rfl (by decide +kernel)
        refine lv_lload_n hx hb dX3_shiftedHigh_32 rfl (lv_at hl 1 rfl) ?_
        refine lv_iload hx hb dX3_shiftedHigh_33 (lv_at hl 2 rfl) ?_
        refine lv_ineg hx hb dX3_shiftedHigh_35 ?_
        refine lv_topi (fun z35 ez35 => ?_)
        have bz35 := tq_neg (k := p2.toInt) ez35 rfl (by omega) (by omega)
        refine lv_lushr hx hb dX3_shiftedHigh_36 rfl ?_
        refine lv_topl (fun z36 ez36 => ?_)
        subst hR; subst hQz
        exact W.lret (v := z36) hx hb hr (fun t ht hW => ⟨⟨z36, (), rfl, (sh_c bz35 ez36 (by omega) (by omega)), trivial⟩, hS.F ht⟩) hS.2.2 dX3_shiftedHigh_37
      · have t19 := tq_nlt (k := p2.toInt) (q := (0)) c19 rfl (by decide +kernel)
        refine lv_lload_n hx hb dX3_shiftedHigh_22 rfl (lv_at hl 0 rfl) ?_
        refine lv_lload_n hx hb dX3_shiftedHigh_23 rfl (lv_at hl 1 rfl) ?_
        refine lv_iload hx hb dX3_shiftedHigh_24 (lv_at hl 2 rfl) ?_
        refine ro_l (va_runS (As := [.long p0, .long p1, .int p2]) (rest := []) ⟨hx, hb, hml, hown, hts⟩ (s_X3_movedHigh l dC dI cs L K G Q hQ x0 m0 tx tm H.size I J hI p0 p1 p2) (va_cwS 3 hts (gS pq628 pq629 pq76 pq630) rfl rfl rfl (by decide +kernel) ⟨(by rw [hR]; exact (Nat.le_of_ble_eq_true rfl)), (by rw [hR]; exact (Nat.le_of_ble_eq_true rfl))⟩) (sP_S hP hD hK hN) rfl rfl hl.1 rfl (lv_room (Nat.le_of_ble_eq_true rfl)) dX3_shiftedHigh_26 ⟨(by rw [hR]; exact (Nat.le_of_ble_eq_true rfl)), (by rw [hR]; exact (Nat.le_of_ble_eq_true rfl))⟩) hS hP (fun z26 H locs hz26 hP hS => ?_)
        have xpz26 := hz26
        refine lv_goto (tgt := 37) hx hb dX3_shiftedHigh_29 (by decide) ?_
        subst hR; subst hQz
        exact W.lret (v := z26) hx hb hr (fun t ht hW => ⟨⟨z26, (), rfl, (xpz26 ⟨by omega, by omega⟩), trivial⟩, hS.F ht⟩) hS.2.2 dX3_shiftedHigh_37
    · have t12 := tq_nlt (k := (-64)) (q := p2.toInt) c12 (by decide +kernel) rfl
      refine lv_lconst (v := 0) hx hb dX3_shiftedHigh_15 (by decide +kernel) ?_
      subst hR; subst hQz
      exact W.lret (v := 0) hx hb hr (fun t ht hW => ⟨⟨0, (), rfl, (sh_0 (by omega)), trivial⟩, hS.F ht⟩) hS.2.2 dX3_shiftedHigh_16

set_option maxHeartbeats 4000000 in
set_option maxRecDepth 100000 in
theorem s_X3_reversed (l : Launch) (dC : Nat → ClassId) (dI : Nat → Nat → Nat) (cs : Nat → ClassId) (L : List Nat) (K G : Nat → Nat) (Q : Nat → Nat → Option Nat) (hQ : Sv L K G Q) (x0 m0 : Nat) (tx : GT) (tm : GT × Int) (sz : Nat) (I : Nat → Nat → Int32) (J : Nat → Nat → Int64) (hI : Iv L K x0 m0 tx tm I) (p0 : Int64) : Met l yX3_reversed (.code yX3_reversed cX3_reversed 4 (some .long) :: pw) ({ frames := 0, cells := 0, slots := 0, locals := 0 }) (sP (dC, dI) cs [.long p0] sz L K I J Q) (va_Ql (fun (r : Int64) (_ : Unit) => (∀ i : Nat, i < 64 → b64 r i = b64 p0 (63 - i))) (fun _ _ => True) (fun _ => False)) 0 0 (fun _ => False) := by
  refine Met.ofW (cc := cX3_reversed) (maxL := 4) (ret := (some .long)) (by decide +kernel) rfl ?_
  intro p e s m args below meth c s₁ B hml hv
  obtain ⟨rfl, hsz, hP, hK, hD0, hN⟩ := hv
  have hx := B.exec
  have hb := B.bytes
  have hr := B.returns
  have hts := fun w (h : w ∈ pw) => atoms_spec (ws := Cond.code yX3_reversed cX3_reversed 4 (some .long) :: pw) B.pre w (List.mem_cons_of_mem _ h)
  have hown : s.vm.findClass RX3 = some m.cls := findClass_of_methodNamed B.named
  have hlocks := B.notSynchronized
  subst hsz
  have hBB : 999 ≤ tm.2 ∧ tm.2 ≤ 6000000 := hI.2.2.2.2.1
  have hD := hD0
  obtain ⟨H, hHe⟩ : ∃ H : Heap, H = s.heap := ⟨_, rfl⟩
  have hS : va_S (fun _ => False) s.heap H [] := by rw [hHe]; exact va_S.rf
  rw [← hHe] at hP
  have hl := lv_entry ([.long p0]) (n := 4) (Nat.le_of_ble_eq_true rfl)
  rw [lg_entry_eq]
  generalize (lg_sl ([.long p0]) ++ List.replicate (4 - (lg_sl ([.long p0])).length) Slot.unset).toArray = ls at hl ⊢
  have hl : lv_has ls 4 [(0, .long p0)] := hl
  rw [← hHe]
  refine namedW (fun R Qz hR hQz => ?_)
  refine lv_lload_n hx hb dX3_reversed_0 rfl (lv_at hl 0 rfl) ?_
  refine lv_lstore_n (lv' := [(2, .long p0), (0, .long p0)]) hx hb dX3_reversed_1 rfl hl (by decide) rfl (fun ls hl => ?_)
  refine lv_lload_n hx hb dX3_reversed_2 rfl (lv_at hl 0 rfl) ?_
  refine lv_ldc2 hx hb hown (hts _ pq617) dX3_reversed_3 ?_
  refine lv_land hx hb dX3_reversed_6 ?_
  refine lv_topl (fun z6 ez6 => ?_)
  refine lv_iconst (v := 1) hx hb dX3_reversed_7 (by decide +kernel) ?_
  refine lv_lshl hx hb dX3_reversed_8 rfl ?_
  refine lv_topl (fun z8 ez8 => ?_)
  refine lv_lload_n hx hb dX3_reversed_9 rfl (lv_at hl 0 rfl) ?_
  refine lv_iconst (v := 1) hx hb dX3_reversed_10 (by decide +kernel) ?_
  refine lv_lushr hx hb dX3_reversed_11 rfl ?_
  refine lv_topl (fun z11 ez11 => ?_)
  refine lv_ldc2 hx hb hown (hts _ pq617) dX3_reversed_12 ?_
  refine lv_land hx hb dX3_reversed_15 ?_
  refine lv_topl (fun z15 ez15 => ?_)
  refine lv_lor hx hb dX3_reversed_16 ?_
  refine lv_topl (fun z16 ez16 => ?_)
  refine lv_lstore_n (lv' := [(2, .long z16), (0, .long p0)]) hx hb dX3_reversed_17 rfl hl (by decide) rfl (fun ls hl => ?_)
  refine lv_lload_n hx hb dX3_reversed_18 rfl (lv_at hl 0 rfl) ?_
  refine lv_ldc2 hx hb hown (hts _ pq618) dX3_reversed_19 ?_
  refine lv_land hx hb dX3_reversed_22 ?_
  refine lv_topl (fun z22 ez22 => ?_)
  refine lv_iconst (v := 2) hx hb dX3_reversed_23 (by decide +kernel) ?_
  refine lv_lshl hx hb dX3_reversed_24 rfl ?_
  refine lv_topl (fun z24 ez24 => ?_)
  refine lv_lload_n hx hb dX3_reversed_25 rfl (lv_at hl 0 rfl) ?_
  refine lv_iconst (v := 2) hx hb dX3_reversed_26 (by decide +kernel) ?_
  refine lv_lushr hx hb dX3_reversed_27 rfl ?_
  refine lv_topl (fun z27 ez27 => ?_)
  refine lv_ldc2 hx hb hown (hts _ pq618) dX3_reversed_28 ?_
  refine lv_land hx hb dX3_reversed_31 ?_
  refine lv_topl (fun z31 ez31 => ?_)
  refine lv_lor hx hb dX3_reversed_32 ?_
  refine lv_topl (fun z32 ez32 => ?_)
  refine lv_lstore_n (lv' := [(2, .long z32), (0, .long p0)]) hx hb dX3_reversed_33 rfl hl (by decide) rfl (fun ls hl => ?_)
  refine lv_lload_n hx hb dX3_reversed_34 rfl (lv_at hl 0 rfl) ?_
  refine lv_ldc2 hx hb hown (hts _ pq619) dX3_reversed_35 ?_
  refine lv_land hx hb dX3_reversed_38 ?_
  refine lv_topl (fun z38 ez38 => ?_)
  refine lv_iconst (v := 4) hx hb dX3_reversed_39 (by decide +kernel) ?_
  refine lv_lshl hx hb dX3_reversed_40 rfl ?_
  refine lv_topl (fun z40 ez40 => ?_)
  refine lv_lload_n hx hb dX3_reversed_41 rfl (lv_at hl 0 rfl) ?_
  refine lv_iconst (v := 4) hx hb dX3_reversed_42 (by decide +kernel) ?_
  refine lv_lushr hx hb dX3_reversed_43 rfl ?_
  refine lv_topl (fun z43 ez43 => ?_)
  refine lv_ldc2 hx hb hown (hts _ pq619) dX3_reversed_44 ?_
  refine lv_land hx hb dX3_reversed_47 ?_
  refine lv_topl (fun z47 ez47 => ?_)
  refine lv_lor hx hb dX3_reversed_48 ?_
  refine lv_topl (fun z48 ez48 => ?_)
  refine lv_lstore_n (lv' := [(2, .long z48), (0, .long p0)]) hx hb dX3_reversed_49 rfl hl (by decide) rfl (fun ls hl => ?_)
  refine lv_lload_n hx hb dX3_reversed_50 rfl (lv_at hl 0 rfl) ?_
  refine lv_ldc2 hx hb hown (hts _ pq620) dX3_reversed_51 ?_
  refine lv_land hx hb dX3_reversed_54 ?_
  refine lv_topl (fun z54 ez54 => ?_)
  refine lv_bipush (v := 8) hx hb dX3_reversed_55 (by decide +kernel) ?_
  refine lv_lshl hx hb dX3_reversed_57 rfl ?_
  refine lv_topl (fun z57 ez57 => ?_)
  refine lv_lload_n hx hb dX3_reversed_58 rfl (lv_at hl 0 rfl) ?_
  refine lv_bipush (v := 8) hx hb dX3_reversed_59 (by decide +kernel) ?_
  refine lv_lushr hx hb dX3_reversed_61 rfl ?_
  refine lv_topl (fun z61 ez61 => ?_)
  refine lv_ldc2 hx hb hown (hts _ pq620) dX3_reversed_62 ?_
  refine lv_land hx hb dX3_reversed_65 ?_
  refine lv_topl (fun z65 ez65 => ?_)
  refine lv_lor hx hb dX3_reversed_66 ?_
  refine lv_topl (fun z66 ez66 => ?_)
  refine lv_lstore_n (lv' := [(2, .long z66), (0, .long p0)]) hx hb dX3_reversed_67 rfl hl (by decide) rfl (fun ls hl => ?_)
  refine lv_lload_n hx hb dX3_reversed_68 rfl (lv_at hl 0 rfl) ?_
  refine lv_ldc2 hx hb hown (hts _ pq621) dX3_reversed_69 ?_
  refine lv_land hx hb dX3_reversed_72 ?_
  refine lv_topl (fun z72 ez72 => ?_)
  refine lv_bipush (v := 16) hx hb dX3_reversed_73 (by decide +kernel) ?_
  refine lv_lshl hx hb dX3_reversed_75 rfl ?_
  refine lv_topl (fun z75 ez75 => ?_)
  refine lv_lload_n hx hb dX3_reversed_76 rfl (lv_at hl 0 rfl) ?_
  refine lv_bipush (v := 16) hx hb dX3_reversed_77 (by decide +kernel) ?_
  refine lv_lushr hx hb dX3_reversed_79 rfl ?_
  refine lv_topl (fun z79 ez79 => ?_)
  refine lv_ldc2 hx hb hown (hts _ pq621) dX3_reversed_80 ?_
  refine lv_land hx hb dX3_reversed_83 ?_
  refine lv_topl (fun z83 ez83 => ?_)
  refine lv_lor hx hb dX3_reversed_84 ?_
  refine lv_topl (fun z84 ez84 => ?_)
  refine lv_lstore_n (lv' := [(2, .long z84), (0, .long p0)]) hx hb dX3_reversed_85 rfl hl (by decide) rfl (fun ls hl => ?_)
  refine lv_lload_n hx hb dX3_reversed_86 rfl (lv_at hl 0 rfl) ?_
  refine lv_bipush (v := 32) hx hb dX3_reversed_87 (by decide +kernel) ?_
  refine lv_lshl hx hb dX3_reversed_89 rfl ?_
  refine lv_topl (fun z89 ez89 => ?_)
  refine lv_lload_n hx hb dX3_reversed_90 rfl (lv_at hl 0 rfl) ?_
  refine lv_bipush (v := 32) hx hb dX3_reversed_91 (by decide +kernel) ?_
  refine lv_lushr hx hb dX3_reversed_93 rfl ?_
  refine lv_topl (fun z93 ez93 => ?_)
  refine lv_lor hx hb dX3_reversed_94 ?_
  refine lv_topl (fun z94 ez94 => ?_)
  subst hR; subst hQz
  exact W.lret (v := z94) hx hb hr (fun t ht hW => ⟨⟨z94, (), rfl, (rv_all (fun i hi => rv_st (s := 1) ez6 ez8 ez11 ez15 ez16 (by decide +kernel) (by decide) (by decide) (by decide +kernel) (by decide +kernel) hi) (fun i hi => rv_st (s := 2) ez22 ez24 ez27 ez31 ez32 (by decide +kernel) (by decide) (by decide) (by decide +kernel) (by decide +kernel) hi) (fun i hi => rv_st (s := 4) ez38 ez40 ez43 ez47 ez48 (by decide +kernel) (by decide) (by decide) (by decide +kernel) (by decide +kernel) hi) (fun i hi => rv_st (s := 8) ez54 ez57 ez61 ez65 ez66 (by decide +kernel) (by decide) (by decide) (by decide +kernel) (by decide +kernel) hi) (fun i hi => rv_st (s := 16) ez72 ez75 ez79 ez83 ez84 (by decide +kernel) (by decide) (by decide) (by decide +kernel) (by decide +kernel) hi) (fun i hi => rv_end ez89 ez93 ez94 hi)), trivial⟩, hS.F ht⟩) hS.2.2 dX3_reversed_95

set_option maxHeartbeats 4000000 in
set_option maxRecDepth 100000 in
theorem s_X3_isInside (l : Launch) (dC : Nat → ClassId) (dI : Nat → Nat → Nat) (cs : Nat → ClassId) (L : List Nat) (K G : Nat → Nat) (Q : Nat → Nat → Option Nat) (hQ : Sv L K G Q) (x0 m0 : Nat) (tx : GT) (tm : GT × Int) (sz : Nat) (I : Nat → Nat → Int32) (J : Nat → Nat → Int64) (hI : Iv L K x0 m0 tx tm I) (p0 : Nat) (hLp0 : p0 ∈ L) (hKp0 : K p0 = 3) (p1 : Int32) (p2 : Int32) : Met l yX3_isInside (.code yX3_isInside cX3_isInside 3 (some .boolean) :: pw) ({ frames := 0, cells := 0, slots := 0, locals := 0 }) (sP (dC, dI) cs [.ref p0, .int p1, .int p2] sz L K I J Q) (va_Qi (fun (r : Int32) (_ : Unit) => ((0) ≤ r.toInt ∧ r.toInt ≤ 1) ∧ (¬ r.toInt = 0 → ((0) ≤ p1.toInt ∧ p1.toInt ≤ (127)) ∧ ((0) ≤ p2.toInt ∧ p2.toInt ≤ (39))) ∧ ((¬ r.toInt = 0 → (0 ≤ p1.toInt ∧ p1.toInt < (I p0 0).toInt ∧ 0 ≤ p2.toInt ∧ p2.toInt < (I p0 1).toInt)) ∧ (r.toInt = 0 → ¬ (0 ≤ p1.toInt ∧ p1.toInt < (I p0 0).toInt ∧ 0 ≤ p2.toInt ∧ p2.toInt < (I p0 1).toInt)))) (fun _ _ => True) (fun _ => False)) 0 0 (fun _ => False) := by
  refine Met.ofW (cc := cX3_isInside) (maxL := 3) (ret := (some .boolean)) (by decide +kernel) rfl ?_
  intro p e s m args below meth c s₁ B hml hv
  obtain ⟨rfl, hsz, hP, hK, hD0, hN⟩ := hv
  have hx := B.exec
  have hb := B.bytes
  have hr := B.returns
  have hts := fun w (h : w ∈ pw) => atoms_spec (ws := Cond.code yX3_isInside cX3_isInside 3 (some .boolean) :: pw) B.pre w (List.mem_cons_of_mem _ h)
  have hown : s.vm.findClass RX3 = some m.cls := findClass_of_methodNamed B.named
  have hlocks := B.notSynchronized
  subst hsz
  have hBB : 999 ≤ tm.2 ∧ tm.2 ≤ 6000000 := hI.2.2.2.2.1
  have hD := hD0
  obtain ⟨H, hHe⟩ : ∃ H : Heap, H = s.heap := ⟨_, rfl⟩
  have hS : va_S (fun _ => False) s.heap H [] := by rw [hHe]; exact va_S.rf
  rw [← hHe] at hP
  have hl := lv_entry ([.ref p0, .int p1, .int p2]) (n := 3) (Nat.le_of_ble_eq_true rfl)
  rw [lg_entry_eq]
  generalize (lg_sl ([.ref p0, .int p1, .int p2]) ++ List.replicate (3 - (lg_sl ([.ref p0, .int p1, .int p2])).length) Slot.unset).toArray = ls at hl ⊢
  have hl : lv_has ls 3 [(0, .ref p0), (1, .int p1), (2, .int p2)] := hl
  rw [← hHe]
  refine namedW (fun R Qz hR hQz => ?_)
  refine lv_iload_n hx hb dX3_isInside_0 rfl (lv_at hl 1 rfl) ?_
  refine lv_if_lt (tgt := 28) hx hb dX3_isInside_1 (by decide) (fun c1 => ?_) (fun c1 => ?_)
  · have t1 := tq_lt (k := p1.toInt) (q := (0)) c1 rfl (by decide +kernel)
    refine lv_iconst (v := 0) hx hb dX3_isInside_28 (by decide +kernel) ?_
    subst hR; subst hQz
    exact W.zret (v := 0) hx hb hr (by decide +kernel) (fun t ht hW => ⟨⟨0, (), rfl, ⟨⟨by decide +kernel, by decide +kernel⟩, fun h => absurd (by decide +kernel) h, ⟨fun h => absurd (by decide +kernel) h, fun _ h => by first | omega | (rw [← ez6, ← ez18] at h; omega) | (rw [← ez6] at h; omega)⟩⟩, trivial⟩, hS.F ht⟩) hS.2.2 dX3_isInside_29
  · have t1 := tq_nlt (k := p1.toInt) (q := (0)) c1 rfl (by decide +kernel)
    refine lv_iload_n hx hb dX3_isInside_4 rfl (lv_at hl 1 rfl) ?_
    refine lv_aload_n hx hb dX3_isInside_5 rfl (lv_at hl 0 rfl) ?_
    refine p_get hx hb hts inX3 hown hK hP hLp0 hKp0 rfl rfl 0 (by decide) (hts _ pq116) rfl dX3_isInside_6 ?_
    refine lv_topi (fun z6 ez6 => ?_)
    have bz6 := oI_3_0 (Iv_at hI hLp0 hKp0)
    rw [← ez6] at bz6
    refine lv_icmp_ge (tgt := 28) hx hb dX3_isInside_9 (by decide) (fun c9 => ?_) (fun c9 => ?_)
    · have t9 := tq_le (k := z6.toInt) (q := p1.toInt) c9 rfl rfl
      refine lv_iconst (v := 0) hx hb dX3_isInside_28 (by decide +kernel) ?_
      subst hR; subst hQz
      exact W.zret (v := 0) hx hb hr (by decide +kernel) (fun t ht hW => ⟨⟨0, (), rfl, ⟨⟨by decide +kernel, by decide +kernel⟩, fun h => absurd (by decide +kernel) h, ⟨fun h => absurd (by decide +kernel) h, fun _ h => by first | omega | (rw [← ez6, ← ez18] at h; omega) | (rw [← ez6] at h; omega)⟩⟩, trivial⟩, hS.F ht⟩) hS.2.2 dX3_isInside_29
    · have t9 := tq_nle (k := z6.toInt) (q := p1.toInt) c9 rfl rfl
      refine lv_iload_n hx hb dX3_isInside_12 rfl (lv_at hl 2 rfl) ?_
      refine lv_if_lt (tgt := 28) hx hb dX3_isInside_13 (by decide) (fun c13 => ?_) (fun c13 => ?_)
      · have t13 := tq_lt (k := p2.toInt) (q := (0)) c13 rfl (by decide +kernel)
        refine lv_iconst (v := 0) hx hb dX3_isInside_28 (by decide +kernel) ?_
        subst hR; subst hQz
        exact W.zret (v := 0) hx hb hr (by decide +kernel) (fun t ht hW => ⟨⟨0, (), rfl, ⟨⟨by decide +kernel, by decide +kernel⟩, fun h => absurd (by decide +kernel) h, ⟨fun h => absurd (by decide +kernel) h, fun _ h => by first | omega | (rw [← ez6, ← ez18] at h; omega) | (rw [← ez6] at h; omega)⟩⟩, trivial⟩, hS.F ht⟩) hS.2.2 dX3_isInside_29
      · have t13 := tq_nlt (k := p2.toInt) (q := (0)) c13 rfl (by decide +kernel)
        refine lv_iload_n hx hb dX3_isInside_16 rfl (lv_at hl 2 rfl) ?_
        refine lv_aload_n hx hb dX3_isInside_17 rfl (lv_at hl 0 rfl) ?_
        refine p_get hx hb hts inX3 hown hK hP hLp0 hKp0 rfl rfl 1 (by decide) (hts _ pq120) rfl dX3_isInside_18 ?_
        refine lv_topi (fun z18 ez18 => ?_)
        have bz18 := oI_3_1 (Iv_at hI hLp0 hKp0)
        rw [← ez18] at bz18
        refine lv_icmp_ge (tgt := 28) hx hb dX3_isInside_21 (by decide) (fun c21 => ?_) (fun c21 => ?_)
        · have t21 := tq_le (k := z18.toInt) (q := p2.toInt) c21 rfl rfl
          refine lv_iconst (v := 0) hx hb dX3_isInside_28 (by decide +kernel) ?_
          subst hR; subst hQz
          exact W.zret (v := 0) hx hb hr (by decide +kernel) (fun t ht hW => ⟨⟨0, (), rfl, ⟨⟨by decide +kernel, by decide +kernel⟩, fun h => absurd (by decide +kernel) h, ⟨fun h => absurd (by decide +kernel) h, fun _ h => by first | omega | (rw [← ez6, ← ez18] at h; omega) | (rw [← ez6] at h; omega)⟩⟩, trivial⟩, hS.F ht⟩) hS.2.2 dX3_isInside_29
        · have t21 := tq_nle (k := z18.toInt) (q := p2.toInt) c21 rfl rfl
          refine lv_iconst (v := 1) hx hb dX3_isInside_24 (by decide +kernel) ?_
          refine lv_goto (tgt := 29) hx hb dX3_isInside_25 (by decide) ?_
          subst hR; subst hQz
          exact W.zret (v := 1) hx hb hr (by decide +kernel) (fun t ht hW => ⟨⟨1, (), rfl, ⟨⟨by decide +kernel, by decide +kernel⟩, fun _ => ⟨⟨by omega, by omega⟩, ⟨by omega, by omega⟩⟩, ⟨fun _ => by rw [← ez6, ← ez18]; exact ⟨by omega, by omega, by omega, by omega⟩, fun h => absurd h (by decide +kernel)⟩⟩, trivial⟩, hS.F ht⟩) hS.2.2 dX3_isInside_29

set_option maxHeartbeats 4000000 in
set_option maxRecDepth 100000 in
theorem s_X3_holds (l : Launch) (dC : Nat → ClassId) (dI : Nat → Nat → Nat) (cs : Nat → ClassId) (L : List Nat) (K G : Nat → Nat) (Q : Nat → Nat → Option Nat) (hQ : Sv L K G Q) (x0 m0 : Nat) (tx : GT) (tm : GT × Int) (sz : Nat) (I : Nat → Nat → Int32) (J : Nat → Nat → Int64) (hI : Iv L K x0 m0 tx tm I) (p0 : Nat) (hLp0 : p0 ∈ L) (hKp0 : K p0 = 3) (p1 : Int32) (p2 : Int32) : Met l yX3_holds (.code yX3_holds cX3_holds 3 (some .boolean) :: pw) ({ frames := 1, cells := 0, slots := 0, locals := 22 }) (sP (dC, dI) cs [.ref p0, .int p1, .int p2] sz L K I J Q) (va_Qi (fun (r : Int32) (_ : Unit) => ((0) ≤ r.toInt ∧ r.toInt ≤ 1) ∧ (r.toInt = bi (hs (I p0 0).toInt (I p0 1).toInt (J (wo Q p0)) p1.toInt p2.toInt))) (fun _ _ => True) (fun _ => False)) 0 0 (fun _ => False) := by
  refine Met.ofW (cc := cX3_holds) (maxL := 3) (ret := (some .boolean)) (by decide +kernel) rfl ?_
  intro p e s m args below meth c s₁ B hml hv
  obtain ⟨rfl, hsz, hP, hK, hD0, hN⟩ := hv
  have hx := B.exec
  have hb := B.bytes
  have hr := B.returns
  have hts := fun w (h : w ∈ pw) => atoms_spec (ws := Cond.code yX3_holds cX3_holds 3 (some .boolean) :: pw) B.pre w (List.mem_cons_of_mem _ h)
  have hown : s.vm.findClass RX3 = some m.cls := findClass_of_methodNamed B.named
  have hlocks := B.notSynchronized
  subst hsz
  have hBB : 999 ≤ tm.2 ∧ tm.2 ≤ 6000000 := hI.2.2.2.2.1
  have hD := hD0
  obtain ⟨H, hHe⟩ : ∃ H : Heap, H = s.heap := ⟨_, rfl⟩
  have hS : va_S (fun _ => False) s.heap H [] := by rw [hHe]; exact va_S.rf
  rw [← hHe] at hP
  have hl := lv_entry ([.ref p0, .int p1, .int p2]) (n := 3) (Nat.le_of_ble_eq_true rfl)
  rw [lg_entry_eq]
  generalize (lg_sl ([.ref p0, .int p1, .int p2]) ++ List.replicate (3 - (lg_sl ([.ref p0, .int p1, .int p2])).length) Slot.unset).toArray = ls at hl ⊢
  have hl : lv_has ls 3 [(0, .ref p0), (1, .int p1), (2, .int p2)] := hl
  rw [← hHe]
  refine namedW (fun R Qz hR hQz => ?_)
  refine lv_aload_n hx hb dX3_holds_0 rfl (lv_at hl 0 rfl) ?_
  refine lv_iload_n hx hb dX3_holds_1 rfl (lv_at hl 1 rfl) ?_
  refine lv_iload_n hx hb dX3_holds_2 rfl (lv_at hl 2 rfl) ?_
  refine ro_i (va_runV (As := [.int p1, .int p2]) (rest := []) ⟨hx, hb, hml, hown, hts⟩ (s_X3_isInside l dC dI cs L K G Q hQ x0 m0 tx tm H.size I J hI p0 hLp0 hKp0 p1 p2) (cwV 2 hts (gV pq517 pq518 pq519 pq76 pq520) rfl rfl rfl (by decide +kernel) ⟨(by rw [hR]; exact (Nat.le_of_ble_eq_true rfl)), (by rw [hR]; exact (Nat.le_of_ble_eq_true rfl))⟩) (sP_V hP hD hK hN hLp0 hKp0 rfl rfl) rfl rfl hl.1 rfl (lv_room (Nat.le_of_ble_eq_true rfl)) dX3_holds_3 ⟨(by rw [hR]; exact (Nat.le_of_ble_eq_true rfl)), (by rw [hR]; exact (Nat.le_of_ble_eq_true rfl))⟩) hS hP (fun z3 H locs hz3 hP hS => ?_)
  obtain ⟨bz3, imz3, xpz3⟩ := hz3
  refine lv_if_eq (tgt := 38) hx hb dX3_holds_6 (by decide) (fun c6 => ?_) (fun c6 => ?_)
  · have t6 := tq_eq (k := z3.toInt) (q := (0)) c6 rfl (by decide +kernel)
    refine lv_iconst (v := 0) hx hb dX3_holds_38 (by decide +kernel) ?_
    subst hR; subst hQz
    exact W.zret (v := 0) hx hb hr (by decide +kernel) (fun t ht hW => ⟨⟨0, (), rfl, ⟨⟨by decide +kernel, by decide +kernel⟩, (bi_0 (by decide +kernel) (by first | exact hs_n (xpz3.2 t6) | (have q : ¬ b64 z26 0 = true := (fun w => t31 ((lc1 ez28 ez30).mpr w)); rw [b64_shr ez26 (k := (p1.toInt % 64).toNat) (by have := and63 ez25 (by omega); omega) (by omega), ez21] at q; unfold hs; rw [wo_of ey10, md_bit (by omega) (by omega) (by omega) (by omega), show 2 * p2.toInt.toNat + p1.toInt.toNat / 64 = z20.toNatClampNeg from (by show _ = z20.toInt.toNat; omega), show p1.toInt.toNat % 64 = 0 + (p1.toInt % 64).toNat from (by omega)]; simp only [Bool.not_eq_true] at q; rw [q, Bool.and_false])))⟩, trivial⟩, hS.F ht⟩) hS.2.2 dX3_holds_39
  · have t6 := tq_ne (k := z3.toInt) (q := (0)) c6 rfl (by decide +kernel)
    have i6 := imz3 t6
    refine lv_aload_n hx hb dX3_holds_9 rfl (lv_at hl 0 rfl) ?_
    obtain ⟨y10, ey10, hLy10, hKy10, hGy10⟩ := oQ_3_2 (Sv_at hQ hLp0 hKp0)
    refine p_get (v := .ref y10) hx hb hts inX3 hown hK hP hLp0 hKp0 rfl rfl 2 (by decide) (hts _ pq124) (congrArg (fun q => some (va_rf q)) ey10) dX3_holds_10 ?_
    refine lv_iconst (v := 2) hx hb dX3_holds_13 (by decide +kernel) ?_
    refine lv_iload_n hx hb dX3_holds_14 rfl (lv_at hl 2 rfl) ?_
    refine lv_imul hx hb dX3_holds_15 ?_
    refine lv_topi (fun z15 ez15 => ?_)
    have bz15 := tq_mul (k := (2)) (q := p2.toInt) ez15 (by decide +kernel) rfl (by omega) (by omega)
    refine lv_iload_n hx hb dX3_holds_16 rfl (lv_at hl 1 rfl) ?_
    refine lv_bipush (v := 6) hx hb dX3_holds_17 (by decide +kernel) ?_
    refine lv_ishr hx hb dX3_holds_19 ?_
    refine lv_topi (fun z19 ez19 => ?_)
    have bz19 := tq_shr 6 ez19 (by decide +kernel)
    refine lv_iadd hx hb dX3_holds_20 ?_
    refine lv_topi (fun z20 ez20 => ?_)
    have bz20 := tq_add (k := z15.toInt) (q := z19.toInt) ez20 rfl rfl (by omega) (by omega)
    refine p_lald hx hb hK hP 2 hLy10 hKy10 rfl rfl (in_of (by omega) (by omega)) dX3_holds_21 ?_
    refine lv_topl (fun z21 ez21 => ?_)
    refine lv_iload_n hx hb dX3_holds_22 rfl (lv_at hl 1 rfl) ?_
    refine lv_bipush (v := 63) hx hb dX3_holds_23 (by decide +kernel) ?_
    refine lv_iand hx hb dX3_holds_25 ?_
    refine lv_topi (fun z25 ez25 => ?_)
    have bz25 := tq_and 6 ez25 (by decide +kernel) (by decide)
    refine lv_lushr hx hb dX3_holds_26 rfl ?_
    refine lv_topl (fun z26 ez26 => ?_)
    refine lv_lconst (v := 1) hx hb dX3_holds_27 (by decide +kernel) ?_
    refine lv_land hx hb dX3_holds_28 ?_
    refine lv_topl (fun z28 ez28 => ?_)
    refine lv_lconst (v := 1) hx hb dX3_holds_29 (by decide +kernel) ?_
    refine W.lcmp hx hb dX3_holds_30 ?_
    refine lv_topi (fun z30 ez30 => ?_)
    refine lv_if_ne (tgt := 38) hx hb dX3_holds_31 (by decide) (fun c31 => ?_) (fun c31 => ?_)
    · have t31 := tq_ne (k := z30.toInt) (q := (0)) c31 rfl (by decide +kernel)
      refine lv_iconst (v := 0) hx hb dX3_holds_38 (by decide +kernel) ?_
      subst hR; subst hQz
      exact W.zret (v := 0) hx hb hr (by decide +kernel) (fun t ht hW => ⟨⟨0, (), rfl, ⟨⟨by decide +kernel, by decide +kernel⟩, (bi_0 (by decide +kernel) (by first | exact hs_n (xpz3.2 t6) | (have q : ¬ b64 z26 0 = true := (fun w => t31 ((lc1 ez28 ez30).mpr w)); rw [b64_shr ez26 (k := (p1.toInt % 64).toNat) (by have := and63 ez25 (by omega); omega) (by omega), ez21] at q; unfold hs; rw [wo_of ey10, md_bit (by omega) (by omega) (by omega) (by omega), show 2 * p2.toInt.toNat + p1.toInt.toNat / 64 = z20.toNatClampNeg from (by show _ = z20.toInt.toNat; omega), show p1.toInt.toNat % 64 = 0 + (p1.toInt % 64).toNat from (by omega)]; simp only [Bool.not_eq_true] at q; rw [q, Bool.and_false])))⟩, trivial⟩, hS.F ht⟩) hS.2.2 dX3_holds_39
    · have t31 := tq_eq (k := z30.toInt) (q := (0)) c31 rfl (by decide +kernel)
      refine lv_iconst (v := 1) hx hb dX3_holds_34 (by decide +kernel) ?_
      refine lv_goto (tgt := 39) hx hb dX3_holds_35 (by decide) ?_
      subst hR; subst hQz
      exact W.zret (v := 1) hx hb hr (by decide +kernel) (fun t ht hW => ⟨⟨1, (), rfl, ⟨⟨by decide +kernel, by decide +kernel⟩, (bi_1 (by decide +kernel) (hs_t.mpr ⟨xpz3.1 t6, by rw [wo_of ey10]; have q := (lc1 ez28 ez30).mp t31; rw [md_bit (by omega) (by omega) (by omega) (by omega)]; rw [b64_shr ez26 (k := (p1.toInt % 64).toNat) (by have := and63 ez25 (by omega); omega) (by omega), ez21] at q; rw [show 2 * p2.toInt.toNat + p1.toInt.toNat / 64 = z20.toNatClampNeg from (by show _ = z20.toInt.toNat; omega), show p1.toInt.toNat % 64 = 0 + (p1.toInt % 64).toNat from (by omega)]; exact q⟩))⟩, trivial⟩, hS.F ht⟩) hS.2.2 dX3_holds_39

set_option maxHeartbeats 4000000 in
set_option maxRecDepth 100000 in
theorem s_X3_toggle (l : Launch) (dC : Nat → ClassId) (dI : Nat → Nat → Nat) (cs : Nat → ClassId) (L : List Nat) (K G : Nat → Nat) (Q : Nat → Nat → Option Nat) (hQ : Sv L K G Q) (x0 m0 : Nat) (tx : GT) (tm : GT × Int) (sz : Nat) (I : Nat → Nat → Int32) (J : Nat → Nat → Int64) (hI : Iv L K x0 m0 tx tm I) (p0 : Nat) (hLp0 : p0 ∈ L) (hKp0 : K p0 = 3) (p1 : Int32) (p2 : Int32) : Met l yX3_toggle (.code yX3_toggle cX3_toggle 3 none :: pw) ({ frames := 1, cells := 0, slots := 0, locals := 22 }) (sP (dC, dI) cs [.ref p0, .int p1, .int p2] sz L K I J Q) (va_Qv (fun (_ : Unit) => True) (fun _ t => sB (dC, dI) cs L K Q (fun I1 J1 => Iv L K x0 m0 tx tm I1 ∧ I1 = I ∧ (∀ x y : Int, md (J1 (wo Q p0)) x y = (md (J (wo Q p0)) x y ^^ decide ((0 ≤ p1.toInt ∧ p1.toInt < (I p0 0).toInt ∧ 0 ≤ p2.toInt ∧ p2.toInt < (I p0 1).toInt) ∧ x = p1.toInt ∧ y = p2.toInt))) ∧ (∀ b, ¬ (K b = 12 ∧ (G b = G p0)) → J1 b = J b)) t) (fun q => q ∈ L ∨ sz ≤ q)) 0 0 (fun q => q ∈ L ∨ sz ≤ q) := by
  refine Met.ofW (cc := cX3_toggle) (maxL := 3) (ret := none) (by decide +kernel) rfl ?_
  intro p e s m args below meth c s₁ B hml hv
  obtain ⟨rfl, hsz, hP, hK, hD0, hN⟩ := hv
  have hx := B.exec
  have hb := B.bytes
  have hr := B.returns
  have hts := fun w (h : w ∈ pw) => atoms_spec (ws := Cond.code yX3_toggle cX3_toggle 3 none :: pw) B.pre w (List.mem_cons_of_mem _ h)
  have hown : s.vm.findClass RX3 = some m.cls := findClass_of_methodNamed B.named
  have hlocks := B.notSynchronized
  subst hsz
  have hBB : 999 ≤ tm.2 ∧ tm.2 ≤ 6000000 := hI.2.2.2.2.1
  have dj_J : (∀ b, ¬ (K b = 12 ∧ (G b = G p0)) → J b = J b) := fun _ _ => rfl
  obtain ⟨A, hAe⟩ : ∃ A : Nat → Prop, A = (fun q => q ∈ L ∨ s.heap.size ≤ q) := ⟨_, rfl⟩
  rw [← hAe]
  have hAL : ∀ q, q ∈ L → A q := fun q h => by rw [hAe]; exact Or.inl h
  have hA : ∀ q, s.heap.size ≤ q → A q := fun q h => by rw [hAe]; exact Or.inr h
  have hD : ∀ F, va_D A (va_pl L F) := fun F => (hD0 F).weaken (fun k q hk _ => hAL _ (pl_mem hk))
  obtain ⟨H, hHe⟩ : ∃ H : Heap, H = s.heap := ⟨_, rfl⟩
  have hS : va_S A s.heap H [] := by rw [hHe]; exact va_S.rf
  rw [← hHe] at hP
  have hl := lv_entry ([.ref p0, .int p1, .int p2]) (n := 3) (Nat.le_of_ble_eq_true rfl)
  rw [lg_entry_eq]
  generalize (lg_sl ([.ref p0, .int p1, .int p2]) ++ List.replicate (3 - (lg_sl ([.ref p0, .int p1, .int p2])).length) Slot.unset).toArray = ls at hl ⊢
  have hl : lv_has ls 3 [(0, .ref p0), (1, .int p1), (2, .int p2)] := hl
  rw [← hHe]
  refine namedW (fun R Qz hR hQz => ?_)
  refine lv_aload_n hx hb dX3_toggle_0 rfl (lv_at hl 0 rfl) ?_
  refine lv_iload_n hx hb dX3_toggle_1 rfl (lv_at hl 1 rfl) ?_
  refine lv_iload_n hx hb dX3_toggle_2 rfl (lv_at hl 2 rfl) ?_
  refine ro_i (va_runV (As := [.int p1, .int p2]) (rest := []) ⟨hx, hb, hml, hown, hts⟩ (s_X3_isInside l dC dI cs L K G Q hQ x0 m0 tx tm H.size I J hI p0 hLp0 hKp0 p1 p2) (cwV 2 hts (gV pq517 pq518 pq519 pq76 pq520) rfl rfl rfl (by decide +kernel) ⟨(by rw [hR]; exact (Nat.le_of_ble_eq_true rfl)), (by rw [hR]; exact (Nat.le_of_ble_eq_true rfl))⟩) (sP_V hP hD hK hN hLp0 hKp0 rfl rfl) rfl rfl hl.1 rfl (lv_room (Nat.le_of_ble_eq_true rfl)) dX3_toggle_3 ⟨(by rw [hR]; exact (Nat.le_of_ble_eq_true rfl)), (by rw [hR]; exact (Nat.le_of_ble_eq_true rfl))⟩) hS hP (fun z3 H locs hz3 hP hS => ?_)
  obtain ⟨bz3, imz3, xpz3⟩ := hz3
  refine lv_if_eq (tgt := 31) hx hb dX3_toggle_6 (by decide) (fun c6 => ?_) (fun c6 => ?_)
  · have t6 := tq_eq (k := z3.toInt) (q := (0)) c6 rfl (by decide +kernel)
    subst hR; subst hQz
    exact W.vret hx hb hr (fun t ht hW => ⟨⟨(), rfl, trivial, ⟨I, J, ⟨hI, rfl, (fun x y => by rw [decide_eq_false (fun h => (xpz3.2 t6) h.1), Bool.xor_false]), dj_J⟩, by rw [ht]; exact hP⟩⟩, hS.F ht⟩) hS.2.2 dX3_toggle_31
  · have t6 := tq_ne (k := z3.toInt) (q := (0)) c6 rfl (by decide +kernel)
    have i6 := imz3 t6
    refine lv_aload_n hx hb dX3_toggle_9 rfl (lv_at hl 0 rfl) ?_
    obtain ⟨y10, ey10, hLy10, hKy10, hGy10⟩ := oQ_3_2 (Sv_at hQ hLp0 hKp0)
    refine p_get (v := .ref y10) hx hb hts inX3 hown hK hP hLp0 hKp0 rfl rfl 2 (by decide) (hts _ pq124) (congrArg (fun q => some (va_rf q)) ey10) dX3_toggle_10 ?_
    refine lv_iconst (v := 2) hx hb dX3_toggle_13 (by decide +kernel) ?_
    refine lv_iload_n hx hb dX3_toggle_14 rfl (lv_at hl 2 rfl) ?_
    refine lv_imul hx hb dX3_toggle_15 ?_
    refine lv_topi (fun z15 ez15 => ?_)
    have bz15 := tq_mul (k := (2)) (q := p2.toInt) ez15 (by decide +kernel) rfl (by omega) (by omega)
    refine lv_iload_n hx hb dX3_toggle_16 rfl (lv_at hl 1 rfl) ?_
    refine lv_bipush (v := 6) hx hb dX3_toggle_17 (by decide +kernel) ?_
    refine lv_ishr hx hb dX3_toggle_19 ?_
    refine lv_topi (fun z19 ez19 => ?_)
    have bz19 := tq_shr 6 ez19 (by decide +kernel)
    refine lv_iadd hx hb dX3_toggle_20 ?_
    refine lv_topi (fun z20 ez20 => ?_)
    have bz20 := tq_add (k := z15.toInt) (q := z19.toInt) ez20 rfl rfl (by omega) (by omega)
    refine lv_dup2_11 hx hb dX3_toggle_21 rfl rfl ?_
    refine p_lald hx hb hK hP 2 hLy10 hKy10 rfl rfl (in_of (by omega) (by omega)) dX3_toggle_22 ?_
    refine lv_topl (fun z22 ez22 => ?_)
    refine lv_lconst (v := 1) hx hb dX3_toggle_23 (by decide +kernel) ?_
    refine lv_iload_n hx hb dX3_toggle_24 rfl (lv_at hl 1 rfl) ?_
    refine lv_bipush (v := 63) hx hb dX3_toggle_25 (by decide +kernel) ?_
    refine lv_iand hx hb dX3_toggle_27 ?_
    refine lv_topi (fun z27 ez27 => ?_)
    have bz27 := tq_and 6 ez27 (by decide +kernel) (by decide)
    refine lv_lshl hx hb dX3_toggle_28 rfl ?_
    refine lv_topl (fun z28 ez28 => ?_)
    refine lv_lxor hx hb dX3_toggle_29 ?_
    refine lv_topl (fun z29 ez29 => ?_)
    refine p_last hx hb hK hP hD hS 2 hLy10 hKy10 rfl (fun _ => rfl) rfl (in_of (by omega) (by omega)) dX3_toggle_30 (fun H locs hP hS => ?_)
    obtain ⟨Jz30, hP, qJz30⟩ : ∃ Jz30, va_P (dC, dI) vwCl (Wd cs L K I Jz30 Q) H ∧ Jz30 = va_up J y10 (vp_updL (J y10) z20.toNatClampNeg z29) := ⟨_, hP, rfl⟩
    have dj_Jz30 : (∀ b, ¬ (K b = 12 ∧ (G b = G p0)) → Jz30 b = J b) := fun b hc => (congrFun qJz30 b).trans ((va_up_ne _ _ (fun z => hc (by rw [z]; exact ⟨hKy10, by omega⟩))).trans (dj_J b hc))
    subst hR; subst hQz
    exact W.vret hx hb hr (fun t ht hW => ⟨⟨(), rfl, trivial, ⟨I, Jz30, ⟨hI, rfl, (fun x y => by rw [wo_of ey10, md_tog (f := J y10) (f1 := Jz30 y10) (i := z20.toInt.toNat) (c := z27) (x0 := p1.toInt) (y0 := p2.toInt) (fun j => by rw [qJz30, va_up_self]; rfl) (by rw [ez29, ez22]; rfl) ez28 (and63 ez27 (by omega)) (by omega) (by omega) (by omega) (by omega) (by omega)]; exact congrArg _ (decide_eq_decide.mpr ⟨fun h => ⟨xpz3.1 t6, h⟩, fun h => h.2⟩)), dj_Jz30⟩, by rw [ht]; exact hP⟩⟩, hS.F ht⟩) hS.2.2 dX3_toggle_31

set_option maxHeartbeats 4000000 in
set_option maxRecDepth 100000 in
theorem s_X3_isSameAs (l : Launch) (dC : Nat → ClassId) (dI : Nat → Nat → Nat) (cs : Nat → ClassId) (L : List Nat) (K G : Nat → Nat) (Q : Nat → Nat → Option Nat) (hQ : Sv L K G Q) (x0 m0 : Nat) (tx : GT) (tm : GT × Int) (sz : Nat) (I : Nat → Nat → Int32) (J : Nat → Nat → Int64) (hI : Iv L K x0 m0 tx tm I) (p0 : Nat) (hLp0 : p0 ∈ L) (hKp0 : K p0 = 3) (p1 : Nat) (hLp1 : p1 ∈ L) (hKp1 : K p1 = 3) : Met l yX3_isSameAs (.code yX3_isSameAs cX3_isSameAs 3 (some .boolean) :: pw) ({ frames := 0, cells := 0, slots := 0, locals := 0 }) (sP (dC, dI) cs [.ref p0, .ref p1] sz L K I J Q) (va_Qi (fun (r : Int32) (_ : Unit) => ((0) ≤ r.toInt ∧ r.toInt ≤ 1) ∧ (mko Q I J p0 → mko Q I J p1 → (¬ r.toInt = 0 ↔ smM Q I J p0 p1))) (fun _ _ => True) (fun _ => False)) 0 0 (fun _ => False) := by
  refine Met.ofW (cc := cX3_isSameAs) (maxL := 3) (ret := (some .boolean)) (by decide +kernel) rfl ?_
  intro p e s m args below meth c s₁ B hml hv
  obtain ⟨rfl, hsz, hP, hK, hD0, hN⟩ := hv
  have hx := B.exec
  have hb := B.bytes
  have hr := B.returns
  have hts := fun w (h : w ∈ pw) => atoms_spec (ws := Cond.code yX3_isSameAs cX3_isSameAs 3 (some .boolean) :: pw) B.pre w (List.mem_cons_of_mem _ h)
  have hown : s.vm.findClass RX3 = some m.cls := findClass_of_methodNamed B.named
  have hlocks := B.notSynchronized
  subst hsz
  have hBB : 999 ≤ tm.2 ∧ tm.2 ≤ 6000000 := hI.2.2.2.2.1
  have hD := hD0
  obtain ⟨H, hHe⟩ : ∃ H : Heap, H = s.heap := ⟨_, rfl⟩
  have hS : va_S (fun _ => False) s.heap H [] := by rw [hHe]; exact va_S.rf
  rw [← hHe] at hP
  have hl := lv_entry ([.ref p0, .ref p1]) (n := 3) (Nat.le_of_ble_eq_true rfl)
  rw [lg_entry_eq]
  generalize (lg_sl ([.ref p0, .ref p1]) ++ List.replicate (3 - (lg_sl ([.ref p0, .ref p1])).length) Slot.unset).toArray = ls at hl ⊢
  have hl : lv_has ls 3 [(0, .ref p0), (1, .ref p1)] := hl
  rw [← hHe]
  refine namedW (fun R Qz hR hQz => ?_)
  refine lv_aload_n hx hb dX3_isSameAs_0 rfl (lv_at hl 0 rfl) ?_
  refine p_get hx hb hts inX3 hown hK hP hLp0 hKp0 rfl rfl 0 (by decide) (hts _ pq116) rfl dX3_isSameAs_1 ?_
  refine lv_topi (fun z1 ez1 => ?_)
  have bz1 := oI_3_0 (Iv_at hI hLp0 hKp0)
  rw [← ez1] at bz1
  refine lv_aload_n hx hb dX3_isSameAs_4 rfl (lv_at hl 1 rfl) ?_
  refine p_get hx hb hts inX3 hown hK hP hLp1 hKp1 rfl rfl 0 (by decide) (hts _ pq116) rfl dX3_isSameAs_5 ?_
  refine lv_topi (fun z5 ez5 => ?_)
  have bz5 := oI_3_0 (Iv_at hI hLp1 hKp1)
  rw [← ez5] at bz5
  refine lv_icmp_ne (tgt := 33) hx hb dX3_isSameAs_8 (by decide) (fun c8 => ?_) (fun c8 => ?_)
  · have t8 := tq_ne (k := z1.toInt) (q := z5.toInt) c8 rfl rfl
    refine lv_iconst (v := 0) hx hb dX3_isSameAs_33 (by decide +kernel) ?_
    subst hR; subst hQz
    exact W.zret (v := 0) hx hb hr (by decide +kernel) (fun t ht hW => ⟨⟨0, (), rfl, ⟨⟨by decide +kernel, by decide +kernel⟩, (fun ha hb => by refine ⟨fun q => absurd (by decide +kernel) q, fun q => ?_⟩; first | exact absurd (by rw [ez1, ez5, q.1]) t8 | exact absurd (by rw [ez12, ez16, q.2.1]) t19 | exact absurd (by rw [ez23, ez27]; exact sm_tot ha hb q) t30 | (have e0 : I p0 0 = I p1 0 := (by rw [← ez1, ← ez5]; exact Int32.toInt_inj.mp t8); have e1 : I p0 1 = I p1 1 := (by rw [← ez12, ← ez16]; exact Int32.toInt_inj.mp t19); have o := ha.1.2.1; have e := congrArg Int32.toInt ez12; refine absurd ((lc_eq ez59).mpr ?_) t60; rw [ez52, ez58, show y48 = wo Q p0 from (wo_of ey48).symm, show y54 = wo Q p1 from (wo_of ey54).symm]; exact md_ext (fun x y _ _ _ _ => q.2.2 x y) _ (by show v37_2.toInt.toNat < 80; omega)))⟩, trivial⟩, hS.F ht⟩) hS.2.2 dX3_isSameAs_34
  · have t8 := tq_eq (k := z1.toInt) (q := z5.toInt) c8 rfl rfl
    refine lv_aload_n hx hb dX3_isSameAs_11 rfl (lv_at hl 0 rfl) ?_
    refine p_get hx hb hts inX3 hown hK hP hLp0 hKp0 rfl rfl 1 (by decide) (hts _ pq120) rfl dX3_isSameAs_12 ?_
    refine lv_topi (fun z12 ez12 => ?_)
    have bz12 := oI_3_1 (Iv_at hI hLp0 hKp0)
    rw [← ez12] at bz12
    refine lv_aload_n hx hb dX3_isSameAs_15 rfl (lv_at hl 1 rfl) ?_
    refine p_get hx hb hts inX3 hown hK hP hLp1 hKp1 rfl rfl 1 (by decide) (hts _ pq120) rfl dX3_isSameAs_16 ?_
    refine lv_topi (fun z16 ez16 => ?_)
    have bz16 := oI_3_1 (Iv_at hI hLp1 hKp1)
    rw [← ez16] at bz16
    refine lv_icmp_ne (tgt := 33) hx hb dX3_isSameAs_19 (by decide) (fun c19 => ?_) (fun c19 => ?_)
    · have t19 := tq_ne (k := z12.toInt) (q := z16.toInt) c19 rfl rfl
      refine lv_iconst (v := 0) hx hb dX3_isSameAs_33 (by decide +kernel) ?_
      subst hR; subst hQz
      exact W.zret (v := 0) hx hb hr (by decide +kernel) (fun t ht hW => ⟨⟨0, (), rfl, ⟨⟨by decide +kernel, by decide +kernel⟩, (fun ha hb => by refine ⟨fun q => absurd (by decide +kernel) q, fun q => ?_⟩; first | exact absurd (by rw [ez1, ez5, q.1]) t8 | exact absurd (by rw [ez12, ez16, q.2.1]) t19 | exact absurd (by rw [ez23, ez27]; exact sm_tot ha hb q) t30 | (have e0 : I p0 0 = I p1 0 := (by rw [← ez1, ← ez5]; exact Int32.toInt_inj.mp t8); have e1 : I p0 1 = I p1 1 := (by rw [← ez12, ← ez16]; exact Int32.toInt_inj.mp t19); have o := ha.1.2.1; have e := congrArg Int32.toInt ez12; refine absurd ((lc_eq ez59).mpr ?_) t60; rw [ez52, ez58, show y48 = wo Q p0 from (wo_of ey48).symm, show y54 = wo Q p1 from (wo_of ey54).symm]; exact md_ext (fun x y _ _ _ _ => q.2.2 x y) _ (by show v37_2.toInt.toNat < 80; omega)))⟩, trivial⟩, hS.F ht⟩) hS.2.2 dX3_isSameAs_34
    · have t19 := tq_eq (k := z12.toInt) (q := z16.toInt) c19 rfl rfl
      refine lv_aload_n hx hb dX3_isSameAs_22 rfl (lv_at hl 0 rfl) ?_
      refine p_get hx hb hts inX3 hown hK hP hLp0 hKp0 rfl rfl 3 (by decide) (hts _ pq129) rfl dX3_isSameAs_23 ?_
      refine lv_topi (fun z23 ez23 => ?_)
      refine lv_aload_n hx hb dX3_isSameAs_26 rfl (lv_at hl 1 rfl) ?_
      refine p_get hx hb hts inX3 hown hK hP hLp1 hKp1 rfl rfl 3 (by decide) (hts _ pq129) rfl dX3_isSameAs_27 ?_
      refine lv_topi (fun z27 ez27 => ?_)
      refine lv_icmp_eq (tgt := 35) hx hb dX3_isSameAs_30 (by decide) (fun c30 => ?_) (fun c30 => ?_)
      · have t30 := tq_eq (k := z23.toInt) (q := z27.toInt) c30 rfl rfl
        refine lv_iconst (v := 0) hx hb dX3_isSameAs_35 (by decide +kernel) ?_
        refine lv_istore_n (lv' := [(2, .int 0), (0, .ref p0), (1, .ref p1)]) hx hb dX3_isSameAs_36 rfl hl (by decide) rfl (fun ls hl => ?_)
        have key37 := blocks (fun n => ∀ (v37_2 : Int32) (H : Heap) (lo : List Loc) (ls : Array Slot), (81 - v37_2.toInt).toNat = n → ((0) ≤ v37_2.toInt ∧ v37_2.toInt ≤ 80) → (∀ k : Nat, k < v37_2.toInt.toNat → J (wo Q p0) k = J (wo Q p1) k) → va_P (dC, dI) vwCl (Wd cs L K I J Q) H → va_S (fun _ => False) s.heap H lo → lv_has ls 3 [(0, .ref p0), (1, .ref p1), (2, .int v37_2)] → W p l e R s m (([.ref p0, .ref p1] : List Value).toArray) below meth c H lo 0 0 Qz (F0 m 37 ls [])) (by
          intro n ih37
          intro v37_2 H lo ls hmu37 bv37_2 g37 hP hS hl
          refine lv_iload_n hx hb dX3_isSameAs_37 rfl (lv_at hl 2 rfl) ?_
          refine lv_iconst (v := 2) hx hb dX3_isSameAs_38 (by decide +kernel) ?_
          refine lv_aload_n hx hb dX3_isSameAs_39 rfl (lv_at hl 0 rfl) ?_
          refine p_get hx hb hts inX3 hown hK hP hLp0 hKp0 rfl rfl 1 (by decide) (hts _ pq120) rfl dX3_isSameAs_40 ?_
          refine lv_topi (fun z40 ez40 => ?_)
          obtain rfl : z12 = z40 := ez12.trans ez40.symm
          refine lv_imul hx hb dX3_isSameAs_43 ?_
          refine lv_topi (fun z43 ez43 => ?_)
          have bz43 := tq_mul (k := (2)) (q := z12.toInt) ez43 (by decide +kernel) rfl (by omega) (by omega)
          refine lv_icmp_ge (tgt := 71) hx hb dX3_isSameAs_44 (by decide) (fun c44 => ?_) (fun c44 => ?_)
          · have t44 := tq_le (k := z43.toInt) (q := v37_2.toInt) c44 rfl rfl
            refine lv_iconst (v := 1) hx hb dX3_isSameAs_71 (by decide +kernel) ?_
            subst hR; subst hQz
            exact W.zret (v := 1) hx hb hr (by decide +kernel) (fun t ht hW => ⟨⟨1, (), rfl, ⟨⟨by decide +kernel, by decide +kernel⟩, (fun ha hb => by have e0 : I p0 0 = I p1 0 := (by rw [← ez1, ← ez5]; exact Int32.toInt_inj.mp t8); have e1 : I p0 1 = I p1 1 := (by rw [← ez12, ← ez16]; exact Int32.toInt_inj.mp t19); have h1 : okm (I p0 0).toInt (I p0 1).toInt (J (wo Q p1)) := (by rw [e0, e1]; exact hb.1); exact ⟨fun _ => ⟨e0, e1, sm_all ha.1 h1 (fun k hk => g37 k (by have q := congrArg Int32.toInt ez12; omega))⟩, fun _ => by decide +kernel⟩)⟩, trivial⟩, hS.F ht⟩) hS.2.2 dX3_isSameAs_72
          · have t44 := tq_nle (k := z43.toInt) (q := v37_2.toInt) c44 rfl rfl
            refine lv_aload_n hx hb dX3_isSameAs_47 rfl (lv_at hl 0 rfl) ?_
            obtain ⟨y48, ey48, hLy48, hKy48, hGy48⟩ := oQ_3_2 (Sv_at hQ hLp0 hKp0)
            refine p_get (v := .ref y48) hx hb hts inX3 hown hK hP hLp0 hKp0 rfl rfl 2 (by decide) (hts _ pq124) (congrArg (fun q => some (va_rf q)) ey48) dX3_isSameAs_48 ?_
            refine lv_iload_n hx hb dX3_isSameAs_51 rfl (lv_at hl 2 rfl) ?_
            refine p_lald hx hb hK hP 2 hLy48 hKy48 rfl rfl (in_of (by omega) (by omega)) dX3_isSameAs_52 ?_
            refine lv_topl (fun z52 ez52 => ?_)
            refine lv_aload_n hx hb dX3_isSameAs_53 rfl (lv_at hl 1 rfl) ?_
            obtain ⟨y54, ey54, hLy54, hKy54, hGy54⟩ := oQ_3_2 (Sv_at hQ hLp1 hKp1)
            refine p_get (v := .ref y54) hx hb hts inX3 hown hK hP hLp1 hKp1 rfl rfl 2 (by decide) (hts _ pq124) (congrArg (fun q => some (va_rf q)) ey54) dX3_isSameAs_54 ?_
            refine lv_iload_n hx hb dX3_isSameAs_57 rfl (lv_at hl 2 rfl) ?_
            refine p_lald hx hb hK hP 2 hLy54 hKy54 rfl rfl (in_of (by omega) (by omega)) dX3_isSameAs_58 ?_
            refine lv_topl (fun z58 ez58 => ?_)
            refine W.lcmp hx hb dX3_isSameAs_59 ?_
            refine lv_topi (fun z59 ez59 => ?_)
            refine lv_if_eq (tgt := 65) hx hb dX3_isSameAs_60 (by decide) (fun c60 => ?_) (fun c60 => ?_)
            · have t60 := tq_eq (k := z59.toInt) (q := (0)) c60 rfl (by decide +kernel)
              obtain ⟨z65, ez65⟩ : ∃ y : Int32, y = v37_2 + 1 := ⟨_, rfl⟩
              refine lv_iinc (v := z65) (lv' := [(2, .int z65), (0, .ref p0), (1, .ref p1)]) hx hb dX3_isSameAs_65 hl (k := 2) rfl (by rw [ez65]; rfl) (by decide) rfl (fun ls hl => ?_)
              have bz65 := tq_add (k := v37_2.toInt) (q := 1) ez65 rfl (by decide +kernel) (by omega) (by omega)
              refine lv_goto (tgt := 37) hx hb dX3_isSameAs_68 (by decide) ?_
              exact ih37 _ (by omega) z65 _ _ _ rfl ⟨by omega, by omega⟩ (fun k hk => by have e := (lc_eq ez59).mp t60; rw [ez52, ez58, show y48 = wo Q p0 from (wo_of ey48).symm, show y54 = wo Q p1 from (wo_of ey54).symm] at e; rcases Nat.lt_or_ge k v37_2.toInt.toNat with q | q; (exact g37 k q); (obtain rfl : k = v37_2.toInt.toNat := by omega); exact e) hP hS (lv_sub hl [1, 2, 0] rfl)
            · have t60 := tq_ne (k := z59.toInt) (q := (0)) c60 rfl (by decide +kernel)
              refine lv_iconst (v := 0) hx hb dX3_isSameAs_63 (by decide +kernel) ?_
              subst hR; subst hQz
              exact W.zret (v := 0) hx hb hr (by decide +kernel) (fun t ht hW => ⟨⟨0, (), rfl, ⟨⟨by decide +kernel, by decide +kernel⟩, (fun ha hb => by refine ⟨fun q => absurd (by decide +kernel) q, fun q => ?_⟩; first | exact absurd (by rw [ez1, ez5, q.1]) t8 | exact absurd (by rw [ez12, ez16, q.2.1]) t19 | exact absurd (by rw [ez23, ez27]; exact sm_tot ha hb q) t30 | (have e0 : I p0 0 = I p1 0 := (by rw [← ez1, ← ez5]; exact Int32.toInt_inj.mp t8); have e1 : I p0 1 = I p1 1 := (by rw [← ez12, ← ez16]; exact Int32.toInt_inj.mp t19); have o := ha.1.2.1; have e := congrArg Int32.toInt ez12; refine absurd ((lc_eq ez59).mpr ?_) t60; rw [ez52, ez58, show y48 = wo Q p0 from (wo_of ey48).symm, show y54 = wo Q p1 from (wo_of ey54).symm]; exact md_ext (fun x y _ _ _ _ => q.2.2 x y) _ (by show v37_2.toInt.toNat < 80; omega)))⟩, trivial⟩, hS.F ht⟩) hS.2.2 dX3_isSameAs_64)
        exact key37 _ 0 _ _ _ rfl ⟨by decide +kernel, by decide +kernel⟩ (fun k hk => absurd hk (by rw [show (0 : Int32).toInt.toNat = 0 from by decide +kernel]; omega)) hP hS (lv_sub hl [1, 2, 0] rfl)
      · have t30 := tq_ne (k := z23.toInt) (q := z27.toInt) c30 rfl rfl
        refine lv_iconst (v := 0) hx hb dX3_isSameAs_33 (by decide +kernel) ?_
        subst hR; subst hQz
        exact W.zret (v := 0) hx hb hr (by decide +kernel) (fun t ht hW => ⟨⟨0, (), rfl, ⟨⟨by decide +kernel, by decide +kernel⟩, (fun ha hb => by refine ⟨fun q => absurd (by decide +kernel) q, fun q => ?_⟩; first | exact absurd (by rw [ez1, ez5, q.1]) t8 | exact absurd (by rw [ez12, ez16, q.2.1]) t19 | exact absurd (by rw [ez23, ez27]; exact sm_tot ha hb q) t30 | (have e0 : I p0 0 = I p1 0 := (by rw [← ez1, ← ez5]; exact Int32.toInt_inj.mp t8); have e1 : I p0 1 = I p1 1 := (by rw [← ez12, ← ez16]; exact Int32.toInt_inj.mp t19); have o := ha.1.2.1; have e := congrArg Int32.toInt ez12; refine absurd ((lc_eq ez59).mpr ?_) t60; rw [ez52, ez58, show y48 = wo Q p0 from (wo_of ey48).symm, show y54 = wo Q p1 from (wo_of ey54).symm]; exact md_ext (fun x y _ _ _ _ => q.2.2 x y) _ (by show v37_2.toInt.toNat < 80; omega)))⟩, trivial⟩, hS.F ht⟩) hS.2.2 dX3_isSameAs_34
