def yX7_isBody : MethodName := ⟨RX7, "isBody", "(I)Z"⟩
def yX7_of : MethodName := ⟨RX7, "of", "(II)I"⟩
def yX7_wide : MethodName := ⟨RX7, "wide", "(I)I"⟩
def yX7_high : MethodName := ⟨RX7, "high", "(I)I"⟩
def yX7_has : MethodName := ⟨RX7, "has", "(III)Z"⟩
def yX7_maskOf : MethodName := ⟨RX7, "maskOf", "(I)I"⟩
def yX7_in : MethodName := ⟨RX7, "in", "(JJJ)Z"⟩
abbrev cX7_in : ByteArray := prog_9_method_2_code
abbrev cX7_isBody : ByteArray := prog_9_method_32_code
abbrev cX7_of : ByteArray := prog_9_method_34_code
abbrev cX7_wide : ByteArray := prog_9_method_36_code
abbrev cX7_high : ByteArray := prog_9_method_37_code
abbrev cX7_has : ByteArray := prog_9_method_39_code
def yX7_isDot : MethodName := ⟨RX7, "isDot", "([JIII)Z"⟩
abbrev cX7_isDot : ByteArray := prog_9_method_5_code
abbrev cX7_maskOf : ByteArray := prog_9_method_38_code
abbrev cX7_areSteps : ByteArray := prog_9_method_70_code
abbrev cX7_areTwo : ByteArray := prog_9_method_33_code
abbrev cX7_isMask : ByteArray := prog_9_method_31_code
abbrev cX7_isPlace : ByteArray := prog_9_method_52_code
abbrev cX7_isSign : ByteArray := prog_9_method_17_code
abbrev cX7_lies : ByteArray := prog_9_method_40_code
abbrev cX7_low : ByteArray := prog_9_method_42_code
abbrev cX7_mayTouch : ByteArray := prog_9_method_47_code
abbrev cX7_setsDot : ByteArray := prog_9_method_6_code
abbrev cX7_top : ByteArray := prog_9_method_43_code
abbrev cX7_truth : ByteArray := prog_9_method_3_code
def yX7_areSteps : MethodName := ⟨RX7, "areSteps", "(II)Z"⟩
def yX7_areTwo : MethodName := ⟨RX7, "areTwo", "(II)Z"⟩
def yX7_isMask : MethodName := ⟨RX7, "isMask", "(I)Z"⟩
def yX7_isPlace : MethodName := ⟨RX7, "isPlace", "(II)Z"⟩
def yX7_isSign : MethodName := ⟨RX7, "isSign", "(I)Z"⟩
def yX7_lies : MethodName := ⟨RX7, "lies", "(III)Z"⟩
def yX7_low : MethodName := ⟨RX7, "low", "(JJI)J"⟩
def yX7_mayTouch : MethodName := ⟨RX7, "mayTouch", "(II)Z"⟩
def yX7_setsDot : MethodName := ⟨RX7, "setsDot", "([JIII)V"⟩
def yX7_top : MethodName := ⟨RX7, "top", "(JJI)J"⟩
def yX7_truth : MethodName := ⟨RX7, "truth", "(Z)I"⟩
theorem dX7_areSteps_0 : decode cX7_areSteps 0 = .ok (.iload_n 0, 1) := by decide +kernel
theorem dX7_areSteps_1 : decode cX7_areSteps 1 = .ok (.i2l, 1) := by decide +kernel
theorem dX7_areSteps_2 : decode cX7_areSteps 2 = .ok (.ldc2_w 324, 3) := by decide +kernel
theorem dX7_areSteps_5 : decode cX7_areSteps 5 = .ok (.ldc2_w 326, 3) := by decide +kernel
theorem dX7_areSteps_8 : decode cX7_areSteps 8 = .ok (.invokestatic 96, 3) := by decide +kernel
theorem dX7_areSteps_11 : decode cX7_areSteps 11 = .ok (.ifCond .eq 21, 3) := by decide +kernel
theorem dX7_areSteps_14 : decode cX7_areSteps 14 = .ok (.iload_n 1, 1) := by decide +kernel
theorem dX7_areSteps_15 : decode cX7_areSteps 15 = .ok (.i2l, 1) := by decide +kernel
theorem dX7_areSteps_16 : decode cX7_areSteps 16 = .ok (.ldc2_w 324, 3) := by decide +kernel
theorem dX7_areSteps_19 : decode cX7_areSteps 19 = .ok (.ldc2_w 326, 3) := by decide +kernel
theorem dX7_areSteps_22 : decode cX7_areSteps 22 = .ok (.invokestatic 96, 3) := by decide +kernel
theorem dX7_areSteps_25 : decode cX7_areSteps 25 = .ok (.ifCond .eq 7, 3) := by decide +kernel
theorem dX7_areSteps_28 : decode cX7_areSteps 28 = .ok (.iconst 1, 1) := by decide +kernel
theorem dX7_areSteps_29 : decode cX7_areSteps 29 = .ok (.goto 4, 3) := by decide +kernel
theorem dX7_areSteps_32 : decode cX7_areSteps 32 = .ok (.iconst 0, 1) := by decide +kernel
theorem dX7_areSteps_33 : decode cX7_areSteps 33 = .ok (.ireturn, 1) := by decide +kernel
theorem dX7_areTwo_0 : decode cX7_areTwo 0 = .ok (.aload_n 0, 1) := by decide +kernel
theorem dX7_areTwo_1 : decode cX7_areTwo 1 = .ok (.iload_n 1, 1) := by decide +kernel
theorem dX7_areTwo_2 : decode cX7_areTwo 2 = .ok (.invokevirtual 196, 3) := by decide +kernel
theorem dX7_areTwo_5 : decode cX7_areTwo 5 = .ok (.ifCond .eq 20, 3) := by decide +kernel
theorem dX7_areTwo_8 : decode cX7_areTwo 8 = .ok (.aload_n 0, 1) := by decide +kernel
theorem dX7_areTwo_9 : decode cX7_areTwo 9 = .ok (.iload_n 2, 1) := by decide +kernel
theorem dX7_areTwo_10 : decode cX7_areTwo 10 = .ok (.invokevirtual 196, 3) := by decide +kernel
theorem dX7_areTwo_13 : decode cX7_areTwo 13 = .ok (.ifCond .eq 12, 3) := by decide +kernel
theorem dX7_areTwo_16 : decode cX7_areTwo 16 = .ok (.iload_n 1, 1) := by decide +kernel
theorem dX7_areTwo_17 : decode cX7_areTwo 17 = .ok (.iload_n 2, 1) := by decide +kernel
theorem dX7_areTwo_18 : decode cX7_areTwo 18 = .ok (.if_icmp .eq 7, 3) := by decide +kernel
theorem dX7_areTwo_21 : decode cX7_areTwo 21 = .ok (.iconst 1, 1) := by decide +kernel
theorem dX7_areTwo_22 : decode cX7_areTwo 22 = .ok (.goto 4, 3) := by decide +kernel
theorem dX7_areTwo_25 : decode cX7_areTwo 25 = .ok (.iconst 0, 1) := by decide +kernel
theorem dX7_areTwo_26 : decode cX7_areTwo 26 = .ok (.ireturn, 1) := by decide +kernel
theorem dX7_has_0 : decode cX7_has 0 = .ok (.iload_n 2, 1) := by decide +kernel
theorem dX7_has_1 : decode cX7_has 1 = .ok (.i2l, 1) := by decide +kernel
theorem dX7_has_2 : decode cX7_has 2 = .ok (.lconst 0, 1) := by decide +kernel
theorem dX7_has_3 : decode cX7_has 3 = .ok (.aload_n 0, 1) := by decide +kernel
theorem dX7_has_4 : decode cX7_has 4 = .ok (.iload_n 1, 1) := by decide +kernel
theorem dX7_has_5 : decode cX7_has 5 = .ok (.invokevirtual 202, 3) := by decide +kernel
theorem dX7_has_8 : decode cX7_has 8 = .ok (.iconst 1, 1) := by decide +kernel
theorem dX7_has_9 : decode cX7_has 9 = .ok (.isub, 1) := by decide +kernel
theorem dX7_has_10 : decode cX7_has 10 = .ok (.i2l, 1) := by decide +kernel
theorem dX7_has_11 : decode cX7_has 11 = .ok (.invokestatic 96, 3) := by decide +kernel
theorem dX7_has_14 : decode cX7_has 14 = .ok (.ifCond .eq 37, 3) := by decide +kernel
theorem dX7_has_17 : decode cX7_has 17 = .ok (.iload_n 3, 1) := by decide +kernel
theorem dX7_has_18 : decode cX7_has 18 = .ok (.i2l, 1) := by decide +kernel
theorem dX7_has_19 : decode cX7_has 19 = .ok (.lconst 0, 1) := by decide +kernel
theorem dX7_has_20 : decode cX7_has 20 = .ok (.aload_n 0, 1) := by decide +kernel
theorem dX7_has_21 : decode cX7_has 21 = .ok (.iload_n 1, 1) := by decide +kernel
theorem dX7_has_22 : decode cX7_has 22 = .ok (.invokevirtual 205, 3) := by decide +kernel
theorem dX7_has_25 : decode cX7_has 25 = .ok (.iconst 1, 1) := by decide +kernel
theorem dX7_has_26 : decode cX7_has 26 = .ok (.isub, 1) := by decide +kernel
theorem dX7_has_27 : decode cX7_has 27 = .ok (.i2l, 1) := by decide +kernel
theorem dX7_has_28 : decode cX7_has 28 = .ok (.invokestatic 96, 3) := by decide +kernel
theorem dX7_has_31 : decode cX7_has 31 = .ok (.ifCond .eq 20, 3) := by decide +kernel
theorem dX7_has_34 : decode cX7_has 34 = .ok (.aload_n 0, 1) := by decide +kernel
theorem dX7_has_35 : decode cX7_has 35 = .ok (.getfield 25, 3) := by decide +kernel
theorem dX7_has_38 : decode cX7_has 38 = .ok (.iload_n 1, 1) := by decide +kernel
theorem dX7_has_39 : decode cX7_has 39 = .ok (.iload_n 2, 1) := by decide +kernel
theorem dX7_has_40 : decode cX7_has 40 = .ok (.iload_n 3, 1) := by decide +kernel
theorem dX7_has_41 : decode cX7_has 41 = .ok (.invokestatic 208, 3) := by decide +kernel
theorem dX7_has_44 : decode cX7_has 44 = .ok (.ifCond .eq 7, 3) := by decide +kernel
theorem dX7_has_47 : decode cX7_has 47 = .ok (.iconst 1, 1) := by decide +kernel
theorem dX7_has_48 : decode cX7_has 48 = .ok (.goto 4, 3) := by decide +kernel
theorem dX7_has_51 : decode cX7_has 51 = .ok (.iconst 0, 1) := by decide +kernel
theorem dX7_has_52 : decode cX7_has 52 = .ok (.ireturn, 1) := by decide +kernel
theorem dX7_high_0 : decode cX7_high 0 = .ok (.aload_n 0, 1) := by decide +kernel
theorem dX7_high_1 : decode cX7_high 1 = .ok (.getfield 9, 3) := by decide +kernel
theorem dX7_high_4 : decode cX7_high 4 = .ok (.bipush 11, 2) := by decide +kernel
theorem dX7_high_6 : decode cX7_high 6 = .ok (.iload_n 1, 1) := by decide +kernel
theorem dX7_high_7 : decode cX7_high 7 = .ok (.iadd, 1) := by decide +kernel
theorem dX7_high_8 : decode cX7_high 8 = .ok (.iaload, 1) := by decide +kernel
theorem dX7_high_9 : decode cX7_high 9 = .ok (.ireturn, 1) := by decide +kernel
theorem dX7_in_0 : decode cX7_in 0 = .ok (.lload_n 0, 1) := by decide +kernel
theorem dX7_in_1 : decode cX7_in 1 = .ok (.lload_n 2, 1) := by decide +kernel
theorem dX7_in_2 : decode cX7_in 2 = .ok (.lcmp, 1) := by decide +kernel
theorem dX7_in_3 : decode cX7_in 3 = .ok (.ifCond .lt 14, 3) := by decide +kernel
theorem dX7_in_6 : decode cX7_in 6 = .ok (.lload_n 0, 1) := by decide +kernel
theorem dX7_in_7 : decode cX7_in 7 = .ok (.lload 4, 2) := by decide +kernel
theorem dX7_in_9 : decode cX7_in 9 = .ok (.lcmp, 1) := by decide +kernel
theorem dX7_in_10 : decode cX7_in 10 = .ok (.ifCond .gt 7, 3) := by decide +kernel
theorem dX7_in_13 : decode cX7_in 13 = .ok (.iconst 1, 1) := by decide +kernel
theorem dX7_in_14 : decode cX7_in 14 = .ok (.goto 4, 3) := by decide +kernel
theorem dX7_in_17 : decode cX7_in 17 = .ok (.iconst 0, 1) := by decide +kernel
theorem dX7_in_18 : decode cX7_in 18 = .ok (.ireturn, 1) := by decide +kernel
theorem dX7_isBody_0 : decode cX7_isBody 0 = .ok (.iload_n 1, 1) := by decide +kernel
theorem dX7_isBody_1 : decode cX7_isBody 1 = .ok (.i2l, 1) := by decide +kernel
theorem dX7_isBody_2 : decode cX7_isBody 2 = .ok (.lconst 0, 1) := by decide +kernel
theorem dX7_isBody_3 : decode cX7_isBody 3 = .ok (.aload_n 0, 1) := by decide +kernel
theorem dX7_isBody_4 : decode cX7_isBody 4 = .ok (.getfield 9, 3) := by decide +kernel
theorem dX7_isBody_7 : decode cX7_isBody 7 = .ok (.iconst 1, 1) := by decide +kernel
theorem dX7_isBody_8 : decode cX7_isBody 8 = .ok (.iaload, 1) := by decide +kernel
theorem dX7_isBody_9 : decode cX7_isBody 9 = .ok (.iconst 1, 1) := by decide +kernel
theorem dX7_isBody_10 : decode cX7_isBody 10 = .ok (.isub, 1) := by decide +kernel
theorem dX7_isBody_11 : decode cX7_isBody 11 = .ok (.i2l, 1) := by decide +kernel
theorem dX7_isBody_12 : decode cX7_isBody 12 = .ok (.invokestatic 96, 3) := by decide +kernel
theorem dX7_isBody_15 : decode cX7_isBody 15 = .ok (.ireturn, 1) := by decide +kernel
theorem dX7_isDot_0 : decode cX7_isDot 0 = .ok (.aload_n 0, 1) := by decide +kernel
theorem dX7_isDot_1 : decode cX7_isDot 1 = .ok (.bipush 80, 2) := by decide +kernel
theorem dX7_isDot_3 : decode cX7_isDot 3 = .ok (.iload_n 1, 1) := by decide +kernel
theorem dX7_isDot_4 : decode cX7_isDot 4 = .ok (.imul, 1) := by decide +kernel
theorem dX7_isDot_5 : decode cX7_isDot 5 = .ok (.iconst 2, 1) := by decide +kernel
theorem dX7_isDot_6 : decode cX7_isDot 6 = .ok (.iload_n 3, 1) := by decide +kernel
theorem dX7_isDot_7 : decode cX7_isDot 7 = .ok (.imul, 1) := by decide +kernel
theorem dX7_isDot_8 : decode cX7_isDot 8 = .ok (.iadd, 1) := by decide +kernel
theorem dX7_isDot_9 : decode cX7_isDot 9 = .ok (.iload_n 2, 1) := by decide +kernel
theorem dX7_isDot_10 : decode cX7_isDot 10 = .ok (.bipush 64, 2) := by decide +kernel
theorem dX7_isDot_12 : decode cX7_isDot 12 = .ok (.idiv, 1) := by decide +kernel
theorem dX7_isDot_13 : decode cX7_isDot 13 = .ok (.iadd, 1) := by decide +kernel
theorem dX7_isDot_14 : decode cX7_isDot 14 = .ok (.laload, 1) := by decide +kernel
theorem dX7_isDot_15 : decode cX7_isDot 15 = .ok (.iload_n 2, 1) := by decide +kernel
theorem dX7_isDot_16 : decode cX7_isDot 16 = .ok (.bipush 64, 2) := by decide +kernel
theorem dX7_isDot_18 : decode cX7_isDot 18 = .ok (.irem, 1) := by decide +kernel
theorem dX7_isDot_19 : decode cX7_isDot 19 = .ok (.lshr, 1) := by decide +kernel
theorem dX7_isDot_20 : decode cX7_isDot 20 = .ok (.lconst 1, 1) := by decide +kernel
theorem dX7_isDot_21 : decode cX7_isDot 21 = .ok (.land, 1) := by decide +kernel
theorem dX7_isDot_22 : decode cX7_isDot 22 = .ok (.lconst 1, 1) := by decide +kernel
theorem dX7_isDot_23 : decode cX7_isDot 23 = .ok (.lcmp, 1) := by decide +kernel
theorem dX7_isDot_24 : decode cX7_isDot 24 = .ok (.ifCond .ne 7, 3) := by decide +kernel
theorem dX7_isDot_27 : decode cX7_isDot 27 = .ok (.iconst 1, 1) := by decide +kernel
theorem dX7_isDot_28 : decode cX7_isDot 28 = .ok (.goto 4, 3) := by decide +kernel
theorem dX7_isDot_31 : decode cX7_isDot 31 = .ok (.iconst 0, 1) := by decide +kernel
theorem dX7_isDot_32 : decode cX7_isDot 32 = .ok (.ireturn, 1) := by decide +kernel
theorem dX7_isMask_0 : decode cX7_isMask 0 = .ok (.iload_n 1, 1) := by decide +kernel
theorem dX7_isMask_1 : decode cX7_isMask 1 = .ok (.i2l, 1) := by decide +kernel
theorem dX7_isMask_2 : decode cX7_isMask 2 = .ok (.lconst 0, 1) := by decide +kernel
theorem dX7_isMask_3 : decode cX7_isMask 3 = .ok (.aload_n 0, 1) := by decide +kernel
theorem dX7_isMask_4 : decode cX7_isMask 4 = .ok (.getfield 9, 3) := by decide +kernel
theorem dX7_isMask_7 : decode cX7_isMask 7 = .ok (.iconst 0, 1) := by decide +kernel
theorem dX7_isMask_8 : decode cX7_isMask 8 = .ok (.iaload, 1) := by decide +kernel
theorem dX7_isMask_9 : decode cX7_isMask 9 = .ok (.iconst 1, 1) := by decide +kernel
theorem dX7_isMask_10 : decode cX7_isMask 10 = .ok (.isub, 1) := by decide +kernel
theorem dX7_isMask_11 : decode cX7_isMask 11 = .ok (.i2l, 1) := by decide +kernel
theorem dX7_isMask_12 : decode cX7_isMask 12 = .ok (.invokestatic 96, 3) := by decide +kernel
theorem dX7_isMask_15 : decode cX7_isMask 15 = .ok (.ireturn, 1) := by decide +kernel
theorem dX7_isPlace_0 : decode cX7_isPlace 0 = .ok (.iload_n 1, 1) := by decide +kernel
theorem dX7_isPlace_1 : decode cX7_isPlace 1 = .ok (.i2l, 1) := by decide +kernel
theorem dX7_isPlace_2 : decode cX7_isPlace 2 = .ok (.ldc2_w 256, 3) := by decide +kernel
theorem dX7_isPlace_5 : decode cX7_isPlace 5 = .ok (.ldc2_w 258, 3) := by decide +kernel
theorem dX7_isPlace_8 : decode cX7_isPlace 8 = .ok (.invokestatic 96, 3) := by decide +kernel
theorem dX7_isPlace_11 : decode cX7_isPlace 11 = .ok (.ifCond .eq 21, 3) := by decide +kernel
theorem dX7_isPlace_14 : decode cX7_isPlace 14 = .ok (.iload_n 2, 1) := by decide +kernel
theorem dX7_isPlace_15 : decode cX7_isPlace 15 = .ok (.i2l, 1) := by decide +kernel
theorem dX7_isPlace_16 : decode cX7_isPlace 16 = .ok (.ldc2_w 256, 3) := by decide +kernel
theorem dX7_isPlace_19 : decode cX7_isPlace 19 = .ok (.ldc2_w 258, 3) := by decide +kernel
theorem dX7_isPlace_22 : decode cX7_isPlace 22 = .ok (.invokestatic 96, 3) := by decide +kernel
theorem dX7_isPlace_25 : decode cX7_isPlace 25 = .ok (.ifCond .eq 7, 3) := by decide +kernel
theorem dX7_isPlace_28 : decode cX7_isPlace 28 = .ok (.iconst 1, 1) := by decide +kernel
theorem dX7_isPlace_29 : decode cX7_isPlace 29 = .ok (.goto 4, 3) := by decide +kernel
theorem dX7_isPlace_32 : decode cX7_isPlace 32 = .ok (.iconst 0, 1) := by decide +kernel
theorem dX7_isPlace_33 : decode cX7_isPlace 33 = .ok (.ireturn, 1) := by decide +kernel
theorem dX7_isSign_0 : decode cX7_isSign 0 = .ok (.iload_n 0, 1) := by decide +kernel
theorem dX7_isSign_1 : decode cX7_isSign 1 = .ok (.bipush 35, 2) := by decide +kernel
theorem dX7_isSign_3 : decode cX7_isSign 3 = .ok (.if_icmp .eq 9, 3) := by decide +kernel
theorem dX7_isSign_6 : decode cX7_isSign 6 = .ok (.iload_n 0, 1) := by decide +kernel
theorem dX7_isSign_7 : decode cX7_isSign 7 = .ok (.bipush 46, 2) := by decide +kernel
theorem dX7_isSign_9 : decode cX7_isSign 9 = .ok (.if_icmp .ne 7, 3) := by decide +kernel
theorem dX7_isSign_12 : decode cX7_isSign 12 = .ok (.iconst 1, 1) := by decide +kernel
theorem dX7_isSign_13 : decode cX7_isSign 13 = .ok (.goto 4, 3) := by decide +kernel
theorem dX7_isSign_16 : decode cX7_isSign 16 = .ok (.iconst 0, 1) := by decide +kernel
theorem dX7_isSign_17 : decode cX7_isSign 17 = .ok (.ireturn, 1) := by decide +kernel
theorem dX7_lies_0 : decode cX7_lies 0 = .ok (.aload_n 0, 1) := by decide +kernel
theorem dX7_lies_1 : decode cX7_lies 1 = .ok (.iload_n 1, 1) := by decide +kernel
theorem dX7_lies_2 : decode cX7_lies 2 = .ok (.invokevirtual 212, 3) := by decide +kernel
theorem dX7_lies_5 : decode cX7_lies 5 = .ok (.istore 4, 2) := by decide +kernel
theorem dX7_lies_7 : decode cX7_lies 7 = .ok (.iload_n 2, 1) := by decide +kernel
theorem dX7_lies_8 : decode cX7_lies 8 = .ok (.aload_n 0, 1) := by decide +kernel
theorem dX7_lies_9 : decode cX7_lies 9 = .ok (.iload_n 1, 1) := by decide +kernel
theorem dX7_lies_10 : decode cX7_lies 10 = .ok (.iconst 1, 1) := by decide +kernel
theorem dX7_lies_11 : decode cX7_lies 11 = .ok (.invokevirtual 199, 3) := by decide +kernel
theorem dX7_lies_14 : decode cX7_lies 14 = .ok (.isub, 1) := by decide +kernel
theorem dX7_lies_15 : decode cX7_lies 15 = .ok (.istore 5, 2) := by decide +kernel
theorem dX7_lies_17 : decode cX7_lies 17 = .ok (.iload_n 3, 1) := by decide +kernel
theorem dX7_lies_18 : decode cX7_lies 18 = .ok (.aload_n 0, 1) := by decide +kernel
theorem dX7_lies_19 : decode cX7_lies 19 = .ok (.iload_n 1, 1) := by decide +kernel
theorem dX7_lies_20 : decode cX7_lies 20 = .ok (.iconst 2, 1) := by decide +kernel
theorem dX7_lies_21 : decode cX7_lies 21 = .ok (.invokevirtual 199, 3) := by decide +kernel
theorem dX7_lies_24 : decode cX7_lies 24 = .ok (.isub, 1) := by decide +kernel
theorem dX7_lies_25 : decode cX7_lies 25 = .ok (.istore 6, 2) := by decide +kernel
theorem dX7_lies_27 : decode cX7_lies 27 = .ok (.aload_n 0, 1) := by decide +kernel
theorem dX7_lies_28 : decode cX7_lies 28 = .ok (.iload_n 1, 1) := by decide +kernel
theorem dX7_lies_29 : decode cX7_lies 29 = .ok (.iconst 3, 1) := by decide +kernel
theorem dX7_lies_30 : decode cX7_lies 30 = .ok (.invokevirtual 199, 3) := by decide +kernel
theorem dX7_lies_33 : decode cX7_lies 33 = .ok (.istore 7, 2) := by decide +kernel
theorem dX7_lies_35 : decode cX7_lies 35 = .ok (.aload_n 0, 1) := by decide +kernel
theorem dX7_lies_36 : decode cX7_lies 36 = .ok (.iload 4, 2) := by decide +kernel
theorem dX7_lies_38 : decode cX7_lies 38 = .ok (.iload 7, 2) := by decide +kernel
theorem dX7_lies_40 : decode cX7_lies 40 = .ok (.iconst 2, 1) := by decide +kernel
theorem dX7_lies_41 : decode cX7_lies 41 = .ok (.irem, 1) := by decide +kernel
theorem dX7_lies_42 : decode cX7_lies 42 = .ok (.iconst 1, 1) := by decide +kernel
theorem dX7_lies_43 : decode cX7_lies 43 = .ok (.if_icmp .ne 17, 3) := by decide +kernel
theorem dX7_lies_46 : decode cX7_lies 46 = .ok (.aload_n 0, 1) := by decide +kernel
theorem dX7_lies_47 : decode cX7_lies 47 = .ok (.iload 4, 2) := by decide +kernel
theorem dX7_lies_49 : decode cX7_lies 49 = .ok (.invokevirtual 202, 3) := by decide +kernel
theorem dX7_lies_52 : decode cX7_lies 52 = .ok (.iconst 1, 1) := by decide +kernel
theorem dX7_lies_53 : decode cX7_lies 53 = .ok (.isub, 1) := by decide +kernel
theorem dX7_lies_54 : decode cX7_lies 54 = .ok (.iload 5, 2) := by decide +kernel
theorem dX7_lies_56 : decode cX7_lies 56 = .ok (.isub, 1) := by decide +kernel
theorem dX7_lies_57 : decode cX7_lies 57 = .ok (.goto 5, 3) := by decide +kernel
theorem dX7_lies_60 : decode cX7_lies 60 = .ok (.iload 5, 2) := by decide +kernel
theorem dX7_lies_62 : decode cX7_lies 62 = .ok (.iload 7, 2) := by decide +kernel
theorem dX7_lies_64 : decode cX7_lies 64 = .ok (.iconst 1, 1) := by decide +kernel
theorem dX7_lies_65 : decode cX7_lies 65 = .ok (.if_icmp .le 17, 3) := by decide +kernel
theorem dX7_lies_68 : decode cX7_lies 68 = .ok (.aload_n 0, 1) := by decide +kernel
theorem dX7_lies_69 : decode cX7_lies 69 = .ok (.iload 4, 2) := by decide +kernel
theorem dX7_lies_71 : decode cX7_lies 71 = .ok (.invokevirtual 205, 3) := by decide +kernel
theorem dX7_lies_74 : decode cX7_lies 74 = .ok (.iconst 1, 1) := by decide +kernel
theorem dX7_lies_75 : decode cX7_lies 75 = .ok (.isub, 1) := by decide +kernel
theorem dX7_lies_76 : decode cX7_lies 76 = .ok (.iload 6, 2) := by decide +kernel
theorem dX7_lies_78 : decode cX7_lies 78 = .ok (.isub, 1) := by decide +kernel
theorem dX7_lies_79 : decode cX7_lies 79 = .ok (.goto 5, 3) := by decide +kernel
theorem dX7_lies_82 : decode cX7_lies 82 = .ok (.iload 6, 2) := by decide +kernel
theorem dX7_lies_84 : decode cX7_lies 84 = .ok (.invokevirtual 215, 3) := by decide +kernel
theorem dX7_lies_87 : decode cX7_lies 87 = .ok (.ireturn, 1) := by decide +kernel
theorem dX7_low_0 : decode cX7_low 0 = .ok (.iload 4, 2) := by decide +kernel
theorem dX7_low_2 : decode cX7_low 2 = .ok (.bipush 64, 2) := by decide +kernel
theorem dX7_low_4 : decode cX7_low 4 = .ok (.if_icmp .ge 10, 3) := by decide +kernel
theorem dX7_low_7 : decode cX7_low 7 = .ok (.iload 4, 2) := by decide +kernel
theorem dX7_low_9 : decode cX7_low 9 = .ok (.bipush (-128), 2) := by decide +kernel
theorem dX7_low_11 : decode cX7_low 11 = .ok (.if_icmp .gt 5, 3) := by decide +kernel
theorem dX7_low_14 : decode cX7_low 14 = .ok (.lconst 0, 1) := by decide +kernel
theorem dX7_low_15 : decode cX7_low 15 = .ok (.lreturn, 1) := by decide +kernel
theorem dX7_low_16 : decode cX7_low 16 = .ok (.iload 4, 2) := by decide +kernel
theorem dX7_low_18 : decode cX7_low 18 = .ok (.ifCond .lt 8, 3) := by decide +kernel
theorem dX7_low_21 : decode cX7_low 21 = .ok (.lload_n 0, 1) := by decide +kernel
theorem dX7_low_22 : decode cX7_low 22 = .ok (.iload 4, 2) := by decide +kernel
theorem dX7_low_24 : decode cX7_low 24 = .ok (.lshl, 1) := by decide +kernel
theorem dX7_low_25 : decode cX7_low 25 = .ok (.lreturn, 1) := by decide +kernel
theorem dX7_low_26 : decode cX7_low 26 = .ok (.iload 4, 2) := by decide +kernel
theorem dX7_low_28 : decode cX7_low 28 = .ok (.ineg, 1) := by decide +kernel
theorem dX7_low_29 : decode cX7_low 29 = .ok (.istore 5, 2) := by decide +kernel
theorem dX7_low_31 : decode cX7_low 31 = .ok (.iload 5, 2) := by decide +kernel
theorem dX7_low_33 : decode cX7_low 33 = .ok (.bipush 64, 2) := by decide +kernel
theorem dX7_low_35 : decode cX7_low 35 = .ok (.if_icmp .ne 7, 3) := by decide +kernel
theorem dX7_low_38 : decode cX7_low 38 = .ok (.lload_n 2, 1) := by decide +kernel
theorem dX7_low_39 : decode cX7_low 39 = .ok (.goto 32, 3) := by decide +kernel
theorem dX7_low_42 : decode cX7_low 42 = .ok (.iload 5, 2) := by decide +kernel
theorem dX7_low_44 : decode cX7_low 44 = .ok (.bipush 64, 2) := by decide +kernel
theorem dX7_low_46 : decode cX7_low 46 = .ok (.if_icmp .le 13, 3) := by decide +kernel
theorem dX7_low_49 : decode cX7_low 49 = .ok (.lload_n 2, 1) := by decide +kernel
theorem dX7_low_50 : decode cX7_low 50 = .ok (.iload 5, 2) := by decide +kernel
theorem dX7_low_52 : decode cX7_low 52 = .ok (.bipush 64, 2) := by decide +kernel
theorem dX7_low_54 : decode cX7_low 54 = .ok (.isub, 1) := by decide +kernel
theorem dX7_low_55 : decode cX7_low 55 = .ok (.lushr, 1) := by decide +kernel
theorem dX7_low_56 : decode cX7_low 56 = .ok (.goto 15, 3) := by decide +kernel
theorem dX7_low_59 : decode cX7_low 59 = .ok (.lload_n 0, 1) := by decide +kernel
theorem dX7_low_60 : decode cX7_low 60 = .ok (.iload 5, 2) := by decide +kernel
theorem dX7_low_62 : decode cX7_low 62 = .ok (.lushr, 1) := by decide +kernel
theorem dX7_low_63 : decode cX7_low 63 = .ok (.lload_n 2, 1) := by decide +kernel
theorem dX7_low_64 : decode cX7_low 64 = .ok (.bipush 64, 2) := by decide +kernel
theorem dX7_low_66 : decode cX7_low 66 = .ok (.iload 5, 2) := by decide +kernel
theorem dX7_low_68 : decode cX7_low 68 = .ok (.isub, 1) := by decide +kernel
theorem dX7_low_69 : decode cX7_low 69 = .ok (.lshl, 1) := by decide +kernel
theorem dX7_low_70 : decode cX7_low 70 = .ok (.lor, 1) := by decide +kernel
theorem dX7_low_71 : decode cX7_low 71 = .ok (.lreturn, 1) := by decide +kernel
theorem dX7_maskOf_0 : decode cX7_maskOf 0 = .ok (.aload_n 0, 1) := by decide +kernel
theorem dX7_maskOf_1 : decode cX7_maskOf 1 = .ok (.iload_n 1, 1) := by decide +kernel
theorem dX7_maskOf_2 : decode cX7_maskOf 2 = .ok (.iconst 0, 1) := by decide +kernel
theorem dX7_maskOf_3 : decode cX7_maskOf 3 = .ok (.invokevirtual 199, 3) := by decide +kernel
theorem dX7_maskOf_6 : decode cX7_maskOf 6 = .ok (.ireturn, 1) := by decide +kernel
theorem dX7_mayTouch_0 : decode cX7_mayTouch 0 = .ok (.aload_n 0, 1) := by decide +kernel
theorem dX7_mayTouch_1 : decode cX7_mayTouch 1 = .ok (.iload_n 1, 1) := by decide +kernel
theorem dX7_mayTouch_2 : decode cX7_mayTouch 2 = .ok (.iconst 4, 1) := by decide +kernel
theorem dX7_mayTouch_3 : decode cX7_mayTouch 3 = .ok (.invokevirtual 199, 3) := by decide +kernel
theorem dX7_mayTouch_6 : decode cX7_mayTouch 6 = .ok (.aload_n 0, 1) := by decide +kernel
theorem dX7_mayTouch_7 : decode cX7_mayTouch 7 = .ok (.iload_n 2, 1) := by decide +kernel
theorem dX7_mayTouch_8 : decode cX7_mayTouch 8 = .ok (.iconst 5, 1) := by decide +kernel
theorem dX7_mayTouch_9 : decode cX7_mayTouch 9 = .ok (.invokevirtual 199, 3) := by decide +kernel
theorem dX7_mayTouch_12 : decode cX7_mayTouch 12 = .ok (.iand, 1) := by decide +kernel
theorem dX7_mayTouch_13 : decode cX7_mayTouch 13 = .ok (.ifCond .ne 19, 3) := by decide +kernel
theorem dX7_mayTouch_16 : decode cX7_mayTouch 16 = .ok (.aload_n 0, 1) := by decide +kernel
theorem dX7_mayTouch_17 : decode cX7_mayTouch 17 = .ok (.iload_n 2, 1) := by decide +kernel
theorem dX7_mayTouch_18 : decode cX7_mayTouch 18 = .ok (.iconst 4, 1) := by decide +kernel
theorem dX7_mayTouch_19 : decode cX7_mayTouch 19 = .ok (.invokevirtual 199, 3) := by decide +kernel
theorem dX7_mayTouch_22 : decode cX7_mayTouch 22 = .ok (.aload_n 0, 1) := by decide +kernel
theorem dX7_mayTouch_23 : decode cX7_mayTouch 23 = .ok (.iload_n 1, 1) := by decide +kernel
theorem dX7_mayTouch_24 : decode cX7_mayTouch 24 = .ok (.iconst 5, 1) := by decide +kernel
theorem dX7_mayTouch_25 : decode cX7_mayTouch 25 = .ok (.invokevirtual 199, 3) := by decide +kernel
theorem dX7_mayTouch_28 : decode cX7_mayTouch 28 = .ok (.iand, 1) := by decide +kernel
theorem dX7_mayTouch_29 : decode cX7_mayTouch 29 = .ok (.ifCond .eq 7, 3) := by decide +kernel
theorem dX7_mayTouch_32 : decode cX7_mayTouch 32 = .ok (.iconst 1, 1) := by decide +kernel
theorem dX7_mayTouch_33 : decode cX7_mayTouch 33 = .ok (.goto 4, 3) := by decide +kernel
theorem dX7_mayTouch_36 : decode cX7_mayTouch 36 = .ok (.iconst 0, 1) := by decide +kernel
theorem dX7_mayTouch_37 : decode cX7_mayTouch 37 = .ok (.ireturn, 1) := by decide +kernel
theorem dX7_of_0 : decode cX7_of 0 = .ok (.aload_n 0, 1) := by decide +kernel
theorem dX7_of_1 : decode cX7_of 1 = .ok (.getfield 9, 3) := by decide +kernel
theorem dX7_of_4 : decode cX7_of 4 = .ok (.bipush 19, 2) := by decide +kernel
theorem dX7_of_6 : decode cX7_of 6 = .ok (.bipush 8, 2) := by decide +kernel
theorem dX7_of_8 : decode cX7_of 8 = .ok (.iload_n 1, 1) := by decide +kernel
theorem dX7_of_9 : decode cX7_of 9 = .ok (.imul, 1) := by decide +kernel
theorem dX7_of_10 : decode cX7_of 10 = .ok (.iadd, 1) := by decide +kernel
theorem dX7_of_11 : decode cX7_of 11 = .ok (.iload_n 2, 1) := by decide +kernel
theorem dX7_of_12 : decode cX7_of 12 = .ok (.iadd, 1) := by decide +kernel
theorem dX7_of_13 : decode cX7_of 13 = .ok (.iaload, 1) := by decide +kernel
theorem dX7_of_14 : decode cX7_of 14 = .ok (.ireturn, 1) := by decide +kernel
theorem dX7_setsDot_0 : decode cX7_setsDot 0 = .ok (.aload_n 0, 1) := by decide +kernel
theorem dX7_setsDot_1 : decode cX7_setsDot 1 = .ok (.bipush 80, 2) := by decide +kernel
theorem dX7_setsDot_3 : decode cX7_setsDot 3 = .ok (.iload_n 1, 1) := by decide +kernel
theorem dX7_setsDot_4 : decode cX7_setsDot 4 = .ok (.imul, 1) := by decide +kernel
theorem dX7_setsDot_5 : decode cX7_setsDot 5 = .ok (.iconst 2, 1) := by decide +kernel
theorem dX7_setsDot_6 : decode cX7_setsDot 6 = .ok (.iload_n 3, 1) := by decide +kernel
theorem dX7_setsDot_7 : decode cX7_setsDot 7 = .ok (.imul, 1) := by decide +kernel
theorem dX7_setsDot_8 : decode cX7_setsDot 8 = .ok (.iadd, 1) := by decide +kernel
theorem dX7_setsDot_9 : decode cX7_setsDot 9 = .ok (.iload_n 2, 1) := by decide +kernel
theorem dX7_setsDot_10 : decode cX7_setsDot 10 = .ok (.bipush 64, 2) := by decide +kernel
theorem dX7_setsDot_12 : decode cX7_setsDot 12 = .ok (.idiv, 1) := by decide +kernel
theorem dX7_setsDot_13 : decode cX7_setsDot 13 = .ok (.iadd, 1) := by decide +kernel
theorem dX7_setsDot_14 : decode cX7_setsDot 14 = .ok (.dup2, 1) := by decide +kernel
theorem dX7_setsDot_15 : decode cX7_setsDot 15 = .ok (.laload, 1) := by decide +kernel
theorem dX7_setsDot_16 : decode cX7_setsDot 16 = .ok (.lconst 1, 1) := by decide +kernel
theorem dX7_setsDot_17 : decode cX7_setsDot 17 = .ok (.iload_n 2, 1) := by decide +kernel
theorem dX7_setsDot_18 : decode cX7_setsDot 18 = .ok (.bipush 64, 2) := by decide +kernel
theorem dX7_setsDot_20 : decode cX7_setsDot 20 = .ok (.irem, 1) := by decide +kernel
theorem dX7_setsDot_21 : decode cX7_setsDot 21 = .ok (.lshl, 1) := by decide +kernel
theorem dX7_setsDot_22 : decode cX7_setsDot 22 = .ok (.lor, 1) := by decide +kernel
theorem dX7_setsDot_23 : decode cX7_setsDot 23 = .ok (.lastore, 1) := by decide +kernel
theorem dX7_setsDot_24 : decode cX7_setsDot 24 = .ok (.return_, 1) := by decide +kernel
theorem dX7_top_0 : decode cX7_top 0 = .ok (.iload 4, 2) := by decide +kernel
theorem dX7_top_2 : decode cX7_top 2 = .ok (.sipush 128, 3) := by decide +kernel
theorem dX7_top_5 : decode cX7_top 5 = .ok (.if_icmp .ge 10, 3) := by decide +kernel
theorem dX7_top_8 : decode cX7_top 8 = .ok (.iload 4, 2) := by decide +kernel
theorem dX7_top_10 : decode cX7_top 10 = .ok (.bipush (-64), 2) := by decide +kernel
theorem dX7_top_12 : decode cX7_top 12 = .ok (.if_icmp .gt 5, 3) := by decide +kernel
theorem dX7_top_15 : decode cX7_top 15 = .ok (.lconst 0, 1) := by decide +kernel
theorem dX7_top_16 : decode cX7_top 16 = .ok (.lreturn, 1) := by decide +kernel
theorem dX7_top_17 : decode cX7_top 17 = .ok (.iload 4, 2) := by decide +kernel
theorem dX7_top_19 : decode cX7_top 19 = .ok (.ifCond .gt 18, 3) := by decide +kernel
theorem dX7_top_22 : decode cX7_top 22 = .ok (.iload 4, 2) := by decide +kernel
theorem dX7_top_24 : decode cX7_top 24 = .ok (.ifCond .ne 7, 3) := by decide +kernel
theorem dX7_top_27 : decode cX7_top 27 = .ok (.lload_n 2, 1) := by decide +kernel
theorem dX7_top_28 : decode cX7_top 28 = .ok (.goto 8, 3) := by decide +kernel
theorem dX7_top_31 : decode cX7_top 31 = .ok (.lload_n 2, 1) := by decide +kernel
theorem dX7_top_32 : decode cX7_top 32 = .ok (.iload 4, 2) := by decide +kernel
theorem dX7_top_34 : decode cX7_top 34 = .ok (.ineg, 1) := by decide +kernel
theorem dX7_top_35 : decode cX7_top 35 = .ok (.lushr, 1) := by decide +kernel
theorem dX7_top_36 : decode cX7_top 36 = .ok (.lreturn, 1) := by decide +kernel
theorem dX7_top_37 : decode cX7_top 37 = .ok (.iload 4, 2) := by decide +kernel
theorem dX7_top_39 : decode cX7_top 39 = .ok (.bipush 64, 2) := by decide +kernel
theorem dX7_top_41 : decode cX7_top 41 = .ok (.if_icmp .ne 7, 3) := by decide +kernel
theorem dX7_top_44 : decode cX7_top 44 = .ok (.lload_n 0, 1) := by decide +kernel
theorem dX7_top_45 : decode cX7_top 45 = .ok (.goto 32, 3) := by decide +kernel
theorem dX7_top_48 : decode cX7_top 48 = .ok (.iload 4, 2) := by decide +kernel
theorem dX7_top_50 : decode cX7_top 50 = .ok (.bipush 64, 2) := by decide +kernel
theorem dX7_top_52 : decode cX7_top 52 = .ok (.if_icmp .le 13, 3) := by decide +kernel
theorem dX7_top_55 : decode cX7_top 55 = .ok (.lload_n 0, 1) := by decide +kernel
theorem dX7_top_56 : decode cX7_top 56 = .ok (.iload 4, 2) := by decide +kernel
theorem dX7_top_58 : decode cX7_top 58 = .ok (.bipush 64, 2) := by decide +kernel
theorem dX7_top_60 : decode cX7_top 60 = .ok (.isub, 1) := by decide +kernel
theorem dX7_top_61 : decode cX7_top 61 = .ok (.lshl, 1) := by decide +kernel
theorem dX7_top_62 : decode cX7_top 62 = .ok (.goto 15, 3) := by decide +kernel
theorem dX7_top_65 : decode cX7_top 65 = .ok (.lload_n 2, 1) := by decide +kernel
theorem dX7_top_66 : decode cX7_top 66 = .ok (.iload 4, 2) := by decide +kernel
theorem dX7_top_68 : decode cX7_top 68 = .ok (.lshl, 1) := by decide +kernel
theorem dX7_top_69 : decode cX7_top 69 = .ok (.lload_n 0, 1) := by decide +kernel
theorem dX7_top_70 : decode cX7_top 70 = .ok (.bipush 64, 2) := by decide +kernel
theorem dX7_top_72 : decode cX7_top 72 = .ok (.iload 4, 2) := by decide +kernel
theorem dX7_top_74 : decode cX7_top 74 = .ok (.isub, 1) := by decide +kernel
theorem dX7_top_75 : decode cX7_top 75 = .ok (.lushr, 1) := by decide +kernel
theorem dX7_top_76 : decode cX7_top 76 = .ok (.lor, 1) := by decide +kernel
theorem dX7_top_77 : decode cX7_top 77 = .ok (.lreturn, 1) := by decide +kernel
theorem dX7_truth_0 : decode cX7_truth 0 = .ok (.iload_n 0, 1) := by decide +kernel
theorem dX7_truth_1 : decode cX7_truth 1 = .ok (.ifCond .eq 7, 3) := by decide +kernel
theorem dX7_truth_4 : decode cX7_truth 4 = .ok (.iconst 1, 1) := by decide +kernel
theorem dX7_truth_5 : decode cX7_truth 5 = .ok (.goto 4, 3) := by decide +kernel
theorem dX7_truth_8 : decode cX7_truth 8 = .ok (.iconst 0, 1) := by decide +kernel
theorem dX7_truth_9 : decode cX7_truth 9 = .ok (.ireturn, 1) := by decide +kernel
theorem dX7_wide_0 : decode cX7_wide 0 = .ok (.aload_n 0, 1) := by decide +kernel
theorem dX7_wide_1 : decode cX7_wide 1 = .ok (.getfield 9, 3) := by decide +kernel
theorem dX7_wide_4 : decode cX7_wide 4 = .ok (.iconst 3, 1) := by decide +kernel
theorem dX7_wide_5 : decode cX7_wide 5 = .ok (.iload_n 1, 1) := by decide +kernel
theorem dX7_wide_6 : decode cX7_wide 6 = .ok (.iadd, 1) := by decide +kernel
theorem dX7_wide_7 : decode cX7_wide 7 = .ok (.iaload, 1) := by decide +kernel
theorem dX7_wide_8 : decode cX7_wide 8 = .ok (.ireturn, 1) := by decide +kernel
set_option maxRecDepth 100000 in
theorem pq23 : Cond.selects RX7 yX7_isBody yX7_isBody ∈ pw := pw_mem (i := 23) (by decide +kernel) rfl
set_option maxRecDepth 100000 in
theorem pq25 : Cond.selects RX7 yX7_of yX7_of ∈ pw := pw_mem (i := 25) (by decide +kernel) rfl
set_option maxRecDepth 100000 in
theorem pq32 : Cond.selects RX7 yX7_wide yX7_wide ∈ pw := pw_mem (i := 32) (by decide +kernel) rfl
set_option maxRecDepth 100000 in
theorem pq33 : Cond.selects RX7 yX7_high yX7_high ∈ pw := pw_mem (i := 33) (by decide +kernel) rfl
set_option maxRecDepth 100000 in
theorem pq34 : Cond.selects RX7 yX7_has yX7_has ∈ pw := pw_mem (i := 34) (by decide +kernel) rfl
set_option maxRecDepth 100000 in
theorem pq41 : Cond.selects RX7 yX7_maskOf yX7_maskOf ∈ pw := pw_mem (i := 41) (by decide +kernel) rfl
set_option maxRecDepth 100000 in
theorem pq81 : Cond.initialized RX7 ∈ pw := pw_mem (i := 81) (by decide +kernel) rfl
set_option maxRecDepth 100000 in
theorem pq1115 : Cond.fieldLink RX7 9 "MaskTouchModel" "now" "[I" ∈ pw := pw_mem (i := 1115) (by decide +kernel) rfl
set_option maxRecDepth 100000 in
theorem pq1120 : Cond.fieldLink RX7 25 "MaskTouchModel" "dots" "[J" ∈ pw := pw_mem (i := 1120) (by decide +kernel) rfl
set_option maxRecDepth 100000 in
theorem pq1234 : Cond.methodLink RX7 96 yX7_in ∈ pw := pw_mem (i := 1234) (by decide +kernel) rfl
set_option maxRecDepth 100000 in
theorem pq1235 : Cond.static yX7_in ∈ pw := pw_mem (i := 1235) (by decide +kernel) rfl
set_option maxRecDepth 100000 in
theorem pq1236 : Cond.code yX7_in cX7_in 6 (some .boolean) ∈ pw := pw_mem (i := 1236) (by rfl) rfl
set_option maxRecDepth 100000 in
theorem pq1310 : Cond.methodLink RX7 196 yX7_isBody ∈ pw := pw_mem (i := 1310) (by decide +kernel) rfl
set_option maxRecDepth 100000 in
theorem pq1312 : Cond.instanceMethod yX7_isBody ∈ pw := pw_mem (i := 1312) (by decide +kernel) rfl
set_option maxRecDepth 100000 in
theorem pq1313 : Cond.code yX7_isBody cX7_isBody 2 (some .boolean) ∈ pw := pw_mem (i := 1313) (by rfl) rfl
set_option maxRecDepth 100000 in
theorem pq1318 : Cond.constantLong RX7 256 (-999) ∈ pw := pw_mem (i := 1318) (by decide +kernel) rfl
set_option maxRecDepth 100000 in
theorem pq1319 : Cond.constantLong RX7 258 (999) ∈ pw := pw_mem (i := 1319) (by decide +kernel) rfl
set_option maxRecDepth 100000 in
theorem pq1320 : Cond.methodLink RX7 199 yX7_of ∈ pw := pw_mem (i := 1320) (by decide +kernel) rfl
set_option maxRecDepth 100000 in
theorem pq1322 : Cond.instanceMethod yX7_of ∈ pw := pw_mem (i := 1322) (by decide +kernel) rfl
set_option maxRecDepth 100000 in
theorem pq1323 : Cond.code yX7_of cX7_of 3 (some .int) ∈ pw := pw_mem (i := 1323) (by rfl) rfl
set_option maxRecDepth 100000 in
theorem pq1368 : Cond.methodLink RX7 202 yX7_wide ∈ pw := pw_mem (i := 1368) (by decide +kernel) rfl
set_option maxRecDepth 100000 in
theorem pq1370 : Cond.instanceMethod yX7_wide ∈ pw := pw_mem (i := 1370) (by decide +kernel) rfl
set_option maxRecDepth 100000 in
theorem pq1371 : Cond.code yX7_wide cX7_wide 2 (some .int) ∈ pw := pw_mem (i := 1371) (by rfl) rfl
set_option maxRecDepth 100000 in
theorem pq1372 : Cond.methodLink RX7 205 yX7_high ∈ pw := pw_mem (i := 1372) (by decide +kernel) rfl
set_option maxRecDepth 100000 in
theorem pq1374 : Cond.instanceMethod yX7_high ∈ pw := pw_mem (i := 1374) (by decide +kernel) rfl
set_option maxRecDepth 100000 in
theorem pq1375 : Cond.code yX7_high cX7_high 2 (some .int) ∈ pw := pw_mem (i := 1375) (by rfl) rfl
set_option maxRecDepth 100000 in
theorem pq1376 : Cond.methodLink RX7 215 yX7_has ∈ pw := pw_mem (i := 1376) (by decide +kernel) rfl
set_option maxRecDepth 100000 in
theorem pq1378 : Cond.instanceMethod yX7_has ∈ pw := pw_mem (i := 1378) (by decide +kernel) rfl
set_option maxRecDepth 100000 in
theorem pq1379 : Cond.code yX7_has cX7_has 4 (some .boolean) ∈ pw := pw_mem (i := 1379) (by rfl) rfl
set_option maxRecDepth 100000 in
theorem pq1380 : Cond.methodLink RX7 208 yX7_isDot ∈ pw := pw_mem (i := 1380) (by decide +kernel) rfl
set_option maxRecDepth 100000 in
theorem pq1381 : Cond.static yX7_isDot ∈ pw := pw_mem (i := 1381) (by decide +kernel) rfl
set_option maxRecDepth 100000 in
theorem pq1382 : Cond.code yX7_isDot cX7_isDot 4 (some .boolean) ∈ pw := pw_mem (i := 1382) (by rfl) rfl
set_option maxRecDepth 100000 in
theorem pq1425 : Cond.constantLong RX7 324 (-200) ∈ pw := pw_mem (i := 1425) (by decide +kernel) rfl
set_option maxRecDepth 100000 in
theorem pq1426 : Cond.constantLong RX7 326 (200) ∈ pw := pw_mem (i := 1426) (by decide +kernel) rfl
set_option maxRecDepth 100000 in
theorem pq1431 : Cond.methodLink RX7 212 yX7_maskOf ∈ pw := pw_mem (i := 1431) (by decide +kernel) rfl
set_option maxRecDepth 100000 in
theorem pq1433 : Cond.instanceMethod yX7_maskOf ∈ pw := pw_mem (i := 1433) (by decide +kernel) rfl
set_option maxRecDepth 100000 in
theorem pq1434 : Cond.code yX7_maskOf cX7_maskOf 2 (some .int) ∈ pw := pw_mem (i := 1434) (by rfl) rfl
set_option maxHeartbeats 4000000 in
set_option maxRecDepth 100000 in
theorem s_X7_in (l : Launch) (dC : Nat → ClassId) (dI : Nat → Nat → Nat) (cs : Nat → ClassId) (L : List Nat) (K : Nat → Nat) (Q : Nat → Nat → Option Nat) (sz : Nat) (I : Nat → Nat → Int32) (J : Nat → Nat → Int64) (p0 : Int64) (p1 : Int64) (p2 : Int64) : Met l yX7_in (.code yX7_in cX7_in 6 (some .boolean) :: pw) ({ frames := 0, cells := 0, slots := 0, locals := 0 }) (sP (dC, dI) cs [.long p0, .long p1, .long p2] sz L K I J Q) (va_Qi (fun (r : Int32) (_ : Unit) => ((0) ≤ r.toInt ∧ r.toInt ≤ 1) ∧ (¬ r.toInt = 0 → ((p1.toInt) ≤ p0.toInt ∧ p0.toInt ≤ (p2.toInt))) ∧ (r.toInt = 0 → ¬ (p1.toInt ≤ p0.toInt ∧ p0.toInt ≤ p2.toInt))) (fun _ _ => True) (fun _ => False)) 0 0 (fun _ => False) := by
  refine Met.ofW (cc := cX7_in) (maxL := 6) (ret := (some .boolean)) (by decide +kernel) rfl ?_
  intro p e s m args below meth c s₁ B hml hv
  obtain ⟨rfl, hsz, hP, hK, hD0, hN⟩ := hv
  have hx := B.exec
  have hb := B.bytes
  have hr := B.returns
  have hts := fun w (h : w ∈ pw) => atoms_spec (ws := Cond.code yX7_in cX7_in 6 (some .boolean) :: pw) B.pre w (List.mem_cons_of_mem _ h)
  have hown : s.vm.findClass RX7 = some m.cls := findClass_of_methodNamed B.named
  have hlocks := B.notSynchronized
  subst hsz
  have hD := hD0
  obtain ⟨H, hHe⟩ : ∃ H : Heap, H = s.heap := ⟨_, rfl⟩
  have hS : va_S (fun _ => False) s.heap H [] := by rw [hHe]; exact va_S.rf
  rw [← hHe] at hP
  have hl := lv_entry ([.long p0, .long p1, .long p2]) (n := 6) (Nat.le_of_ble_eq_true rfl)
  rw [lg_entry_eq]
  generalize (lg_sl ([.long p0, .long p1, .long p2]) ++ List.replicate (6 - (lg_sl ([.long p0, .long p1, .long p2])).length) Slot.unset).toArray = ls at hl ⊢
  have hl : lv_has ls 6 [(0, .long p0), (2, .long p1), (4, .long p2)] := hl
  rw [← hHe]
  refine namedW (fun R Qz hR hQz => ?_)
  refine lv_lload_n hx hb dX7_in_0 rfl (lv_at hl 0 rfl) ?_
  refine lv_lload_n hx hb dX7_in_1 rfl (lv_at hl 1 rfl) ?_
  refine W.lcmp hx hb dX7_in_2 ?_
  refine lv_topi (fun z2 ez2 => ?_)
  have bz2 := tq_lcmp (k := p0.toInt) (q := p1.toInt) ez2 rfl rfl
  refine lv_if_lt (tgt := 17) hx hb dX7_in_3 (by decide) (fun c3 => ?_) (fun c3 => ?_)
  · have t3 := tq_lt (k := z2.toInt) (q := (0)) c3 rfl (by decide +kernel)
    have rg3z2 := fb_rng z2
    refine lv_iconst (v := 0) hx hb dX7_in_17 (by decide +kernel) ?_
    subst hR; subst hQz
    exact W.zret (v := 0) hx hb hr (by decide +kernel) (fun t ht hW => ⟨⟨0, (), rfl, ⟨⟨by decide +kernel, by decide +kernel⟩, fun h => absurd (by decide +kernel) h, (fun _ h => by omega)⟩, trivial⟩, hS.F ht⟩) hS.2.2 dX7_in_18
  · have t3 := tq_nlt (k := z2.toInt) (q := (0)) c3 rfl (by decide +kernel)
    refine lv_lload_n hx hb dX7_in_6 rfl (lv_at hl 0 rfl) ?_
    refine lv_lload hx hb dX7_in_7 (lv_at hl 2 rfl) ?_
    refine W.lcmp hx hb dX7_in_9 ?_
    refine lv_topi (fun z9 ez9 => ?_)
    have bz9 := tq_lcmp (k := p0.toInt) (q := p2.toInt) ez9 rfl rfl
    refine lv_if_gt (tgt := 17) hx hb dX7_in_10 (by decide) (fun c10 => ?_) (fun c10 => ?_)
    · have t10 := tq_lt (k := (0)) (q := z9.toInt) c10 (by decide +kernel) rfl
      have rg10z9 := fb_rng z9
      refine lv_iconst (v := 0) hx hb dX7_in_17 (by decide +kernel) ?_
      subst hR; subst hQz
      exact W.zret (v := 0) hx hb hr (by decide +kernel) (fun t ht hW => ⟨⟨0, (), rfl, ⟨⟨by decide +kernel, by decide +kernel⟩, fun h => absurd (by decide +kernel) h, (fun _ h => by omega)⟩, trivial⟩, hS.F ht⟩) hS.2.2 dX7_in_18
    · have t10 := tq_nlt (k := (0)) (q := z9.toInt) c10 (by decide +kernel) rfl
      refine lv_iconst (v := 1) hx hb dX7_in_13 (by decide +kernel) ?_
      refine lv_goto (tgt := 18) hx hb dX7_in_14 (by decide) ?_
      subst hR; subst hQz
      exact W.zret (v := 1) hx hb hr (by decide +kernel) (fun t ht hW => ⟨⟨1, (), rfl, ⟨⟨by decide +kernel, by decide +kernel⟩, fun _ => ⟨by omega, by omega⟩, (fun h => absurd h (by decide +kernel))⟩, trivial⟩, hS.F ht⟩) hS.2.2 dX7_in_18

set_option maxHeartbeats 4000000 in
set_option maxRecDepth 100000 in
theorem s_X7_truth (l : Launch) (dC : Nat → ClassId) (dI : Nat → Nat → Nat) (cs : Nat → ClassId) (L : List Nat) (K : Nat → Nat) (Q : Nat → Nat → Option Nat) (sz : Nat) (I : Nat → Nat → Int32) (J : Nat → Nat → Int64) (p0 : Int32) : Met l yX7_truth (.code yX7_truth cX7_truth 1 (some .int) :: pw) ({ frames := 0, cells := 0, slots := 0, locals := 0 }) (sP (dC, dI) cs [.int p0] sz L K I J Q) (va_Qi (fun (r : Int32) (_ : Unit) => ((0) ≤ r.toInt ∧ r.toInt ≤ 1) ∧ ((p0.toInt = 0 → r.toInt = 0) ∧ (¬ p0.toInt = 0 → r.toInt = 1))) (fun _ _ => True) (fun _ => False)) 0 0 (fun _ => False) := by
  refine Met.ofW (cc := cX7_truth) (maxL := 1) (ret := (some .int)) (by decide +kernel) rfl ?_
  intro p e s m args below meth c s₁ B hml hv
  obtain ⟨rfl, hsz, hP, hK, hD0, hN⟩ := hv
  have hx := B.exec
  have hb := B.bytes
  have hr := B.returns
  have hts := fun w (h : w ∈ pw) => atoms_spec (ws := Cond.code yX7_truth cX7_truth 1 (some .int) :: pw) B.pre w (List.mem_cons_of_mem _ h)
  have hown : s.vm.findClass RX7 = some m.cls := findClass_of_methodNamed B.named
  have hlocks := B.notSynchronized
  subst hsz
  have hD := hD0
  obtain ⟨H, hHe⟩ : ∃ H : Heap, H = s.heap := ⟨_, rfl⟩
  have hS : va_S (fun _ => False) s.heap H [] := by rw [hHe]; exact va_S.rf
  rw [← hHe] at hP
  have hl := lv_entry ([.int p0]) (n := 1) (Nat.le_of_ble_eq_true rfl)
  rw [lg_entry_eq]
  generalize (lg_sl ([.int p0]) ++ List.replicate (1 - (lg_sl ([.int p0])).length) Slot.unset).toArray = ls at hl ⊢
  have hl : lv_has ls 1 [(0, .int p0)] := hl
  rw [← hHe]
  refine namedW (fun R Qz hR hQz => ?_)
  refine lv_iload_n hx hb dX7_truth_0 rfl (lv_at hl 0 rfl) ?_
  refine lv_if_eq (tgt := 8) hx hb dX7_truth_1 (by decide) (fun c1 => ?_) (fun c1 => ?_)
  · have t1 := tq_eq (k := p0.toInt) (q := (0)) c1 rfl (by decide +kernel)
    refine lv_iconst (v := 0) hx hb dX7_truth_8 (by decide +kernel) ?_
    subst hR; subst hQz
    exact W.iret (v := 0) hx hb hr (fun t ht hW => ⟨⟨0, (), rfl, ⟨⟨by decide +kernel, by decide +kernel⟩, ⟨fun _ => by decide +kernel, fun h => absurd (by omega) h⟩⟩, trivial⟩, hS.F ht⟩) hS.2.2 dX7_truth_9
  · have t1 := tq_ne (k := p0.toInt) (q := (0)) c1 rfl (by decide +kernel)
    refine lv_iconst (v := 1) hx hb dX7_truth_4 (by decide +kernel) ?_
    refine lv_goto (tgt := 9) hx hb dX7_truth_5 (by decide) ?_
    subst hR; subst hQz
    exact W.iret (v := 1) hx hb hr (fun t ht hW => ⟨⟨1, (), rfl, ⟨⟨by decide +kernel, by decide +kernel⟩, ⟨fun h => absurd h (by omega), fun _ => by decide +kernel⟩⟩, trivial⟩, hS.F ht⟩) hS.2.2 dX7_truth_9

set_option maxHeartbeats 4000000 in
set_option maxRecDepth 100000 in
theorem s_X7_wide (l : Launch) (dC : Nat → ClassId) (dI : Nat → Nat → Nat) (cs : Nat → ClassId) (L : List Nat) (K G : Nat → Nat) (Q : Nat → Nat → Option Nat) (hQ : Sv L K G Q) (x0 m0 : Nat) (tx : GT) (tm : GT × Int) (sz : Nat) (I : Nat → Nat → Int32) (J : Nat → Nat → Int64) (hI : Iv L K x0 m0 tx tm I) (p0 : Nat) (hLp0 : p0 ∈ L) (hKp0 : K p0 = 7) (p1 : Int32) (bp1 : (0) ≤ p1.toInt ∧ p1.toInt ≤ 7) : Met l yX7_wide (.code yX7_wide cX7_wide 2 (some .int) :: pw) ({ frames := 0, cells := 0, slots := 0, locals := 0 }) (sP (dC, dI) cs [.ref p0, .int p1] sz L K I J Q) (va_Qi (fun (r : Int32) (_ : Unit) => ((-300) ≤ r.toInt ∧ r.toInt ≤ 100) ∧ (r = I ((Q p0 0).getD 0) (3 + p1.toInt.toNat))) (fun _ _ => True) (fun _ => False)) 0 0 (fun _ => False) := by
  refine Met.ofW (cc := cX7_wide) (maxL := 2) (ret := (some .int)) (by decide +kernel) rfl ?_
  intro p e s m args below meth c s₁ B hml hv
  obtain ⟨rfl, hsz, hP, hK, hD0, hN⟩ := hv
  have hx := B.exec
  have hb := B.bytes
  have hr := B.returns
  have hts := fun w (h : w ∈ pw) => atoms_spec (ws := Cond.code yX7_wide cX7_wide 2 (some .int) :: pw) B.pre w (List.mem_cons_of_mem _ h)
  have hown : s.vm.findClass RX7 = some m.cls := findClass_of_methodNamed B.named
  have hlocks := B.notSynchronized
  subst hsz
  have hBB : 999 ≤ tm.2 ∧ tm.2 ≤ 6000000 := hI.2.2.2.2.1
  have hD := hD0
  obtain ⟨H, hHe⟩ : ∃ H : Heap, H = s.heap := ⟨_, rfl⟩
  have hS : va_S (fun _ => False) s.heap H [] := by rw [hHe]; exact va_S.rf
  rw [← hHe] at hP
  have hl := lv_entry ([.ref p0, .int p1]) (n := 2) (Nat.le_of_ble_eq_true rfl)
  rw [lg_entry_eq]
  generalize (lg_sl ([.ref p0, .int p1]) ++ List.replicate (2 - (lg_sl ([.ref p0, .int p1])).length) Slot.unset).toArray = ls at hl ⊢
  have hl : lv_has ls 2 [(0, .ref p0), (1, .int p1)] := hl
  rw [← hHe]
  refine namedW (fun R Qz hR hQz => ?_)
  refine lv_aload_n hx hb dX7_wide_0 rfl (lv_at hl 0 rfl) ?_
  obtain ⟨y1, ey1, hLy1, hKy1⟩ := oQ_7_0 (Sv_at hQ hLp0 hKp0)
  refine p_get (v := .ref y1) hx hb hts inX7 hown hK hP hLp0 hKp0 rfl rfl 0 (by decide) (hts _ pq1115) (congrArg (fun q => some (va_rf q)) ey1) dX7_wide_1 ?_
  refine lv_iconst (v := 3) hx hb dX7_wide_4 (by decide +kernel) ?_
  refine lv_iload_n hx hb dX7_wide_5 rfl (lv_at hl 1 rfl) ?_
  refine lv_iadd hx hb dX7_wide_6 ?_
  refine lv_topi (fun z6 ez6 => ?_)
  have bz6 := tq_add (k := (3)) (q := p1.toInt) ez6 (by decide +kernel) rfl (by omega) (by omega)
  refine p_iald hx hb hK hP 8 hLy1 hKy1 rfl rfl (in_of (by omega) (by omega)) dX7_wide_7 ?_
  refine lv_topi (fun z7 ez7 => ?_)
  have bz7 := oR_18 (i := z6) (k := z6.toInt) rfl (Iv_at hI hLy1 hKy1)
  rw [← ez7] at bz7
  unfold rng at bz7
  subst hR; subst hQz
  exact W.iret (v := z7) hx hb hr (fun t ht hW => ⟨⟨z7, (), rfl, ⟨⟨by omega, by omega⟩, (by rw [ez7, ey1]; show I y1 z6.toInt.toNat = I y1 (3 + p1.toInt.toNat); congr 1; omega)⟩, trivial⟩, hS.F ht⟩) hS.2.2 dX7_wide_8

set_option maxHeartbeats 4000000 in
set_option maxRecDepth 100000 in
theorem s_X7_high (l : Launch) (dC : Nat → ClassId) (dI : Nat → Nat → Nat) (cs : Nat → ClassId) (L : List Nat) (K G : Nat → Nat) (Q : Nat → Nat → Option Nat) (hQ : Sv L K G Q) (x0 m0 : Nat) (tx : GT) (tm : GT × Int) (sz : Nat) (I : Nat → Nat → Int32) (J : Nat → Nat → Int64) (hI : Iv L K x0 m0 tx tm I) (p0 : Nat) (hLp0 : p0 ∈ L) (hKp0 : K p0 = 7) (p1 : Int32) (bp1 : (0) ≤ p1.toInt ∧ p1.toInt ≤ 7) : Met l yX7_high (.code yX7_high cX7_high 2 (some .int) :: pw) ({ frames := 0, cells := 0, slots := 0, locals := 0 }) (sP (dC, dI) cs [.ref p0, .int p1] sz L K I J Q) (va_Qi (fun (r : Int32) (_ : Unit) => ((-300) ≤ r.toInt ∧ r.toInt ≤ 40) ∧ (r = I ((Q p0 0).getD 0) (11 + p1.toInt.toNat))) (fun _ _ => True) (fun _ => False)) 0 0 (fun _ => False) := by
  refine Met.ofW (cc := cX7_high) (maxL := 2) (ret := (some .int)) (by decide +kernel) rfl ?_
  intro p e s m args below meth c s₁ B hml hv
  obtain ⟨rfl, hsz, hP, hK, hD0, hN⟩ := hv
  have hx := B.exec
  have hb := B.bytes
  have hr := B.returns
  have hts := fun w (h : w ∈ pw) => atoms_spec (ws := Cond.code yX7_high cX7_high 2 (some .int) :: pw) B.pre w (List.mem_cons_of_mem _ h)
  have hown : s.vm.findClass RX7 = some m.cls := findClass_of_methodNamed B.named
  have hlocks := B.notSynchronized
  subst hsz
  have hBB : 999 ≤ tm.2 ∧ tm.2 ≤ 6000000 := hI.2.2.2.2.1
  have hD := hD0
  obtain ⟨H, hHe⟩ : ∃ H : Heap, H = s.heap := ⟨_, rfl⟩
  have hS : va_S (fun _ => False) s.heap H [] := by rw [hHe]; exact va_S.rf
  rw [← hHe] at hP
  have hl := lv_entry ([.ref p0, .int p1]) (n := 2) (Nat.le_of_ble_eq_true rfl)
  rw [lg_entry_eq]
  generalize (lg_sl ([.ref p0, .int p1]) ++ List.replicate (2 - (lg_sl ([.ref p0, .int p1])).length) Slot.unset).toArray = ls at hl ⊢
  have hl : lv_has ls 2 [(0, .ref p0), (1, .int p1)] := hl
  rw [← hHe]
  refine namedW (fun R Qz hR hQz => ?_)
  refine lv_aload_n hx hb dX7_high_0 rfl (lv_at hl 0 rfl) ?_
  obtain ⟨y1, ey1, hLy1, hKy1⟩ := oQ_7_0 (Sv_at hQ hLp0 hKp0)
  refine p_get (v := .ref y1) hx hb hts inX7 hown hK hP hLp0 hKp0 rfl rfl 0 (by decide) (hts _ pq1115) (congrArg (fun q => some (va_rf q)) ey1) dX7_high_1 ?_
  refine lv_bipush (v := 11) hx hb dX7_high_4 (by decide +kernel) ?_
  refine lv_iload_n hx hb dX7_high_6 rfl (lv_at hl 1 rfl) ?_
  refine lv_iadd hx hb dX7_high_7 ?_
  refine lv_topi (fun z7 ez7 => ?_)
  have bz7 := tq_add (k := (11)) (q := p1.toInt) ez7 (by decide +kernel) rfl (by omega) (by omega)
  refine p_iald hx hb hK hP 8 hLy1 hKy1 rfl rfl (in_of (by omega) (by omega)) dX7_high_8 ?_
  refine lv_topi (fun z8 ez8 => ?_)
  have bz8 := oR_18 (i := z7) (k := z7.toInt) rfl (Iv_at hI hLy1 hKy1)
  rw [← ez8] at bz8
  unfold rng at bz8
  subst hR; subst hQz
  exact W.iret (v := z8) hx hb hr (fun t ht hW => ⟨⟨z8, (), rfl, ⟨⟨by omega, by omega⟩, (by rw [ez8, ey1]; show I y1 z7.toInt.toNat = I y1 (11 + p1.toInt.toNat); congr 1; omega)⟩, trivial⟩, hS.F ht⟩) hS.2.2 dX7_high_9

set_option maxHeartbeats 4000000 in
set_option maxRecDepth 100000 in
theorem s_X7_of (l : Launch) (dC : Nat → ClassId) (dI : Nat → Nat → Nat) (cs : Nat → ClassId) (L : List Nat) (K G : Nat → Nat) (Q : Nat → Nat → Option Nat) (hQ : Sv L K G Q) (x0 m0 : Nat) (tx : GT) (tm : GT × Int) (sz : Nat) (I : Nat → Nat → Int32) (J : Nat → Nat → Int64) (hI : Iv L K x0 m0 tx tm I) (p0 : Nat) (hLp0 : p0 ∈ L) (hKp0 : K p0 = 7) (p1 : Int32) (bp1 : (0) ≤ p1.toInt ∧ p1.toInt ≤ 9) (p2 : Int32) (bp2 : (0) ≤ p2.toInt ∧ p2.toInt ≤ 7) : Met l yX7_of (.code yX7_of cX7_of 3 (some .int) :: pw) ({ frames := 0, cells := 0, slots := 0, locals := 0 }) (sP (dC, dI) cs [.ref p0, .int p1, .int p2] sz L K I J Q) (va_Qi (fun (r : Int32) (_ : Unit) => (r = I ((Q p0 0).getD 0) (19 + 8 * p1.toInt.toNat + p2.toInt.toNat)) ∧ (p2 = 0 → (0) ≤ r.toInt ∧ r.toInt ≤ 7) ∧ (p2 = 1 → (-6000000) ≤ r.toInt ∧ r.toInt ≤ 6000000) ∧ (p2 = 2 → (-6000000) ≤ r.toInt ∧ r.toInt ≤ 6000000) ∧ (p2 = 6 → (-20) ≤ r.toInt ∧ r.toInt ≤ 20) ∧ (p2 = 7 → (-20) ≤ r.toInt ∧ r.toInt ≤ 20)) (fun _ _ => True) (fun _ => False)) 0 0 (fun _ => False) := by
  refine Met.ofW (cc := cX7_of) (maxL := 3) (ret := (some .int)) (by decide +kernel) rfl ?_
  intro p e s m args below meth c s₁ B hml hv
  obtain ⟨rfl, hsz, hP, hK, hD0, hN⟩ := hv
  have hx := B.exec
  have hb := B.bytes
  have hr := B.returns
  have hts := fun w (h : w ∈ pw) => atoms_spec (ws := Cond.code yX7_of cX7_of 3 (some .int) :: pw) B.pre w (List.mem_cons_of_mem _ h)
  have hown : s.vm.findClass RX7 = some m.cls := findClass_of_methodNamed B.named
  have hlocks := B.notSynchronized
  subst hsz
  have hBB : 999 ≤ tm.2 ∧ tm.2 ≤ 6000000 := hI.2.2.2.2.1
  have hD := hD0
  obtain ⟨H, hHe⟩ : ∃ H : Heap, H = s.heap := ⟨_, rfl⟩
  have hS : va_S (fun _ => False) s.heap H [] := by rw [hHe]; exact va_S.rf
  rw [← hHe] at hP
  have hl := lv_entry ([.ref p0, .int p1, .int p2]) (n := 3) (Nat.le_of_ble_eq_true rfl)
  rw [lg_entry_eq]
  generalize (lg_sl ([.ref p0, .int p1, .int p2]) ++ List.replicate (3 - (lg_sl ([.ref p0, .int p1, .int p2])).length) Slot.unset).toArray = ls at hl ⊢
  have hl : lv_has ls 3 [(0, .ref p0), (1, .int p1), (2, .int p2)] := hl
  rw [← hHe]
  refine namedW (fun R Qz hR hQz => ?_)
  refine lv_aload_n hx hb dX7_of_0 rfl (lv_at hl 0 rfl) ?_
  obtain ⟨y1, ey1, hLy1, hKy1⟩ := oQ_7_0 (Sv_at hQ hLp0 hKp0)
  refine p_get (v := .ref y1) hx hb hts inX7 hown hK hP hLp0 hKp0 rfl rfl 0 (by decide) (hts _ pq1115) (congrArg (fun q => some (va_rf q)) ey1) dX7_of_1 ?_
  refine lv_bipush (v := 19) hx hb dX7_of_4 (by decide +kernel) ?_
  refine lv_bipush (v := 8) hx hb dX7_of_6 (by decide +kernel) ?_
  refine lv_iload_n hx hb dX7_of_8 rfl (lv_at hl 1 rfl) ?_
  refine lv_imul hx hb dX7_of_9 ?_
  refine lv_topi (fun z9 ez9 => ?_)
  have bz9 := tq_mul (k := (8)) (q := p1.toInt) ez9 (by decide +kernel) rfl (by omega) (by omega)
  refine lv_iadd hx hb dX7_of_10 ?_
  refine lv_topi (fun z10 ez10 => ?_)
  have bz10 := tq_add (k := (19)) (q := z9.toInt) ez10 (by decide +kernel) rfl (by omega) (by omega)
  refine lv_iload_n hx hb dX7_of_11 rfl (lv_at hl 2 rfl) ?_
  refine lv_iadd hx hb dX7_of_12 ?_
  refine lv_topi (fun z12 ez12 => ?_)
  have bz12 := tq_add (k := z10.toInt) (q := p2.toInt) ez12 rfl rfl (by omega) (by omega)
  refine p_iald hx hb hK hP 8 hLy1 hKy1 rfl rfl (in_of (by omega) (by omega)) dX7_of_13 ?_
  refine lv_topi (fun z13 ez13 => ?_)
  have bz13 := oR_18 (i := z12) (k := z12.toInt) rfl (Iv_at hI hLy1 hKy1)
  rw [← ez13] at bz13
  unfold rng at bz13
  subst hR; subst hQz
  exact W.iret (v := z13) hx hb hr (fun t ht hW => ⟨⟨z13, (), rfl, ⟨(by rw [ez13, ey1]; show I y1 z12.toInt.toNat = I y1 (19 + 8 * p1.toInt.toNat + p2.toInt.toNat); congr 1; omega), ⟨(fun h => by have e : p2.toInt = 0 := (congrArg Int32.toInt h).trans (by decide +kernel); omega), (fun h => by have e : p2.toInt = 1 := (congrArg Int32.toInt h).trans (by decide +kernel); omega), (fun h => by have e : p2.toInt = 2 := (congrArg Int32.toInt h).trans (by decide +kernel); omega), (fun h => by have e : p2.toInt = 6 := (congrArg Int32.toInt h).trans (by decide +kernel); omega), (fun h => by have e : p2.toInt = 7 := (congrArg Int32.toInt h).trans (by decide +kernel); omega)⟩⟩, trivial⟩, hS.F ht⟩) hS.2.2 dX7_of_14

set_option maxHeartbeats 4000000 in
set_option maxRecDepth 100000 in
theorem s_X7_maskOf (l : Launch) (dC : Nat → ClassId) (dI : Nat → Nat → Nat) (cs : Nat → ClassId) (L : List Nat) (K G : Nat → Nat) (Q : Nat → Nat → Option Nat) (hQ : Sv L K G Q) (x0 m0 : Nat) (tx : GT) (tm : GT × Int) (sz : Nat) (I : Nat → Nat → Int32) (J : Nat → Nat → Int64) (hI : Iv L K x0 m0 tx tm I) (p0 : Nat) (hLp0 : p0 ∈ L) (hKp0 : K p0 = 7) (p1 : Int32) (bp1 : (0) ≤ p1.toInt ∧ p1.toInt ≤ 9) : Met l yX7_maskOf (.code yX7_maskOf cX7_maskOf 2 (some .int) :: pw) ({ frames := 1, cells := 0, slots := 0, locals := 22 }) (sP (dC, dI) cs [.ref p0, .int p1] sz L K I J Q) (va_Qi (fun (r : Int32) (_ : Unit) => ((0) ≤ r.toInt ∧ r.toInt ≤ 7) ∧ (r = I ((Q p0 0).getD 0) (19 + 8 * p1.toInt.toNat))) (fun _ _ => True) (fun _ => False)) 0 0 (fun _ => False) := by
  refine Met.ofW (cc := cX7_maskOf) (maxL := 2) (ret := (some .int)) (by decide +kernel) rfl ?_
  intro p e s m args below meth c s₁ B hml hv
  obtain ⟨rfl, hsz, hP, hK, hD0, hN⟩ := hv
  have hx := B.exec
  have hb := B.bytes
  have hr := B.returns
  have hts := fun w (h : w ∈ pw) => atoms_spec (ws := Cond.code yX7_maskOf cX7_maskOf 2 (some .int) :: pw) B.pre w (List.mem_cons_of_mem _ h)
  have hown : s.vm.findClass RX7 = some m.cls := findClass_of_methodNamed B.named
  have hlocks := B.notSynchronized
  subst hsz
  have hBB : 999 ≤ tm.2 ∧ tm.2 ≤ 6000000 := hI.2.2.2.2.1
  have hD := hD0
  obtain ⟨H, hHe⟩ : ∃ H : Heap, H = s.heap := ⟨_, rfl⟩
  have hS : va_S (fun _ => False) s.heap H [] := by rw [hHe]; exact va_S.rf
  rw [← hHe] at hP
  have hl := lv_entry ([.ref p0, .int p1]) (n := 2) (Nat.le_of_ble_eq_true rfl)
  rw [lg_entry_eq]
  generalize (lg_sl ([.ref p0, .int p1]) ++ List.replicate (2 - (lg_sl ([.ref p0, .int p1])).length) Slot.unset).toArray = ls at hl ⊢
  have hl : lv_has ls 2 [(0, .ref p0), (1, .int p1)] := hl
  rw [← hHe]
  refine namedW (fun R Qz hR hQz => ?_)
  refine lv_aload_n hx hb dX7_maskOf_0 rfl (lv_at hl 0 rfl) ?_
  refine lv_iload_n hx hb dX7_maskOf_1 rfl (lv_at hl 1 rfl) ?_
  refine lv_iconst (v := 0) hx hb dX7_maskOf_2 (by decide +kernel) ?_
  refine ro_i (va_runV (As := [.int p1, .int 0]) (rest := []) ⟨hx, hb, hml, hown, hts⟩ (s_X7_of l dC dI cs L K G Q hQ x0 m0 tx tm H.size I J hI p0 hLp0 hKp0 p1 ⟨by omega, by omega⟩ 0 ⟨by decide +kernel, by decide +kernel⟩) (cwV 2 hts (gV pq1320 pq1322 pq25 pq81 pq1323) rfl rfl rfl (by decide +kernel) ⟨(by rw [hR]; exact (Nat.le_of_ble_eq_true rfl)), (by rw [hR]; exact (Nat.le_of_ble_eq_true rfl))⟩) (sP_V hP hD hK hN hLp0 hKp0 rfl rfl) rfl rfl hl.1 rfl (lv_room (Nat.le_of_ble_eq_true rfl)) dX7_maskOf_3 ⟨(by rw [hR]; exact (Nat.le_of_ble_eq_true rfl)), (by rw [hR]; exact (Nat.le_of_ble_eq_true rfl))⟩) hS hP (fun z3 H locs hz3 hP hS => ?_)
  have cst3_0 : (0 : Int32).toInt = 0 := by decide +kernel
  obtain ⟨fez3, xpz3⟩ := hz3
  have bz3 := xpz3.1 rfl
  subst hR; subst hQz
  exact W.iret (v := z3) hx hb hr (fun t ht hW => ⟨⟨z3, (), rfl, ⟨⟨by omega, by omega⟩, (by rw [fez3]; rfl)⟩, trivial⟩, hS.F ht⟩) hS.2.2 dX7_maskOf_6

set_option maxHeartbeats 4000000 in
set_option maxRecDepth 100000 in
theorem s_X7_isMask (l : Launch) (dC : Nat → ClassId) (dI : Nat → Nat → Nat) (cs : Nat → ClassId) (L : List Nat) (K G : Nat → Nat) (Q : Nat → Nat → Option Nat) (hQ : Sv L K G Q) (x0 m0 : Nat) (tx : GT) (tm : GT × Int) (sz : Nat) (I : Nat → Nat → Int32) (J : Nat → Nat → Int64) (hI : Iv L K x0 m0 tx tm I) (p0 : Nat) (hLp0 : p0 ∈ L) (hKp0 : K p0 = 7) (p1 : Int32) : Met l yX7_isMask (.code yX7_isMask cX7_isMask 2 (some .boolean) :: pw) ({ frames := 1, cells := 0, slots := 0, locals := 25 }) (sP (dC, dI) cs [.ref p0, .int p1] sz L K I J Q) (va_Qi (fun (r : Int32) (_ : Unit) => ((0) ≤ r.toInt ∧ r.toInt ≤ 1) ∧ (¬ r.toInt = 0 → ((0) ≤ p1.toInt ∧ p1.toInt ≤ (7))) ∧ ((¬ r.toInt = 0 → (0 ≤ p1.toInt ∧ p1.toInt < (I (a0 Q p0 0) 0).toInt)) ∧ (r.toInt = 0 → ¬ (0 ≤ p1.toInt ∧ p1.toInt < (I (a0 Q p0 0) 0).toInt)))) (fun _ _ => True) (fun _ => False)) 0 0 (fun _ => False) := by
  refine Met.ofW (cc := cX7_isMask) (maxL := 2) (ret := (some .boolean)) (by decide +kernel) rfl ?_
  intro p e s m args below meth c s₁ B hml hv
  obtain ⟨rfl, hsz, hP, hK, hD0, hN⟩ := hv
  have hx := B.exec
  have hb := B.bytes
  have hr := B.returns
  have hts := fun w (h : w ∈ pw) => atoms_spec (ws := Cond.code yX7_isMask cX7_isMask 2 (some .boolean) :: pw) B.pre w (List.mem_cons_of_mem _ h)
  have hown : s.vm.findClass RX7 = some m.cls := findClass_of_methodNamed B.named
  have hlocks := B.notSynchronized
  subst hsz
  have hBB : 999 ≤ tm.2 ∧ tm.2 ≤ 6000000 := hI.2.2.2.2.1
  have hD := hD0
  obtain ⟨H, hHe⟩ : ∃ H : Heap, H = s.heap := ⟨_, rfl⟩
  have hS : va_S (fun _ => False) s.heap H [] := by rw [hHe]; exact va_S.rf
  rw [← hHe] at hP
  have hl := lv_entry ([.ref p0, .int p1]) (n := 2) (Nat.le_of_ble_eq_true rfl)
  rw [lg_entry_eq]
  generalize (lg_sl ([.ref p0, .int p1]) ++ List.replicate (2 - (lg_sl ([.ref p0, .int p1])).length) Slot.unset).toArray = ls at hl ⊢
  have hl : lv_has ls 2 [(0, .ref p0), (1, .int p1)] := hl
  rw [← hHe]
  refine namedW (fun R Qz hR hQz => ?_)
  refine lv_iload_n hx hb dX7_isMask_0 rfl (lv_at hl 1 rfl) ?_
  refine lv_i2l hx hb dX7_isMask_1 rfl ?_
  refine lv_topl (fun z1 ez1 => ?_)
  have bz1 := tq_i2l (k := p1.toInt) ez1 rfl
  refine lv_lconst (v := 0) hx hb dX7_isMask_2 (by decide +kernel) ?_
  refine lv_aload_n hx hb dX7_isMask_3 rfl (lv_at hl 0 rfl) ?_
  obtain ⟨y4, ey4, hLy4, hKy4⟩ := oQ_7_0 (Sv_at hQ hLp0 hKp0)
  refine p_get (v := .ref y4) hx hb hts inX7 hown hK hP hLp0 hKp0 rfl rfl 0 (by decide) (hts _ pq1115) (congrArg (fun q => some (va_rf q)) ey4) dX7_isMask_4 ?_
  refine lv_iconst (v := 0) hx hb dX7_isMask_7 (by decide +kernel) ?_
  refine p_iald hx hb hK hP 8 hLy4 hKy4 rfl rfl (in_d (by decide +kernel)) dX7_isMask_8 ?_
  refine lv_topi (fun z8 ez8 => ?_)
  have bz8 := rng0 (oR_18 (i := (0 : Int32)) (k := (0)) (by decide +kernel) (Iv_at hI hLy4 hKy4))
  rw [← ez8] at bz8
  refine lv_iconst (v := 1) hx hb dX7_isMask_9 (by decide +kernel) ?_
  refine lv_isub hx hb dX7_isMask_10 ?_
  refine lv_topi (fun z10 ez10 => ?_)
  have bz10 := tq_sub (k := z8.toInt) (q := (1)) ez10 rfl (by decide +kernel) (by omega) (by omega)
  refine lv_i2l hx hb dX7_isMask_11 rfl ?_
  refine lv_topl (fun z11 ez11 => ?_)
  have bz11 := tq_i2l (k := z10.toInt) ez11 rfl
  refine ro_i (va_runS (As := [.long z1, .long 0, .long z11]) (rest := []) ⟨hx, hb, hml, hown, hts⟩ (s_X7_in l dC dI cs L K Q H.size I J z1 0 z11) (va_cwS 3 hts (gS pq1234 pq1235 pq81 pq1236) rfl rfl rfl (by decide +kernel) ⟨(by rw [hR]; exact (Nat.le_of_ble_eq_true rfl)), (by rw [hR]; exact (Nat.le_of_ble_eq_true rfl))⟩) (sP_S hP hD hK hN) rfl rfl hl.1 rfl (lv_room (Nat.le_of_ble_eq_true rfl)) dX7_isMask_12 ⟨(by rw [hR]; exact (Nat.le_of_ble_eq_true rfl)), (by rw [hR]; exact (Nat.le_of_ble_eq_true rfl))⟩) hS hP (fun z12 H locs hz12 hP hS => ?_)
  have csl12_0 : (0 : Int64).toInt = 0 := by decide +kernel
  obtain ⟨bz12, imz12, xpz12⟩ := hz12
  subst hR; subst hQz
  exact W.zret (v := z12) hx hb hr (nar01 (by omega) (by omega)) (fun t ht hW => ⟨⟨z12, (), rfl, ⟨⟨by omega, by omega⟩, (fun hne => by have q1 := imz12 hne; exact ⟨by omega, by omega⟩), (by rw [show I (a0 Q p0 0) 0 = z8 from (by rw [ez8, show a0 Q p0 0 = y4 from gd_of ey4, show (0 : Int32).toNatClampNeg = 0 from by decide +kernel])]; exact ⟨fun h => by have q := imz12 h; omega, fun h q => xpz12 h (by omega)⟩)⟩, trivial⟩, hS.F ht⟩) hS.2.2 dX7_isMask_15

set_option maxHeartbeats 4000000 in
set_option maxRecDepth 100000 in
theorem s_X7_isBody (l : Launch) (dC : Nat → ClassId) (dI : Nat → Nat → Nat) (cs : Nat → ClassId) (L : List Nat) (K G : Nat → Nat) (Q : Nat → Nat → Option Nat) (hQ : Sv L K G Q) (x0 m0 : Nat) (tx : GT) (tm : GT × Int) (sz : Nat) (I : Nat → Nat → Int32) (J : Nat → Nat → Int64) (hI : Iv L K x0 m0 tx tm I) (p0 : Nat) (hLp0 : p0 ∈ L) (hKp0 : K p0 = 7) (p1 : Int32) : Met l yX7_isBody (.code yX7_isBody cX7_isBody 2 (some .boolean) :: pw) ({ frames := 1, cells := 0, slots := 0, locals := 25 }) (sP (dC, dI) cs [.ref p0, .int p1] sz L K I J Q) (va_Qi (fun (r : Int32) (_ : Unit) => ((0) ≤ r.toInt ∧ r.toInt ≤ 1) ∧ (¬ r.toInt = 0 → ((0) ≤ p1.toInt ∧ p1.toInt ≤ (9))) ∧ ((¬ r.toInt = 0 → (0 ≤ p1.toInt ∧ p1.toInt < (I (a0 Q p0 0) 1).toInt)) ∧ (r.toInt = 0 → ¬ (0 ≤ p1.toInt ∧ p1.toInt < (I (a0 Q p0 0) 1).toInt)))) (fun _ _ => True) (fun _ => False)) 0 0 (fun _ => False) := by
  refine Met.ofW (cc := cX7_isBody) (maxL := 2) (ret := (some .boolean)) (by decide +kernel) rfl ?_
  intro p e s m args below meth c s₁ B hml hv
  obtain ⟨rfl, hsz, hP, hK, hD0, hN⟩ := hv
  have hx := B.exec
  have hb := B.bytes
  have hr := B.returns
  have hts := fun w (h : w ∈ pw) => atoms_spec (ws := Cond.code yX7_isBody cX7_isBody 2 (some .boolean) :: pw) B.pre w (List.mem_cons_of_mem _ h)
  have hown : s.vm.findClass RX7 = some m.cls := findClass_of_methodNamed B.named
  have hlocks := B.notSynchronized
  subst hsz
  have hBB : 999 ≤ tm.2 ∧ tm.2 ≤ 6000000 := hI.2.2.2.2.1
  have hD := hD0
  obtain ⟨H, hHe⟩ : ∃ H : Heap, H = s.heap := ⟨_, rfl⟩
  have hS : va_S (fun _ => False) s.heap H [] := by rw [hHe]; exact va_S.rf
  rw [← hHe] at hP
  have hl := lv_entry ([.ref p0, .int p1]) (n := 2) (Nat.le_of_ble_eq_true rfl)
  rw [lg_entry_eq]
  generalize (lg_sl ([.ref p0, .int p1]) ++ List.replicate (2 - (lg_sl ([.ref p0, .int p1])).length) Slot.unset).toArray = ls at hl ⊢
  have hl : lv_has ls 2 [(0, .ref p0), (1, .int p1)] := hl
  rw [← hHe]
  refine namedW (fun R Qz hR hQz => ?_)
  refine lv_iload_n hx hb dX7_isBody_0 rfl (lv_at hl 1 rfl) ?_
  refine lv_i2l hx hb dX7_isBody_1 rfl ?_
  refine lv_topl (fun z1 ez1 => ?_)
  have bz1 := tq_i2l (k := p1.toInt) ez1 rfl
  refine lv_lconst (v := 0) hx hb dX7_isBody_2 (by decide +kernel) ?_
  refine lv_aload_n hx hb dX7_isBody_3 rfl (lv_at hl 0 rfl) ?_
  obtain ⟨y4, ey4, hLy4, hKy4⟩ := oQ_7_0 (Sv_at hQ hLp0 hKp0)
  refine p_get (v := .ref y4) hx hb hts inX7 hown hK hP hLp0 hKp0 rfl rfl 0 (by decide) (hts _ pq1115) (congrArg (fun q => some (va_rf q)) ey4) dX7_isBody_4 ?_
  refine lv_iconst (v := 1) hx hb dX7_isBody_7 (by decide +kernel) ?_
  refine p_iald hx hb hK hP 8 hLy4 hKy4 rfl rfl (in_d (by decide +kernel)) dX7_isBody_8 ?_
  refine lv_topi (fun z8 ez8 => ?_)
  have bz8 := rng1 (oR_18 (i := (1 : Int32)) (k := (1)) (by decide +kernel) (Iv_at hI hLy4 hKy4))
  rw [← ez8] at bz8
  refine lv_iconst (v := 1) hx hb dX7_isBody_9 (by decide +kernel) ?_
  refine lv_isub hx hb dX7_isBody_10 ?_
  refine lv_topi (fun z10 ez10 => ?_)
  have bz10 := tq_sub (k := z8.toInt) (q := (1)) ez10 rfl (by decide +kernel) (by omega) (by omega)
  refine lv_i2l hx hb dX7_isBody_11 rfl ?_
  refine lv_topl (fun z11 ez11 => ?_)
  have bz11 := tq_i2l (k := z10.toInt) ez11 rfl
  refine ro_i (va_runS (As := [.long z1, .long 0, .long z11]) (rest := []) ⟨hx, hb, hml, hown, hts⟩ (s_X7_in l dC dI cs L K Q H.size I J z1 0 z11) (va_cwS 3 hts (gS pq1234 pq1235 pq81 pq1236) rfl rfl rfl (by decide +kernel) ⟨(by rw [hR]; exact (Nat.le_of_ble_eq_true rfl)), (by rw [hR]; exact (Nat.le_of_ble_eq_true rfl))⟩) (sP_S hP hD hK hN) rfl rfl hl.1 rfl (lv_room (Nat.le_of_ble_eq_true rfl)) dX7_isBody_12 ⟨(by rw [hR]; exact (Nat.le_of_ble_eq_true rfl)), (by rw [hR]; exact (Nat.le_of_ble_eq_true rfl))⟩) hS hP (fun z12 H locs hz12 hP hS => ?_)
  have csl12_0 : (0 : Int64).toInt = 0 := by decide +kernel
  obtain ⟨bz12, imz12, xpz12⟩ := hz12
  subst hR; subst hQz
  exact W.zret (v := z12) hx hb hr (nar01 (by omega) (by omega)) (fun t ht hW => ⟨⟨z12, (), rfl, ⟨⟨by omega, by omega⟩, (fun hne => by have q1 := imz12 hne; exact ⟨by omega, by omega⟩), (by rw [show I (a0 Q p0 0) 1 = z8 from (by rw [ez8, show a0 Q p0 0 = y4 from gd_of ey4, show (1 : Int32).toNatClampNeg = 1 from by decide +kernel])]; exact ⟨fun h => by have q := imz12 h; omega, fun h q => xpz12 h (by omega)⟩)⟩, trivial⟩, hS.F ht⟩) hS.2.2 dX7_isBody_15

set_option maxHeartbeats 4000000 in
set_option maxRecDepth 100000 in
theorem s_X7_areTwo (l : Launch) (dC : Nat → ClassId) (dI : Nat → Nat → Nat) (cs : Nat → ClassId) (L : List Nat) (K G : Nat → Nat) (Q : Nat → Nat → Option Nat) (hQ : Sv L K G Q) (x0 m0 : Nat) (tx : GT) (tm : GT × Int) (sz : Nat) (I : Nat → Nat → Int32) (J : Nat → Nat → Int64) (hI : Iv L K x0 m0 tx tm I) (p0 : Nat) (hLp0 : p0 ∈ L) (hKp0 : K p0 = 7) (p1 : Int32) (p2 : Int32) : Met l yX7_areTwo (.code yX7_areTwo cX7_areTwo 3 (some .boolean) :: pw) ({ frames := 2, cells := 0, slots := 0, locals := 46 }) (sP (dC, dI) cs [.ref p0, .int p1, .int p2] sz L K I J Q) (va_Qi (fun (r : Int32) (_ : Unit) => ((0) ≤ r.toInt ∧ r.toInt ≤ 1) ∧ (¬ r.toInt = 0 → ((0) ≤ p1.toInt ∧ p1.toInt ≤ (9)) ∧ ((0) ≤ p2.toInt ∧ p2.toInt ≤ (9))) ∧ (¬ r.toInt = 0 ↔ ((0 ≤ p1.toInt ∧ p1.toInt < (I (a0 Q p0 0) 1).toInt) ∧ (0 ≤ p2.toInt ∧ p2.toInt < (I (a0 Q p0 0) 1).toInt)) ∧ ¬ p1.toInt = p2.toInt)) (fun _ _ => True) (fun _ => False)) 0 0 (fun _ => False) := by
  refine Met.ofW (cc := cX7_areTwo) (maxL := 3) (ret := (some .boolean)) (by decide +kernel) rfl ?_
  intro p e s m args below meth c s₁ B hml hv
  obtain ⟨rfl, hsz, hP, hK, hD0, hN⟩ := hv
  have hx := B.exec
  have hb := B.bytes
  have hr := B.returns
  have hts := fun w (h : w ∈ pw) => atoms_spec (ws := Cond.code yX7_areTwo cX7_areTwo 3 (some .boolean) :: pw) B.pre w (List.mem_cons_of_mem _ h)
  have hown : s.vm.findClass RX7 = some m.cls := findClass_of_methodNamed B.named
  have hlocks := B.notSynchronized
  subst hsz
  have hBB : 999 ≤ tm.2 ∧ tm.2 ≤ 6000000 := hI.2.2.2.2.1
  have hD := hD0
  obtain ⟨H, hHe⟩ : ∃ H : Heap, H = s.heap := ⟨_, rfl⟩
  have hS : va_S (fun _ => False) s.heap H [] := by rw [hHe]; exact va_S.rf
  rw [← hHe] at hP
  have hl := lv_entry ([.ref p0, .int p1, .int p2]) (n := 3) (Nat.le_of_ble_eq_true rfl)
  rw [lg_entry_eq]
  generalize (lg_sl ([.ref p0, .int p1, .int p2]) ++ List.replicate (3 - (lg_sl ([.ref p0, .int p1, .int p2])).length) Slot.unset).toArray = ls at hl ⊢
  have hl : lv_has ls 3 [(0, .ref p0), (1, .int p1), (2, .int p2)] := hl
  rw [← hHe]
  refine namedW (fun R Qz hR hQz => ?_)
  refine lv_aload_n hx hb dX7_areTwo_0 rfl (lv_at hl 0 rfl) ?_
  refine lv_iload_n hx hb dX7_areTwo_1 rfl (lv_at hl 1 rfl) ?_
  refine ro_i (va_runV (As := [.int p1]) (rest := []) ⟨hx, hb, hml, hown, hts⟩ (s_X7_isBody l dC dI cs L K G Q hQ x0 m0 tx tm H.size I J hI p0 hLp0 hKp0 p1) (cwV 1 hts (gV pq1310 pq1312 pq23 pq81 pq1313) rfl rfl rfl (by decide +kernel) ⟨(by rw [hR]; exact (Nat.le_of_ble_eq_true rfl)), (by rw [hR]; exact (Nat.le_of_ble_eq_true rfl))⟩) (sP_V hP hD hK hN hLp0 hKp0 rfl rfl) rfl rfl hl.1 rfl (lv_room (Nat.le_of_ble_eq_true rfl)) dX7_areTwo_2 ⟨(by rw [hR]; exact (Nat.le_of_ble_eq_true rfl)), (by rw [hR]; exact (Nat.le_of_ble_eq_true rfl))⟩) hS hP (fun z2 H locs hz2 hP hS => ?_)
  obtain ⟨bz2, imz2, xpz2⟩ := hz2
  refine lv_if_eq (tgt := 25) hx hb dX7_areTwo_5 (by decide) (fun c5 => ?_) (fun c5 => ?_)
  · have t5 := tq_eq (k := z2.toInt) (q := (0)) c5 rfl (by decide +kernel)
    refine lv_iconst (v := 0) hx hb dX7_areTwo_25 (by decide +kernel) ?_
    subst hR; subst hQz
    exact W.zret (v := 0) hx hb hr (by decide +kernel) (fun t ht hW => ⟨⟨0, (), rfl, ⟨⟨by decide +kernel, by decide +kernel⟩, fun h => absurd (by decide +kernel) h, ⟨fun h => absurd (by decide +kernel) h, fun q => by first | exact absurd q.1.1 (xpz2.2 t5) | exact absurd q.1.2 (xpz10.2 t13) | exact absurd t18 q.2⟩⟩, trivial⟩, hS.F ht⟩) hS.2.2 dX7_areTwo_26
  · have t5 := tq_ne (k := z2.toInt) (q := (0)) c5 rfl (by decide +kernel)
    have i5 := imz2 t5
    refine lv_aload_n hx hb dX7_areTwo_8 rfl (lv_at hl 0 rfl) ?_
    refine lv_iload_n hx hb dX7_areTwo_9 rfl (lv_at hl 2 rfl) ?_
    refine ro_i (va_runV (As := [.int p2]) (rest := []) ⟨hx, hb, hml, hown, hts⟩ (s_X7_isBody l dC dI cs L K G Q hQ x0 m0 tx tm H.size I J hI p0 hLp0 hKp0 p2) (cwV 1 hts (gV pq1310 pq1312 pq23 pq81 pq1313) rfl rfl rfl (by decide +kernel) ⟨(by rw [hR]; exact (Nat.le_of_ble_eq_true rfl)), (by rw [hR]; exact (Nat.le_of_ble_eq_true rfl))⟩) (sP_V hP hD hK hN hLp0 hKp0 rfl rfl) rfl rfl hl.1 rfl (lv_room (Nat.le_of_ble_eq_true rfl)) dX7_areTwo_10 ⟨(by rw [hR]; exact (Nat.le_of_ble_eq_true rfl)), (by rw [hR]; exact (Nat.le_of_ble_eq_true rfl))⟩) hS hP (fun z10 H locs hz10 hP hS => ?_)
    obtain ⟨bz10, imz10, xpz10⟩ := hz10
    refine lv_if_eq (tgt := 25) hx hb dX7_areTwo_13 (by decide) (fun c13 => ?_) (fun c13 => ?_)
    · have t13 := tq_eq (k := z10.toInt) (q := (0)) c13 rfl (by decide +kernel)
      refine lv_iconst (v := 0) hx hb dX7_areTwo_25 (by decide +kernel) ?_
      subst hR; subst hQz
      exact W.zret (v := 0) hx hb hr (by decide +kernel) (fun t ht hW => ⟨⟨0, (), rfl, ⟨⟨by decide +kernel, by decide +kernel⟩, fun h => absurd (by decide +kernel) h, ⟨fun h => absurd (by decide +kernel) h, fun q => by first | exact absurd q.1.1 (xpz2.2 t5) | exact absurd q.1.2 (xpz10.2 t13) | exact absurd t18 q.2⟩⟩, trivial⟩, hS.F ht⟩) hS.2.2 dX7_areTwo_26
    · have t13 := tq_ne (k := z10.toInt) (q := (0)) c13 rfl (by decide +kernel)
      have i13 := imz10 t13
      refine lv_iload_n hx hb dX7_areTwo_16 rfl (lv_at hl 1 rfl) ?_
      refine lv_iload_n hx hb dX7_areTwo_17 rfl (lv_at hl 2 rfl) ?_
      refine lv_icmp_eq (tgt := 25) hx hb dX7_areTwo_18 (by decide) (fun c18 => ?_) (fun c18 => ?_)
      · have t18 := tq_eq (k := p1.toInt) (q := p2.toInt) c18 rfl rfl
        refine lv_iconst (v := 0) hx hb dX7_areTwo_25 (by decide +kernel) ?_
        subst hR; subst hQz
        exact W.zret (v := 0) hx hb hr (by decide +kernel) (fun t ht hW => ⟨⟨0, (), rfl, ⟨⟨by decide +kernel, by decide +kernel⟩, fun h => absurd (by decide +kernel) h, ⟨fun h => absurd (by decide +kernel) h, fun q => by first | exact absurd q.1.1 (xpz2.2 t5) | exact absurd q.1.2 (xpz10.2 t13) | exact absurd t18 q.2⟩⟩, trivial⟩, hS.F ht⟩) hS.2.2 dX7_areTwo_26
      · have t18 := tq_ne (k := p1.toInt) (q := p2.toInt) c18 rfl rfl
        refine lv_iconst (v := 1) hx hb dX7_areTwo_21 (by decide +kernel) ?_
        refine lv_goto (tgt := 26) hx hb dX7_areTwo_22 (by decide) ?_
        subst hR; subst hQz
        exact W.zret (v := 1) hx hb hr (by decide +kernel) (fun t ht hW => ⟨⟨1, (), rfl, ⟨⟨by decide +kernel, by decide +kernel⟩, fun _ => ⟨⟨by omega, by omega⟩, ⟨by omega, by omega⟩⟩, ⟨fun _ => ⟨⟨xpz2.1 t5, xpz10.1 t13⟩, t18⟩, fun _ => by decide +kernel⟩⟩, trivial⟩, hS.F ht⟩) hS.2.2 dX7_areTwo_26

set_option maxHeartbeats 4000000 in
set_option maxRecDepth 100000 in
theorem s_X7_isDot (l : Launch) (dC : Nat → ClassId) (dI : Nat → Nat → Nat) (cs : Nat → ClassId) (L : List Nat) (K G : Nat → Nat) (Q : Nat → Nat → Option Nat) (hQ : Sv L K G Q) (x0 m0 : Nat) (tx : GT) (tm : GT × Int) (sz : Nat) (I : Nat → Nat → Int32) (J : Nat → Nat → Int64) (hI : Iv L K x0 m0 tx tm I) (p0 : Nat) (hLp0 : p0 ∈ L) (hKp0 : K p0 = 21) (p1 : Int32) (bp1 : (0) ≤ p1.toInt ∧ p1.toInt ≤ 7) (p2 : Int32) (bp2 : (0) ≤ p2.toInt ∧ p2.toInt ≤ 127) (p3 : Int32) (bp3 : (0) ≤ p3.toInt ∧ p3.toInt ≤ 39) : Met l yX7_isDot (.code yX7_isDot cX7_isDot 4 (some .boolean) :: pw) ({ frames := 0, cells := 0, slots := 0, locals := 0 }) (sP (dC, dI) cs [.ref p0, .int p1, .int p2, .int p3] sz L K I J Q) (va_Qi (fun (r : Int32) (_ : Unit) => ((0) ≤ r.toInt ∧ r.toInt ≤ 1) ∧ (r.toInt = bi (md (mo (J p0) p1.toInt.toNat) p2.toInt p3.toInt))) (fun _ _ => True) (fun _ => False)) 0 0 (fun _ => False) := by
  refine Met.ofW (cc := cX7_isDot) (maxL := 4) (ret := (some .boolean)) (by decide +kernel) rfl ?_
  intro p e s m args below meth c s₁ B hml hv
  obtain ⟨rfl, hsz, hP, hK, hD0, hN⟩ := hv
  have hx := B.exec
  have hb := B.bytes
  have hr := B.returns
  have hts := fun w (h : w ∈ pw) => atoms_spec (ws := Cond.code yX7_isDot cX7_isDot 4 (some .boolean) :: pw) B.pre w (List.mem_cons_of_mem _ h)
  have hown : s.vm.findClass RX7 = some m.cls := findClass_of_methodNamed B.named
  have hlocks := B.notSynchronized
  subst hsz
  have hBB : 999 ≤ tm.2 ∧ tm.2 ≤ 6000000 := hI.2.2.2.2.1
  have hD := hD0
  obtain ⟨H, hHe⟩ : ∃ H : Heap, H = s.heap := ⟨_, rfl⟩
  have hS : va_S (fun _ => False) s.heap H [] := by rw [hHe]; exact va_S.rf
  rw [← hHe] at hP
  have hl := lv_entry ([.ref p0, .int p1, .int p2, .int p3]) (n := 4) (Nat.le_of_ble_eq_true rfl)
  rw [lg_entry_eq]
  generalize (lg_sl ([.ref p0, .int p1, .int p2, .int p3]) ++ List.replicate (4 - (lg_sl ([.ref p0, .int p1, .int p2, .int p3])).length) Slot.unset).toArray = ls at hl ⊢
  have hl : lv_has ls 4 [(0, .ref p0), (1, .int p1), (2, .int p2), (3, .int p3)] := hl
  rw [← hHe]
  refine namedW (fun R Qz hR hQz => ?_)
  refine lv_aload_n hx hb dX7_isDot_0 rfl (lv_at hl 0 rfl) ?_
  refine lv_bipush (v := 80) hx hb dX7_isDot_1 (by decide +kernel) ?_
  refine lv_iload_n hx hb dX7_isDot_3 rfl (lv_at hl 1 rfl) ?_
  refine lv_imul hx hb dX7_isDot_4 ?_
  refine lv_topi (fun z4 ez4 => ?_)
  have bz4 := tq_mul (k := (80)) (q := p1.toInt) ez4 (by decide +kernel) rfl (by omega) (by omega)
  refine lv_iconst (v := 2) hx hb dX7_isDot_5 (by decide +kernel) ?_
  refine lv_iload_n hx hb dX7_isDot_6 rfl (lv_at hl 3 rfl) ?_
  refine lv_imul hx hb dX7_isDot_7 ?_
  refine lv_topi (fun z7 ez7 => ?_)
  have bz7 := tq_mul (k := (2)) (q := p3.toInt) ez7 (by decide +kernel) rfl (by omega) (by omega)
  refine lv_iadd hx hb dX7_isDot_8 ?_
  refine lv_topi (fun z8 ez8 => ?_)
  have bz8 := tq_add (k := z4.toInt) (q := z7.toInt) ez8 rfl rfl (by omega) (by omega)
  refine lv_iload_n hx hb dX7_isDot_9 rfl (lv_at hl 2 rfl) ?_
  refine lv_bipush (v := 64) hx hb dX7_isDot_10 (by decide +kernel) ?_
  refine lv_idiv hx hb dX7_isDot_12 (by decide +kernel) ?_
  refine lv_topi (fun z12 ez12 => ?_)
  have bz12 := tq_div (k := 64) ez12 (by decide +kernel) (by omega) (by omega)
  refine lv_iadd hx hb dX7_isDot_13 ?_
  refine lv_topi (fun z13 ez13 => ?_)
  have bz13 := tq_add (k := z8.toInt) (q := z12.toInt) ez13 rfl rfl (by omega) (by omega)
  refine p_lald hx hb hK hP 11 hLp0 hKp0 rfl rfl (in_of (by omega) (by omega)) dX7_isDot_14 ?_
  refine lv_topl (fun z14 ez14 => ?_)
  refine lv_iload_n hx hb dX7_isDot_15 rfl (lv_at hl 2 rfl) ?_
  refine lv_bipush (v := 64) hx hb dX7_isDot_16 (by decide +kernel) ?_
  refine lv_irem hx hb dX7_isDot_18 (by decide +kernel) ?_
  refine lv_topi (fun z18 ez18 => ?_)
  have bz18 := tq_rem (k := 64) ez18 (by decide +kernel) (by omega) (by omega)
  refine lv_lshr hx hb dX7_isDot_19 rfl ?_
  refine lv_topl (fun z19 ez19 => ?_)
  refine lv_lconst (v := 1) hx hb dX7_isDot_20 (by decide +kernel) ?_
  refine lv_land hx hb dX7_isDot_21 ?_
  refine lv_topl (fun z21 ez21 => ?_)
  refine lv_lconst (v := 1) hx hb dX7_isDot_22 (by decide +kernel) ?_
  refine W.lcmp hx hb dX7_isDot_23 ?_
  refine lv_topi (fun z23 ez23 => ?_)
  have bz23 := tq_lcmp (k := z21.toInt) (q := (1)) ez23 rfl (by decide +kernel)
  refine lv_if_ne (tgt := 31) hx hb dX7_isDot_24 (by decide) (fun c24 => ?_) (fun c24 => ?_)
  · have t24 := tq_ne (k := z23.toInt) (q := (0)) c24 rfl (by decide +kernel)
    refine lv_iconst (v := 0) hx hb dX7_isDot_31 (by decide +kernel) ?_
    subst hR; subst hQz
    exact W.zret (v := 0) hx hb hr (by decide +kernel) (fun t ht hW => ⟨⟨0, (), rfl, ⟨⟨by decide +kernel, by decide +kernel⟩, (bi_0 (by decide +kernel) (by have q : ¬ b64 z19 0 = true := (fun w => t24 ((lc1 ez21 ez23).mpr w)); rw [b64_sar ez19 (k := (p2.toInt % 64).toNat) (by omega) (by omega), ez14] at q; rw [md_bit (by omega) (by omega) (by omega) (by omega)]; show b64 (J p0 (80 * p1.toInt.toNat + (2 * p3.toInt.toNat + p2.toInt.toNat / 64))) _ = false; rw [show 80 * p1.toInt.toNat + (2 * p3.toInt.toNat + p2.toInt.toNat / 64) = z13.toNatClampNeg from (by show _ = z13.toInt.toNat; omega), show p2.toInt.toNat % 64 = (p2.toInt % 64).toNat from (by omega)]; simp only [Bool.not_eq_true] at q; exact q))⟩, trivial⟩, hS.F ht⟩) hS.2.2 dX7_isDot_32
  · have t24 := tq_eq (k := z23.toInt) (q := (0)) c24 rfl (by decide +kernel)
    refine lv_iconst (v := 1) hx hb dX7_isDot_27 (by decide +kernel) ?_
    refine lv_goto (tgt := 32) hx hb dX7_isDot_28 (by decide) ?_
    subst hR; subst hQz
    exact W.zret (v := 1) hx hb hr (by decide +kernel) (fun t ht hW => ⟨⟨1, (), rfl, ⟨⟨by decide +kernel, by decide +kernel⟩, (bi_1 (by decide +kernel) (by have q := (lc1 ez21 ez23).mp t24; rw [b64_sar ez19 (k := (p2.toInt % 64).toNat) (by omega) (by omega), ez14] at q; rw [md_bit (by omega) (by omega) (by omega) (by omega)]; show b64 (J p0 (80 * p1.toInt.toNat + (2 * p3.toInt.toNat + p2.toInt.toNat / 64))) _ = true; rw [show 80 * p1.toInt.toNat + (2 * p3.toInt.toNat + p2.toInt.toNat / 64) = z13.toNatClampNeg from (by show _ = z13.toInt.toNat; omega), show p2.toInt.toNat % 64 = (p2.toInt % 64).toNat from (by omega)]; exact q))⟩, trivial⟩, hS.F ht⟩) hS.2.2 dX7_isDot_32

set_option maxHeartbeats 4000000 in
set_option maxRecDepth 100000 in
theorem s_X7_has (l : Launch) (dC : Nat → ClassId) (dI : Nat → Nat → Nat) (cs : Nat → ClassId) (L : List Nat) (K G : Nat → Nat) (Q : Nat → Nat → Option Nat) (hQ : Sv L K G Q) (x0 m0 : Nat) (tx : GT) (tm : GT × Int) (sz : Nat) (I : Nat → Nat → Int32) (J : Nat → Nat → Int64) (hI : Iv L K x0 m0 tx tm I) (p0 : Nat) (hLp0 : p0 ∈ L) (hKp0 : K p0 = 7) (p1 : Int32) (bp1 : (0) ≤ p1.toInt ∧ p1.toInt ≤ 7) (p2 : Int32) (p3 : Int32) : Met l yX7_has (.code yX7_has cX7_has 4 (some .boolean) :: pw) ({ frames := 1, cells := 0, slots := 0, locals := 25 }) (sP (dC, dI) cs [.ref p0, .int p1, .int p2, .int p3] sz L K I J Q) (va_Qi (fun (r : Int32) (_ : Unit) => ((0) ≤ r.toInt ∧ r.toInt ≤ 1) ∧ (¬ r.toInt = 0 → ((0) ≤ p2.toInt ∧ p2.toInt ≤ (99)) ∧ ((0) ≤ p3.toInt ∧ p3.toInt ≤ (39))) ∧ (r.toInt = bi (hs (rW Q I p0 p1.toInt.toNat) (rH Q I p0 p1.toInt.toNat) (rF Q J p0 p1.toInt.toNat) (p2.toInt) (p3.toInt)))) (fun _ _ => True) (fun _ => False)) 0 0 (fun _ => False) := by
  refine Met.ofW (cc := cX7_has) (maxL := 4) (ret := (some .boolean)) (by decide +kernel) rfl ?_
  intro p e s m args below meth c s₁ B hml hv
  obtain ⟨rfl, hsz, hP, hK, hD0, hN⟩ := hv
  have hx := B.exec
  have hb := B.bytes
  have hr := B.returns
  have hts := fun w (h : w ∈ pw) => atoms_spec (ws := Cond.code yX7_has cX7_has 4 (some .boolean) :: pw) B.pre w (List.mem_cons_of_mem _ h)
  have hown : s.vm.findClass RX7 = some m.cls := findClass_of_methodNamed B.named
  have hlocks := B.notSynchronized
  subst hsz
  have hBB : 999 ≤ tm.2 ∧ tm.2 ≤ 6000000 := hI.2.2.2.2.1
  have hD := hD0
  obtain ⟨H, hHe⟩ : ∃ H : Heap, H = s.heap := ⟨_, rfl⟩
  have hS : va_S (fun _ => False) s.heap H [] := by rw [hHe]; exact va_S.rf
  rw [← hHe] at hP
  have hl := lv_entry ([.ref p0, .int p1, .int p2, .int p3]) (n := 4) (Nat.le_of_ble_eq_true rfl)
  rw [lg_entry_eq]
  generalize (lg_sl ([.ref p0, .int p1, .int p2, .int p3]) ++ List.replicate (4 - (lg_sl ([.ref p0, .int p1, .int p2, .int p3])).length) Slot.unset).toArray = ls at hl ⊢
  have hl : lv_has ls 4 [(0, .ref p0), (1, .int p1), (2, .int p2), (3, .int p3)] := hl
  rw [← hHe]
  refine namedW (fun R Qz hR hQz => ?_)
  refine lv_iload_n hx hb dX7_has_0 rfl (lv_at hl 2 rfl) ?_
  refine lv_i2l hx hb dX7_has_1 rfl ?_
  refine lv_topl (fun z1 ez1 => ?_)
  have bz1 := tq_i2l (k := p2.toInt) ez1 rfl
  refine lv_lconst (v := 0) hx hb dX7_has_2 (by decide +kernel) ?_
  refine lv_aload_n hx hb dX7_has_3 rfl (lv_at hl 0 rfl) ?_
  refine lv_iload_n hx hb dX7_has_4 rfl (lv_at hl 1 rfl) ?_
  refine ro_i (va_runV (As := [.int p1]) (rest := [.long 0, .long z1]) ⟨hx, hb, hml, hown, hts⟩ (s_X7_wide l dC dI cs L K G Q hQ x0 m0 tx tm H.size I J hI p0 hLp0 hKp0 p1 ⟨by omega, by omega⟩) (cwV 1 hts (gV pq1368 pq1370 pq32 pq81 pq1371) rfl rfl rfl (by decide +kernel) ⟨(by rw [hR]; exact (Nat.le_of_ble_eq_true rfl)), (by rw [hR]; exact (Nat.le_of_ble_eq_true rfl))⟩) (sP_V hP hD hK hN hLp0 hKp0 rfl rfl) rfl rfl hl.1 rfl (lv_room (Nat.le_of_ble_eq_true rfl)) dX7_has_5 ⟨(by rw [hR]; exact (Nat.le_of_ble_eq_true rfl)), (by rw [hR]; exact (Nat.le_of_ble_eq_true rfl))⟩) hS hP (fun z5 H locs hz5 hP hS => ?_)
  obtain ⟨bz5, fez5⟩ := hz5
  refine lv_iconst (v := 1) hx hb dX7_has_8 (by decide +kernel) ?_
  refine lv_isub hx hb dX7_has_9 ?_
  refine lv_topi (fun z9 ez9 => ?_)
  have bz9 := tq_sub (k := z5.toInt) (q := (1)) ez9 rfl (by decide +kernel) (by omega) (by omega)
  refine lv_i2l hx hb dX7_has_10 rfl ?_
  refine lv_topl (fun z10 ez10 => ?_)
  have bz10 := tq_i2l (k := z9.toInt) ez10 rfl
  refine ro_i (va_runS (As := [.long z1, .long 0, .long z10]) (rest := []) ⟨hx, hb, hml, hown, hts⟩ (s_X7_in l dC dI cs L K Q H.size I J z1 0 z10) (va_cwS 3 hts (gS pq1234 pq1235 pq81 pq1236) rfl rfl rfl (by decide +kernel) ⟨(by rw [hR]; exact (Nat.le_of_ble_eq_true rfl)), (by rw [hR]; exact (Nat.le_of_ble_eq_true rfl))⟩) (sP_S hP hD hK hN) rfl rfl hl.1 rfl (lv_room (Nat.le_of_ble_eq_true rfl)) dX7_has_11 ⟨(by rw [hR]; exact (Nat.le_of_ble_eq_true rfl)), (by rw [hR]; exact (Nat.le_of_ble_eq_true rfl))⟩) hS hP (fun z11 H locs hz11 hP hS => ?_)
  have csl11_0 : (0 : Int64).toInt = 0 := by decide +kernel
  obtain ⟨bz11, imz11, xpz11⟩ := hz11
  refine lv_if_eq (tgt := 51) hx hb dX7_has_14 (by decide) (fun c14 => ?_) (fun c14 => ?_)
  · have t14 := tq_eq (k := z11.toInt) (q := (0)) c14 rfl (by decide +kernel)
    refine lv_iconst (v := 0) hx hb dX7_has_51 (by decide +kernel) ?_
    subst hR; subst hQz
    exact W.zret (v := 0) hx hb hr (by decide +kernel) (fun t ht hW => ⟨⟨0, (), rfl, ⟨⟨by decide +kernel, by decide +kernel⟩, fun h => absurd (by decide +kernel) h, (bi_0 (by decide +kernel) (by first | exact hs_n (fun q => xpz11 t14 (by have e5 := congrArg Int32.toInt (show z5 = I (a0 Q p0 0) (3 + p1.toInt.toNat) from fez5); have q : 0 ≤ p2.toInt ∧ p2.toInt < (I (a0 Q p0 0) (3 + p1.toInt.toNat)).toInt ∧ 0 ≤ p3.toInt ∧ p3.toInt < (I (a0 Q p0 0) (11 + p1.toInt.toNat)).toInt := q; omega)) | exact hs_n (fun q => xpz28 t31 (by have e22 := congrArg Int32.toInt (show z22 = I (a0 Q p0 0) (11 + p1.toInt.toNat) from fez22); have q : 0 ≤ p2.toInt ∧ p2.toInt < (I (a0 Q p0 0) (3 + p1.toInt.toNat)).toInt ∧ 0 ≤ p3.toInt ∧ p3.toInt < (I (a0 Q p0 0) (11 + p1.toInt.toNat)).toInt := q; omega)) | (unfold hs; have q := bi_f xpz41 t44; rw [show md (rF Q J p0 p1.toInt.toNat) p2.toInt p3.toInt = false from (by show md (mo (J (a0 Q p0 5)) p1.toInt.toNat) p2.toInt p3.toInt = false; rw [show a0 Q p0 5 = y35 from gd_of ey35]; exact q), Bool.and_false])))⟩, trivial⟩, hS.F ht⟩) hS.2.2 dX7_has_52
  · have t14 := tq_ne (k := z11.toInt) (q := (0)) c14 rfl (by decide +kernel)
    have i14 := imz11 t14
    refine lv_iload_n hx hb dX7_has_17 rfl (lv_at hl 3 rfl) ?_
    refine lv_i2l hx hb dX7_has_18 rfl ?_
    refine lv_topl (fun z18 ez18 => ?_)
    have bz18 := tq_i2l (k := p3.toInt) ez18 rfl
    refine lv_lconst (v := 0) hx hb dX7_has_19 (by decide +kernel) ?_
    refine lv_aload_n hx hb dX7_has_20 rfl (lv_at hl 0 rfl) ?_
    refine lv_iload_n hx hb dX7_has_21 rfl (lv_at hl 1 rfl) ?_
    refine ro_i (va_runV (As := [.int p1]) (rest := [.long 0, .long z18]) ⟨hx, hb, hml, hown, hts⟩ (s_X7_high l dC dI cs L K G Q hQ x0 m0 tx tm H.size I J hI p0 hLp0 hKp0 p1 ⟨by omega, by omega⟩) (cwV 1 hts (gV pq1372 pq1374 pq33 pq81 pq1375) rfl rfl rfl (by decide +kernel) ⟨(by rw [hR]; exact (Nat.le_of_ble_eq_true rfl)), (by rw [hR]; exact (Nat.le_of_ble_eq_true rfl))⟩) (sP_V hP hD hK hN hLp0 hKp0 rfl rfl) rfl rfl hl.1 rfl (lv_room (Nat.le_of_ble_eq_true rfl)) dX7_has_22 ⟨(by rw [hR]; exact (Nat.le_of_ble_eq_true rfl)), (by rw [hR]; exact (Nat.le_of_ble_eq_true rfl))⟩) hS hP (fun z22 H locs hz22 hP hS => ?_)
    obtain ⟨bz22, fez22⟩ := hz22
    refine lv_iconst (v := 1) hx hb dX7_has_25 (by decide +kernel) ?_
    refine lv_isub hx hb dX7_has_26 ?_
    refine lv_topi (fun z26 ez26 => ?_)
    have bz26 := tq_sub (k := z22.toInt) (q := (1)) ez26 rfl (by decide +kernel) (by omega) (by omega)
    refine lv_i2l hx hb dX7_has_27 rfl ?_
    refine lv_topl (fun z27 ez27 => ?_)
    have bz27 := tq_i2l (k := z26.toInt) ez27 rfl
    refine ro_i (va_runS (As := [.long z18, .long 0, .long z27]) (rest := []) ⟨hx, hb, hml, hown, hts⟩ (s_X7_in l dC dI cs L K Q H.size I J z18 0 z27) (va_cwS 3 hts (gS pq1234 pq1235 pq81 pq1236) rfl rfl rfl (by decide +kernel) ⟨(by rw [hR]; exact (Nat.le_of_ble_eq_true rfl)), (by rw [hR]; exact (Nat.le_of_ble_eq_true rfl))⟩) (sP_S hP hD hK hN) rfl rfl hl.1 rfl (lv_room (Nat.le_of_ble_eq_true rfl)) dX7_has_28 ⟨(by rw [hR]; exact (Nat.le_of_ble_eq_true rfl)), (by rw [hR]; exact (Nat.le_of_ble_eq_true rfl))⟩) hS hP (fun z28 H locs hz28 hP hS => ?_)
    have csl28_0 : (0 : Int64).toInt = 0 := by decide +kernel
    obtain ⟨bz28, imz28, xpz28⟩ := hz28
    refine lv_if_eq (tgt := 51) hx hb dX7_has_31 (by decide) (fun c31 => ?_) (fun c31 => ?_)
    · have t31 := tq_eq (k := z28.toInt) (q := (0)) c31 rfl (by decide +kernel)
      refine lv_iconst (v := 0) hx hb dX7_has_51 (by decide +kernel) ?_
      subst hR; subst hQz
      exact W.zret (v := 0) hx hb hr (by decide +kernel) (fun t ht hW => ⟨⟨0, (), rfl, ⟨⟨by decide +kernel, by decide +kernel⟩, fun h => absurd (by decide +kernel) h, (bi_0 (by decide +kernel) (by first | exact hs_n (fun q => xpz11 t14 (by have e5 := congrArg Int32.toInt (show z5 = I (a0 Q p0 0) (3 + p1.toInt.toNat) from fez5); have q : 0 ≤ p2.toInt ∧ p2.toInt < (I (a0 Q p0 0) (3 + p1.toInt.toNat)).toInt ∧ 0 ≤ p3.toInt ∧ p3.toInt < (I (a0 Q p0 0) (11 + p1.toInt.toNat)).toInt := q; omega)) | exact hs_n (fun q => xpz28 t31 (by have e22 := congrArg Int32.toInt (show z22 = I (a0 Q p0 0) (11 + p1.toInt.toNat) from fez22); have q : 0 ≤ p2.toInt ∧ p2.toInt < (I (a0 Q p0 0) (3 + p1.toInt.toNat)).toInt ∧ 0 ≤ p3.toInt ∧ p3.toInt < (I (a0 Q p0 0) (11 + p1.toInt.toNat)).toInt := q; omega)) | (unfold hs; have q := bi_f xpz41 t44; rw [show md (rF Q J p0 p1.toInt.toNat) p2.toInt p3.toInt = false from (by show md (mo (J (a0 Q p0 5)) p1.toInt.toNat) p2.toInt p3.toInt = false; rw [show a0 Q p0 5 = y35 from gd_of ey35]; exact q), Bool.and_false])))⟩, trivial⟩, hS.F ht⟩) hS.2.2 dX7_has_52
    · have t31 := tq_ne (k := z28.toInt) (q := (0)) c31 rfl (by decide +kernel)
      have i31 := imz28 t31
      refine lv_aload_n hx hb dX7_has_34 rfl (lv_at hl 0 rfl) ?_
      obtain ⟨y35, ey35, hLy35, hKy35⟩ := oQ_7_5 (Sv_at hQ hLp0 hKp0)
      refine p_get (v := .ref y35) hx hb hts inX7 hown hK hP hLp0 hKp0 rfl rfl 5 (by decide) (hts _ pq1120) (congrArg (fun q => some (va_rf q)) ey35) dX7_has_35 ?_
      refine lv_iload_n hx hb dX7_has_38 rfl (lv_at hl 1 rfl) ?_
      refine lv_iload_n hx hb dX7_has_39 rfl (lv_at hl 2 rfl) ?_
      refine lv_iload_n hx hb dX7_has_40 rfl (lv_at hl 3 rfl) ?_
      refine ro_i (va_runS (As := [.ref y35, .int p1, .int p2, .int p3]) (rest := []) ⟨hx, hb, hml, hown, hts⟩ (s_X7_isDot l dC dI cs L K G Q hQ x0 m0 tx tm H.size I J hI y35 hLy35 hKy35 p1 ⟨by omega, by omega⟩ p2 ⟨by omega, by omega⟩ p3 ⟨by omega, by omega⟩) (va_cwS 4 hts (gS pq1380 pq1381 pq81 pq1382) rfl rfl rfl (by decide +kernel) ⟨(by rw [hR]; exact (Nat.le_of_ble_eq_true rfl)), (by rw [hR]; exact (Nat.le_of_ble_eq_true rfl))⟩) (sP_S hP hD hK hN) rfl rfl hl.1 rfl (lv_room (Nat.le_of_ble_eq_true rfl)) dX7_has_41 ⟨(by rw [hR]; exact (Nat.le_of_ble_eq_true rfl)), (by rw [hR]; exact (Nat.le_of_ble_eq_true rfl))⟩) hS hP (fun z41 H locs hz41 hP hS => ?_)
      obtain ⟨bz41, xpz41⟩ := hz41
      refine lv_if_eq (tgt := 51) hx hb dX7_has_44 (by decide) (fun c44 => ?_) (fun c44 => ?_)
      · have t44 := tq_eq (k := z41.toInt) (q := (0)) c44 rfl (by decide +kernel)
        refine lv_iconst (v := 0) hx hb dX7_has_51 (by decide +kernel) ?_
        subst hR; subst hQz
        exact W.zret (v := 0) hx hb hr (by decide +kernel) (fun t ht hW => ⟨⟨0, (), rfl, ⟨⟨by decide +kernel, by decide +kernel⟩, fun h => absurd (by decide +kernel) h, (bi_0 (by decide +kernel) (by first | exact hs_n (fun q => xpz11 t14 (by have e5 := congrArg Int32.toInt (show z5 = I (a0 Q p0 0) (3 + p1.toInt.toNat) from fez5); have q : 0 ≤ p2.toInt ∧ p2.toInt < (I (a0 Q p0 0) (3 + p1.toInt.toNat)).toInt ∧ 0 ≤ p3.toInt ∧ p3.toInt < (I (a0 Q p0 0) (11 + p1.toInt.toNat)).toInt := q; omega)) | exact hs_n (fun q => xpz28 t31 (by have e22 := congrArg Int32.toInt (show z22 = I (a0 Q p0 0) (11 + p1.toInt.toNat) from fez22); have q : 0 ≤ p2.toInt ∧ p2.toInt < (I (a0 Q p0 0) (3 + p1.toInt.toNat)).toInt ∧ 0 ≤ p3.toInt ∧ p3.toInt < (I (a0 Q p0 0) (11 + p1.toInt.toNat)).toInt := q; omega)) | (unfold hs; have q := bi_f xpz41 t44; rw [show md (rF Q J p0 p1.toInt.toNat) p2.toInt p3.toInt = false from (by show md (mo (J (a0 Q p0 5)) p1.toInt.toNat) p2.toInt p3.toInt = false; rw [show a0 Q p0 5 = y35 from gd_of ey35]; exact q), Bool.and_false])))⟩, trivial⟩, hS.F ht⟩) hS.2.2 dX7_has_52
      · have t44 := tq_ne (k := z41.toInt) (q := (0)) c44 rfl (by decide +kernel)
        refine lv_iconst (v := 1) hx hb dX7_has_47 (by decide +kernel) ?_
        refine lv_goto (tgt := 52) hx hb dX7_has_48 (by decide) ?_
        subst hR; subst hQz
        exact W.zret (v := 1) hx hb hr (by decide +kernel) (fun t ht hW => ⟨⟨1, (), rfl, ⟨⟨by decide +kernel, by decide +kernel⟩, fun _ => ⟨⟨by omega, by omega⟩, ⟨by omega, by omega⟩⟩, (bi_1 (by decide +kernel) (hs_t.mpr ⟨by have e5 := congrArg Int32.toInt (show z5 = I (a0 Q p0 0) (3 + p1.toInt.toNat) from fez5); have e22 := congrArg Int32.toInt (show z22 = I (a0 Q p0 0) (11 + p1.toInt.toNat) from fez22); show 0 ≤ p2.toInt ∧ p2.toInt < (I (a0 Q p0 0) (3 + p1.toInt.toNat)).toInt ∧ 0 ≤ p3.toInt ∧ p3.toInt < (I (a0 Q p0 0) (11 + p1.toInt.toNat)).toInt; omega, by have q := bi_t xpz41 t44; show md (mo (J (a0 Q p0 5)) p1.toInt.toNat) p2.toInt p3.toInt = true; rw [show a0 Q p0 5 = y35 from gd_of ey35]; exact q⟩))⟩, trivial⟩, hS.F ht⟩) hS.2.2 dX7_has_52

set_option maxHeartbeats 4000000 in
set_option maxRecDepth 100000 in
theorem s_X7_lies (l : Launch) (dC : Nat → ClassId) (dI : Nat → Nat → Nat) (cs : Nat → ClassId) (L : List Nat) (K G : Nat → Nat) (Q : Nat → Nat → Option Nat) (hQ : Sv L K G Q) (x0 m0 : Nat) (tx : GT) (tm : GT × Int) (sz : Nat) (I : Nat → Nat → Int32) (J : Nat → Nat → Int64) (hI : Iv L K x0 m0 tx tm I) (p0 : Nat) (hLp0 : p0 ∈ L) (hKp0 : K p0 = 7) (p1 : Int32) (bp1 : (0) ≤ p1.toInt ∧ p1.toInt ≤ 9) (p2 : Int32) (p3 : Int32) : Met l yX7_lies (.code yX7_lies cX7_lies 8 (some .boolean) :: pw) ({ frames := 2, cells := 0, slots := 0, locals := 48 }) (sP (dC, dI) cs [.ref p0, .int p1, .int p2, .int p3] sz L K I J Q) (va_Qi (fun (r : Int32) (_ : Unit) => ((0) ≤ r.toInt ∧ r.toInt ≤ 1) ∧ (∀ c : Fx, okF c → rI Q I p0 c → rJ Q J p0 c → p1.toInt.toNat < (c.1 1).toInt.toNat → (¬ r.toInt = 0 ↔ shp c p1.toInt.toNat (p2 - c.1 (19 + 8 * p1.toInt.toNat + 1)).toInt (p3 - c.1 (19 + 8 * p1.toInt.toNat + 2)).toInt = true))) (fun _ _ => True) (fun _ => False)) 0 0 (fun _ => False) := by
  refine Met.ofW (cc := cX7_lies) (maxL := 8) (ret := (some .boolean)) (by decide +kernel) rfl ?_
  intro p e s m args below meth c s₁ B hml hv
  obtain ⟨rfl, hsz, hP, hK, hD0, hN⟩ := hv
  have hx := B.exec
  have hb := B.bytes
  have hr := B.returns
  have hts := fun w (h : w ∈ pw) => atoms_spec (ws := Cond.code yX7_lies cX7_lies 8 (some .boolean) :: pw) B.pre w (List.mem_cons_of_mem _ h)
  have hown : s.vm.findClass RX7 = some m.cls := findClass_of_methodNamed B.named
  have hlocks := B.notSynchronized
  subst hsz
  have hBB : 999 ≤ tm.2 ∧ tm.2 ≤ 6000000 := hI.2.2.2.2.1
  have hD := hD0
  obtain ⟨H, hHe⟩ : ∃ H : Heap, H = s.heap := ⟨_, rfl⟩
  have hS : va_S (fun _ => False) s.heap H [] := by rw [hHe]; exact va_S.rf
  rw [← hHe] at hP
  have hl := lv_entry ([.ref p0, .int p1, .int p2, .int p3]) (n := 8) (Nat.le_of_ble_eq_true rfl)
  rw [lg_entry_eq]
  generalize (lg_sl ([.ref p0, .int p1, .int p2, .int p3]) ++ List.replicate (8 - (lg_sl ([.ref p0, .int p1, .int p2, .int p3])).length) Slot.unset).toArray = ls at hl ⊢
  have hl : lv_has ls 8 [(0, .ref p0), (1, .int p1), (2, .int p2), (3, .int p3)] := hl
  rw [← hHe]
  refine namedW (fun R Qz hR hQz => ?_)
  refine lv_aload_n hx hb dX7_lies_0 rfl (lv_at hl 0 rfl) ?_
  refine lv_iload_n hx hb dX7_lies_1 rfl (lv_at hl 1 rfl) ?_
  refine ro_i (va_runV (As := [.int p1]) (rest := []) ⟨hx, hb, hml, hown, hts⟩ (s_X7_maskOf l dC dI cs L K G Q hQ x0 m0 tx tm H.size I J hI p0 hLp0 hKp0 p1 ⟨by omega, by omega⟩) (cwV 1 hts (gV pq1431 pq1433 pq41 pq81 pq1434) rfl rfl rfl (by decide +kernel) ⟨(by rw [hR]; exact (Nat.le_of_ble_eq_true rfl)), (by rw [hR]; exact (Nat.le_of_ble_eq_true rfl))⟩) (sP_V hP hD hK hN hLp0 hKp0 rfl rfl) rfl rfl hl.1 rfl (lv_room (Nat.le_of_ble_eq_true rfl)) dX7_lies_2 ⟨(by rw [hR]; exact (Nat.le_of_ble_eq_true rfl)), (by rw [hR]; exact (Nat.le_of_ble_eq_true rfl))⟩) hS hP (fun z2 H locs hz2 hP hS => ?_)
  obtain ⟨bz2, fez2⟩ := hz2
  refine lv_istore (lv' := [(4, .int z2), (0, .ref p0), (1, .int p1), (2, .int p2), (3, .int p3)]) hx hb dX7_lies_5 hl (by decide) rfl (fun ls hl => ?_)
  refine lv_iload_n hx hb dX7_lies_7 rfl (lv_at hl 3 rfl) ?_
  refine lv_aload_n hx hb dX7_lies_8 rfl (lv_at hl 1 rfl) ?_
  refine lv_iload_n hx hb dX7_lies_9 rfl (lv_at hl 2 rfl) ?_
  refine lv_iconst (v := 1) hx hb dX7_lies_10 (by decide +kernel) ?_
  refine ro_i (va_runV (As := [.int p1, .int 1]) (rest := [.int p2]) ⟨hx, hb, hml, hown, hts⟩ (s_X7_of l dC dI cs L K G Q hQ x0 m0 tx tm H.size I J hI p0 hLp0 hKp0 p1 ⟨by omega, by omega⟩ 1 ⟨by decide +kernel, by decide +kernel⟩) (cwV 2 hts (gV pq1320 pq1322 pq25 pq81 pq1323) rfl rfl rfl (by decide +kernel) ⟨(by rw [hR]; exact (Nat.le_of_ble_eq_true rfl)), (by rw [hR]; exact (Nat.le_of_ble_eq_true rfl))⟩) (sP_V hP hD hK hN hLp0 hKp0 rfl rfl) rfl rfl hl.1 rfl (lv_room (Nat.le_of_ble_eq_true rfl)) dX7_lies_11 ⟨(by rw [hR]; exact (Nat.le_of_ble_eq_true rfl)), (by rw [hR]; exact (Nat.le_of_ble_eq_true rfl))⟩) hS hP (fun z11 H locs hz11 hP hS => ?_)
  have cst11_1 : (1 : Int32).toInt = 1 := by decide +kernel
  obtain ⟨fez11, xpz11⟩ := hz11
  have bz11 := xpz11.2.1 rfl
  refine lv_isub hx hb dX7_lies_14 ?_
  refine lv_topi (fun z14 ez14 => ?_)
  refine lv_istore (lv' := [(5, .int z14), (4, .int z2), (0, .ref p0), (1, .int p1), (2, .int p2), (3, .int p3)]) hx hb dX7_lies_15 hl (by decide) rfl (fun ls hl => ?_)
  refine lv_iload_n hx hb dX7_lies_17 rfl (lv_at hl 5 rfl) ?_
  refine lv_aload_n hx hb dX7_lies_18 rfl (lv_at hl 2 rfl) ?_
  refine lv_iload_n hx hb dX7_lies_19 rfl (lv_at hl 3 rfl) ?_
  refine lv_iconst (v := 2) hx hb dX7_lies_20 (by decide +kernel) ?_
  refine ro_i (va_runV (As := [.int p1, .int 2]) (rest := [.int p3]) ⟨hx, hb, hml, hown, hts⟩ (s_X7_of l dC dI cs L K G Q hQ x0 m0 tx tm H.size I J hI p0 hLp0 hKp0 p1 ⟨by omega, by omega⟩ 2 ⟨by decide +kernel, by decide +kernel⟩) (cwV 2 hts (gV pq1320 pq1322 pq25 pq81 pq1323) rfl rfl rfl (by decide +kernel) ⟨(by rw [hR]; exact (Nat.le_of_ble_eq_true rfl)), (by rw [hR]; exact (Nat.le_of_ble_eq_true rfl))⟩) (sP_V hP hD hK hN hLp0 hKp0 rfl rfl) rfl rfl hl.1 rfl (lv_room (Nat.le_of_ble_eq_true rfl)) dX7_lies_21 ⟨(by rw [hR]; exact (Nat.le_of_ble_eq_true rfl)), (by rw [hR]; exact (Nat.le_of_ble_eq_true rfl))⟩) hS hP (fun z21 H locs hz21 hP hS => ?_)
  have cst21_2 : (2 : Int32).toInt = 2 := by decide +kernel
  obtain ⟨fez21, xpz21⟩ := hz21
  have bz21 := xpz21.2.2.1 rfl
  refine lv_isub hx hb dX7_lies_24 ?_
  refine lv_topi (fun z24 ez24 => ?_)
  refine lv_istore (lv' := [(6, .int z24), (5, .int z14), (4, .int z2), (0, .ref p0), (1, .int p1), (2, .int p2), (3, .int p3)]) hx hb dX7_lies_25 hl (by decide) rfl (fun ls hl => ?_)
  refine lv_aload_n hx hb dX7_lies_27 rfl (lv_at hl 3 rfl) ?_
  refine lv_iload_n hx hb dX7_lies_28 rfl (lv_at hl 4 rfl) ?_
  refine lv_iconst (v := 3) hx hb dX7_lies_29 (by decide +kernel) ?_
  refine ro_i (va_runV (As := [.int p1, .int 3]) (rest := []) ⟨hx, hb, hml, hown, hts⟩ (s_X7_of l dC dI cs L K G Q hQ x0 m0 tx tm H.size I J hI p0 hLp0 hKp0 p1 ⟨by omega, by omega⟩ 3 ⟨by decide +kernel, by decide +kernel⟩) (cwV 2 hts (gV pq1320 pq1322 pq25 pq81 pq1323) rfl rfl rfl (by decide +kernel) ⟨(by rw [hR]; exact (Nat.le_of_ble_eq_true rfl)), (by rw [hR]; exact (Nat.le_of_ble_eq_true rfl))⟩) (sP_V hP hD hK hN hLp0 hKp0 rfl rfl) rfl rfl hl.1 rfl (lv_room (Nat.le_of_ble_eq_true rfl)) dX7_lies_30 ⟨(by rw [hR]; exact (Nat.le_of_ble_eq_true rfl)), (by rw [hR]; exact (Nat.le_of_ble_eq_true rfl))⟩) hS hP (fun z30 H locs hz30 hP hS => ?_)
  have cst30_3 : (3 : Int32).toInt = 3 := by decide +kernel
  obtain ⟨fez30, xpz30⟩ := hz30
  refine lv_istore (lv' := [(7, .int z30), (6, .int z24), (5, .int z14), (4, .int z2), (0, .ref p0), (1, .int p1), (2, .int p2), (3, .int p3)]) hx hb dX7_lies_33 hl (by decide) rfl (fun ls hl => ?_)
  refine lv_aload_n hx hb dX7_lies_35 rfl (lv_at hl 4 rfl) ?_
  refine lv_iload hx hb dX7_lies_36 (lv_at hl 3 rfl) ?_
  refine lv_iload hx hb dX7_lies_38 (lv_at hl 0 rfl) ?_
  refine lv_iconst (v := 2) hx hb dX7_lies_40 (by decide +kernel) ?_
  refine lv_irem hx hb dX7_lies_41 (by decide +kernel) ?_
  refine lv_topi (fun z41 ez41 => ?_)
  refine lv_iconst (v := 1) hx hb dX7_lies_42 (by decide +kernel) ?_
  have j62 : ∀ (w62_2 : Int32) (H : Heap) (lo : List Loc) (ls : Array Slot), (∀ c : Fx, okF c → rI Q I p0 c → p1.toInt.toNat < (c.1 1).toInt.toNat → flW (bw_ c p1.toInt.toNat).toInt ((c.1 (19 + 8 * p1.toInt.toNat + 3)).toInt % 2 = 1) z14 w62_2) → va_P (dC, dI) vwCl (Wd cs L K I J Q) H → va_S (fun _ => False) s.heap H lo → lv_has ls 8 [(0, .ref p0), (1, .int p1), (2, .int p2), (3, .int p3), (4, .int z2), (5, .int z14), (6, .int z24), (7, .int z30)] → W p l e R s m (([.ref p0, .int p1, .int p2, .int p3] : List Value).toArray) below meth c H lo 0 0 Qz (F0 m 62 ls [.int w62_2, .int z2, .ref p0]) := by
    intro w62_2 H lo ls g62 hP hS hl
    refine lv_iload hx hb dX7_lies_62 (lv_at hl 7 rfl) ?_
    refine lv_iconst (v := 1) hx hb dX7_lies_64 (by decide +kernel) ?_
    have j84 : ∀ (w84_3 : Int32) (H : Heap) (lo : List Loc) (ls : Array Slot), (∀ c : Fx, okF c → rI Q I p0 c → p1.toInt.toNat < (c.1 1).toInt.toNat → flW (bh_ c p1.toInt.toNat).toInt (2 ≤ (c.1 (19 + 8 * p1.toInt.toNat + 3)).toInt) z24 w84_3) → va_P (dC, dI) vwCl (Wd cs L K I J Q) H → va_S (fun _ => False) s.heap H lo → lv_has ls 8 [(0, .ref p0), (1, .int p1), (2, .int p2), (3, .int p3), (4, .int z2), (5, .int z14), (6, .int z24), (7, .int z30)] → W p l e R s m (([.ref p0, .int p1, .int p2, .int p3] : List Value).toArray) below meth c H lo 0 0 Qz (F0 m 84 ls [.int w84_3, .int w62_2, .int z2, .ref p0]) := by
      intro w84_3 H lo ls g84 hP hS hl
      refine ro_i (va_runV (As := [.int z2, .int w62_2, .int w84_3]) (rest := []) ⟨hx, hb, hml, hown, hts⟩ (s_X7_has l dC dI cs L K G Q hQ x0 m0 tx tm H.size I J hI p0 hLp0 hKp0 z2 ⟨by omega, by omega⟩ w62_2 w84_3) (cwV 3 hts (gV pq1376 pq1378 pq34 pq81 pq1379) rfl rfl rfl (by decide +kernel) ⟨(by rw [hR]; exact (Nat.le_of_ble_eq_true rfl)), (by rw [hR]; exact (Nat.le_of_ble_eq_true rfl))⟩) (sP_V hP hD hK hN hLp0 hKp0 rfl rfl) rfl rfl hl.1 rfl (lv_room (Nat.le_of_ble_eq_true rfl)) dX7_lies_84 ⟨(by rw [hR]; exact (Nat.le_of_ble_eq_true rfl)), (by rw [hR]; exact (Nat.le_of_ble_eq_true rfl))⟩) hS hP (fun z84 H locs hz84 hP hS => ?_)
      obtain ⟨bz84, imz84, xpz84⟩ := hz84
      subst hR; subst hQz
      exact W.zret (v := z84) hx hb hr (nar01 (by omega) (by omega)) (fun t ht hW => ⟨⟨z84, (), rfl, ⟨⟨by omega, by omega⟩, (fun c ok h hj ha => by have e2 : z2 = c.1 (19 + 8 * p1.toInt.toNat) := fez2.trans (h _ (by omega)); have e30 : z30 = c.1 (19 + 8 * p1.toInt.toNat + 3) := fez30.trans (h _ (by show 19 + 8 * p1.toInt.toNat + 3 < 99; omega)); have bd := ok.2.2.2 p1.toInt.toNat ha; have b3 := bd.2.2.2.1; rw [← e30] at b3; have o0 := ok.1; have b0 := bd.1; rw [← e2] at b0; have om := ok.2.2.1 z2.toInt.toNat (by omega); have eW : rW Q I p0 z2.toInt.toNat = (bw_ c p1.toInt.toNat).toInt := (by rw [show bw_ c p1.toInt.toNat = c.1 (3 + z2.toInt.toNat) by rw [e2]; rfl]; exact congrArg Int32.toInt (h _ (by omega))); have eH : rH Q I p0 z2.toInt.toNat = (bh_ c p1.toInt.toNat).toInt := (by rw [show bh_ c p1.toInt.toNat = c.1 (11 + z2.toInt.toNat) by rw [e2]; rfl]; exact congrArg Int32.toInt (h _ (by omega))); rw [xpz84, hs_congr (f := rF Q J p0 z2.toInt.toNat) (g := mo c.2 z2.toInt.toNat) eW eH (fun k hk => hj (80 * z2.toInt.toNat + k) (by omega)), fl_hs (fl := (c.1 (19 + 8 * p1.toInt.toNat + 3)).toInt) (by rw [show bw_ c p1.toInt.toNat = c.1 (3 + z2.toInt.toNat) by rw [e2]; rfl]; exact om.1) (by rw [show bh_ c p1.toInt.toNat = c.1 (11 + z2.toInt.toNat) by rw [e2]; rfl]; exact om.2.1) (g62 c ok h ha) (g84 c ok h ha), biT, ez14, ez24, fez11, fez21, show I ((Q p0 0).getD 0) (19 + 8 * p1.toInt.toNat + (1 : Int32).toInt.toNat) = c.1 (19 + 8 * p1.toInt.toNat + 1) from h _ (by omega), show I ((Q p0 0).getD 0) (19 + 8 * p1.toInt.toNat + (2 : Int32).toInt.toNat) = c.1 (19 + 8 * p1.toInt.toNat + 2) from h _ (by omega)]; unfold shp; rw [← e2])⟩, trivial⟩, hS.F ht⟩) hS.2.2 dX7_lies_87
    refine lv_icmp_le (tgt := 82) hx hb dX7_lies_65 (by decide) (fun c65 => ?_) (fun c65 => ?_)
    · have t65 := tq_le (k := z30.toInt) (q := (1)) c65 rfl (by decide +kernel)
      refine lv_iload hx hb dX7_lies_82 (lv_at hl 6 rfl) ?_
      exact j84 z24 _ _ _ (fun c ok h ha => by have e2 : z2 = c.1 (19 + 8 * p1.toInt.toNat) := fez2.trans (h _ (by omega)); have e30 : z30 = c.1 (19 + 8 * p1.toInt.toNat + 3) := fez30.trans (h _ (by show 19 + 8 * p1.toInt.toNat + 3 < 99; omega)); have bd := ok.2.2.2 p1.toInt.toNat ha; have b3 := bd.2.2.2.1; rw [← e30] at b3; have o0 := ok.1; have b0 := bd.1; rw [← e2] at b0; exact ⟨fun q => by rw [← e30] at q; omega, fun _ => rfl⟩) hP hS (lv_sub hl [0, 1, 2, 3, 4, 5, 6, 7] rfl)
    · have t65 := tq_nle (k := z30.toInt) (q := (1)) c65 rfl (by decide +kernel)
      have rg65z30 := fb_rng z30
      refine lv_aload_n hx hb dX7_lies_68 rfl (lv_at hl 0 rfl) ?_
      refine lv_iload hx hb dX7_lies_69 (lv_at hl 4 rfl) ?_
      refine ro_i (va_runV (As := [.int z2]) (rest := [.int w62_2, .int z2, .ref p0]) ⟨hx, hb, hml, hown, hts⟩ (s_X7_high l dC dI cs L K G Q hQ x0 m0 tx tm H.size I J hI p0 hLp0 hKp0 z2 ⟨by omega, by omega⟩) (cwV 1 hts (gV pq1372 pq1374 pq33 pq81 pq1375) rfl rfl rfl (by decide +kernel) ⟨(by rw [hR]; exact (Nat.le_of_ble_eq_true rfl)), (by rw [hR]; exact (Nat.le_of_ble_eq_true rfl))⟩) (sP_V hP hD hK hN hLp0 hKp0 rfl rfl) rfl rfl hl.1 rfl (lv_room (Nat.le_of_ble_eq_true rfl)) dX7_lies_71 ⟨(by rw [hR]; exact (Nat.le_of_ble_eq_true rfl)), (by rw [hR]; exact (Nat.le_of_ble_eq_true rfl))⟩) hS hP (fun z71 H locs hz71 hP hS => ?_)
      obtain ⟨bz71, fez71⟩ := hz71
      refine lv_iconst (v := 1) hx hb dX7_lies_74 (by decide +kernel) ?_
      refine lv_isub hx hb dX7_lies_75 ?_
      refine lv_topi (fun z75 ez75 => ?_)
      have bz75 := tq_sub (k := z71.toInt) (q := (1)) ez75 rfl (by decide +kernel) (by omega) (by omega)
      refine lv_iload hx hb dX7_lies_76 (lv_at hl 6 rfl) ?_
      refine lv_isub hx hb dX7_lies_78 ?_
      refine lv_topi (fun z78 ez78 => ?_)
      refine lv_goto (tgt := 84) hx hb dX7_lies_79 (by decide) ?_
      exact j84 z78 _ _ _ (fun c ok h ha => by have e2 : z2 = c.1 (19 + 8 * p1.toInt.toNat) := fez2.trans (h _ (by omega)); have e30 : z30 = c.1 (19 + 8 * p1.toInt.toNat + 3) := fez30.trans (h _ (by show 19 + 8 * p1.toInt.toNat + 3 < 99; omega)); have bd := ok.2.2.2 p1.toInt.toNat ha; have b3 := bd.2.2.2.1; rw [← e30] at b3; have o0 := ok.1; have b0 := bd.1; rw [← e2] at b0; have e71 : z71.toInt = (bh_ c p1.toInt.toNat).toInt := (by rw [fez71, show bh_ c p1.toInt.toNat = c.1 (11 + z2.toInt.toNat) by rw [e2]; rfl]; exact congrArg Int32.toInt (h _ (by omega))); have w := tq_subw (k := z75.toInt) (q := z24.toInt) ez78 rfl rfl; rw [bz75, e71] at w; exact ⟨fun _ => w, fun q => absurd (by rw [← e30]; omega) q⟩) hP hS (lv_sub hl [0, 1, 2, 3, 4, 5, 6, 7] rfl)
  refine lv_icmp_ne (tgt := 60) hx hb dX7_lies_43 (by decide) (fun c43 => ?_) (fun c43 => ?_)
  · have t43 := tq_ne (k := z41.toInt) (q := (1)) c43 rfl (by decide +kernel)
    refine lv_iload hx hb dX7_lies_60 (lv_at hl 2 rfl) ?_
    exact j62 z14 _ _ _ (fun c ok h ha => by have e2 : z2 = c.1 (19 + 8 * p1.toInt.toNat) := fez2.trans (h _ (by omega)); have e30 : z30 = c.1 (19 + 8 * p1.toInt.toNat + 3) := fez30.trans (h _ (by show 19 + 8 * p1.toInt.toNat + 3 < 99; omega)); have bd := ok.2.2.2 p1.toInt.toNat ha; have b3 := bd.2.2.2.1; rw [← e30] at b3; have o0 := ok.1; have b0 := bd.1; rw [← e2] at b0; have m41 := tq_rem (k := 2) ez41 (by decide +kernel) (by decide) b3.1; exact ⟨fun q => absurd (by rw [m41, e30]; exact q) t43, fun _ => rfl⟩) hP hS (lv_sub hl [4, 5, 6, 7, 3, 2, 1, 0] rfl)
  · have t43 := tq_eq (k := z41.toInt) (q := (1)) c43 rfl (by decide +kernel)
    refine lv_aload_n hx hb dX7_lies_46 rfl (lv_at hl 4 rfl) ?_
    refine lv_iload hx hb dX7_lies_47 (lv_at hl 3 rfl) ?_
    refine ro_i (va_runV (As := [.int z2]) (rest := [.int z2, .ref p0]) ⟨hx, hb, hml, hown, hts⟩ (s_X7_wide l dC dI cs L K G Q hQ x0 m0 tx tm H.size I J hI p0 hLp0 hKp0 z2 ⟨by omega, by omega⟩) (cwV 1 hts (gV pq1368 pq1370 pq32 pq81 pq1371) rfl rfl rfl (by decide +kernel) ⟨(by rw [hR]; exact (Nat.le_of_ble_eq_true rfl)), (by rw [hR]; exact (Nat.le_of_ble_eq_true rfl))⟩) (sP_V hP hD hK hN hLp0 hKp0 rfl rfl) rfl rfl hl.1 rfl (lv_room (Nat.le_of_ble_eq_true rfl)) dX7_lies_49 ⟨(by rw [hR]; exact (Nat.le_of_ble_eq_true rfl)), (by rw [hR]; exact (Nat.le_of_ble_eq_true rfl))⟩) hS hP (fun z49 H locs hz49 hP hS => ?_)
    obtain ⟨bz49, fez49⟩ := hz49
    refine lv_iconst (v := 1) hx hb dX7_lies_52 (by decide +kernel) ?_
    refine lv_isub hx hb dX7_lies_53 ?_
    refine lv_topi (fun z53 ez53 => ?_)
    have bz53 := tq_sub (k := z49.toInt) (q := (1)) ez53 rfl (by decide +kernel) (by omega) (by omega)
    refine lv_iload hx hb dX7_lies_54 (lv_at hl 2 rfl) ?_
    refine lv_isub hx hb dX7_lies_56 ?_
    refine lv_topi (fun z56 ez56 => ?_)
    refine lv_goto (tgt := 62) hx hb dX7_lies_57 (by decide) ?_
    exact j62 z56 _ _ _ (fun c ok h ha => by have e2 : z2 = c.1 (19 + 8 * p1.toInt.toNat) := fez2.trans (h _ (by omega)); have e30 : z30 = c.1 (19 + 8 * p1.toInt.toNat + 3) := fez30.trans (h _ (by show 19 + 8 * p1.toInt.toNat + 3 < 99; omega)); have bd := ok.2.2.2 p1.toInt.toNat ha; have b3 := bd.2.2.2.1; rw [← e30] at b3; have o0 := ok.1; have b0 := bd.1; rw [← e2] at b0; have m41 := tq_rem (k := 2) ez41 (by decide +kernel) (by decide) b3.1; have e49 : z49.toInt = (bw_ c p1.toInt.toNat).toInt := (by rw [fez49, show bw_ c p1.toInt.toNat = c.1 (3 + z2.toInt.toNat) by rw [e2]; rfl]; exact congrArg Int32.toInt (h _ (by omega))); have w := tq_subw (k := z53.toInt) (q := z14.toInt) ez56 rfl rfl; rw [bz53, e49] at w; exact ⟨fun _ => w, fun q => absurd (by rw [← e30, ← m41]; exact t43) q⟩) hP hS (lv_sub hl [4, 5, 6, 7, 3, 2, 1, 0] rfl)

set_option maxHeartbeats 4000000 in
set_option maxRecDepth 100000 in
theorem s_X7_setsDot (l : Launch) (dC : Nat → ClassId) (dI : Nat → Nat → Nat) (cs : Nat → ClassId) (L : List Nat) (K G : Nat → Nat) (Q : Nat → Nat → Option Nat) (hQ : Sv L K G Q) (x0 m0 : Nat) (tx : GT) (tm : GT × Int) (sz : Nat) (I : Nat → Nat → Int32) (J : Nat → Nat → Int64) (hI : Iv L K x0 m0 tx tm I) (p0 : Nat) (hLp0 : p0 ∈ L) (hKp0 : K p0 = 32) (p1 : Int32) (bp1 : (0) ≤ p1.toInt ∧ p1.toInt ≤ 7) (p2 : Int32) (bp2 : (0) ≤ p2.toInt ∧ p2.toInt ≤ 127) (p3 : Int32) (bp3 : (0) ≤ p3.toInt ∧ p3.toInt ≤ 39) : Met l yX7_setsDot (.code yX7_setsDot cX7_setsDot 4 none :: pw) ({ frames := 0, cells := 0, slots := 0, locals := 0 }) (sP (dC, dI) cs [.ref p0, .int p1, .int p2, .int p3] sz L K I J Q) (va_Qv (fun (_ : Unit) => True) (fun _ t => sB (dC, dI) cs L K Q (fun I1 J1 => Iv L K x0 m0 tx tm I1 ∧ I1 = I ∧ ((∀ x y : Int, md (mo (J1 p0) p1.toInt.toNat) x y = (md (mo (J p0) p1.toInt.toNat) x y || decide (x = p2.toInt ∧ y = p3.toInt))) ∧ ∀ k, (k < 80 * p1.toInt.toNat ∨ 80 * p1.toInt.toNat + 80 ≤ k) → J1 p0 k = J p0 k) ∧ (∀ b, ¬ (K b = 32) → J1 b = J b)) t) (fun q => q ∈ L ∨ sz ≤ q)) 0 0 (fun q => q ∈ L ∨ sz ≤ q) := by
  refine Met.ofW (cc := cX7_setsDot) (maxL := 4) (ret := none) (by decide +kernel) rfl ?_
  intro p e s m args below meth c s₁ B hml hv
  obtain ⟨rfl, hsz, hP, hK, hD0, hN⟩ := hv
  have hx := B.exec
  have hb := B.bytes
  have hr := B.returns
  have hts := fun w (h : w ∈ pw) => atoms_spec (ws := Cond.code yX7_setsDot cX7_setsDot 4 none :: pw) B.pre w (List.mem_cons_of_mem _ h)
  have hown : s.vm.findClass RX7 = some m.cls := findClass_of_methodNamed B.named
  have hlocks := B.notSynchronized
  subst hsz
  have hBB : 999 ≤ tm.2 ∧ tm.2 ≤ 6000000 := hI.2.2.2.2.1
  have dj_J : (∀ b, ¬ (K b = 32) → J b = J b) := fun _ _ => rfl
  obtain ⟨A, hAe⟩ : ∃ A : Nat → Prop, A = (fun q => q ∈ L ∨ s.heap.size ≤ q) := ⟨_, rfl⟩
  rw [← hAe]
  have hAL : ∀ q, q ∈ L → A q := fun q h => by rw [hAe]; exact Or.inl h
  have hA : ∀ q, s.heap.size ≤ q → A q := fun q h => by rw [hAe]; exact Or.inr h
  have hD : ∀ F, va_D A (va_pl L F) := fun F => (hD0 F).weaken (fun k q hk _ => hAL _ (pl_mem hk))
  obtain ⟨H, hHe⟩ : ∃ H : Heap, H = s.heap := ⟨_, rfl⟩
  have hS : va_S A s.heap H [] := by rw [hHe]; exact va_S.rf
  rw [← hHe] at hP
  have hl := lv_entry ([.ref p0, .int p1, .int p2, .int p3]) (n := 4) (Nat.le_of_ble_eq_true rfl)
  rw [lg_entry_eq]
  generalize (lg_sl ([.ref p0, .int p1, .int p2, .int p3]) ++ List.replicate (4 - (lg_sl ([.ref p0, .int p1, .int p2, .int p3])).length) Slot.unset).toArray = ls at hl ⊢
  have hl : lv_has ls 4 [(0, .ref p0), (1, .int p1), (2, .int p2), (3, .int p3)] := hl
  rw [← hHe]
  refine namedW (fun R Qz hR hQz => ?_)
  refine lv_aload_n hx hb dX7_setsDot_0 rfl (lv_at hl 0 rfl) ?_
  refine lv_bipush (v := 80) hx hb dX7_setsDot_1 (by decide +kernel) ?_
  refine lv_iload_n hx hb dX7_setsDot_3 rfl (lv_at hl 1 rfl) ?_
  refine lv_imul hx hb dX7_setsDot_4 ?_
  refine lv_topi (fun z4 ez4 => ?_)
  have bz4 := tq_mul (k := (80)) (q := p1.toInt) ez4 (by decide +kernel) rfl (by omega) (by omega)
  refine lv_iconst (v := 2) hx hb dX7_setsDot_5 (by decide +kernel) ?_
  refine lv_iload_n hx hb dX7_setsDot_6 rfl (lv_at hl 3 rfl) ?_
  refine lv_imul hx hb dX7_setsDot_7 ?_
  refine lv_topi (fun z7 ez7 => ?_)
  have bz7 := tq_mul (k := (2)) (q := p3.toInt) ez7 (by decide +kernel) rfl (by omega) (by omega)
  refine lv_iadd hx hb dX7_setsDot_8 ?_
  refine lv_topi (fun z8 ez8 => ?_)
  have bz8 := tq_add (k := z4.toInt) (q := z7.toInt) ez8 rfl rfl (by omega) (by omega)
  refine lv_iload_n hx hb dX7_setsDot_9 rfl (lv_at hl 2 rfl) ?_
  refine lv_bipush (v := 64) hx hb dX7_setsDot_10 (by decide +kernel) ?_
  refine lv_idiv hx hb dX7_setsDot_12 (by decide +kernel) ?_
  refine lv_topi (fun z12 ez12 => ?_)
  have bz12 := tq_div (k := 64) ez12 (by decide +kernel) (by omega) (by omega)
  refine lv_iadd hx hb dX7_setsDot_13 ?_
  refine lv_topi (fun z13 ez13 => ?_)
  have bz13 := tq_add (k := z8.toInt) (q := z12.toInt) ez13 rfl rfl (by omega) (by omega)
  refine lv_dup2_11 hx hb dX7_setsDot_14 rfl rfl ?_
  refine p_lald hx hb hK hP 22 hLp0 hKp0 rfl rfl (in_of (by omega) (by omega)) dX7_setsDot_15 ?_
  refine lv_topl (fun z15 ez15 => ?_)
  refine lv_lconst (v := 1) hx hb dX7_setsDot_16 (by decide +kernel) ?_
  refine lv_iload_n hx hb dX7_setsDot_17 rfl (lv_at hl 2 rfl) ?_
  refine lv_bipush (v := 64) hx hb dX7_setsDot_18 (by decide +kernel) ?_
  refine lv_irem hx hb dX7_setsDot_20 (by decide +kernel) ?_
  refine lv_topi (fun z20 ez20 => ?_)
  have bz20 := tq_rem (k := 64) ez20 (by decide +kernel) (by omega) (by omega)
  refine lv_lshl hx hb dX7_setsDot_21 rfl ?_
  refine lv_topl (fun z21 ez21 => ?_)
  refine lv_lor hx hb dX7_setsDot_22 ?_
  refine lv_topl (fun z22 ez22 => ?_)
  refine p_last hx hb hK hP hD hS 22 hLp0 hKp0 rfl (fun _ => rfl) rfl (in_of (by omega) (by omega)) dX7_setsDot_23 (fun H locs hP hS => ?_)
  obtain ⟨Jz23, hP, qJz23⟩ : ∃ Jz23, va_P (dC, dI) vwCl (Wd cs L K I Jz23 Q) H ∧ Jz23 = va_up J p0 (vp_updL (J p0) z13.toNatClampNeg z22) := ⟨_, hP, rfl⟩
  have dj_Jz23 : (∀ b, ¬ (K b = 32) → Jz23 b = J b) := fun b hc => (congrFun qJz23 b).trans ((va_up_ne _ _ (fun z => hc (by have q := hKp0; rw [← z] at q; omega))).trans (dj_J b hc))
  subst hR; subst hQz
  exact W.vret hx hb hr (fun t ht hW => ⟨⟨(), rfl, trivial, ⟨I, Jz23, ⟨hI, rfl, ⟨fun x y => md_set (f := mo (J p0) p1.toInt.toNat) (f1 := mo (Jz23 p0) p1.toInt.toNat) (v := z22) (i := z13.toInt.toNat - 80 * p1.toInt.toNat) (c := z20) (x0 := p2.toInt) (y0 := p3.toInt) (fun j => by unfold mo; rw [qJz23, va_up_self]; unfold vp_updL; rw [show z13.toNatClampNeg = z13.toInt.toNat from rfl]; exact (Classical.em (j = z13.toInt.toNat - 80 * p1.toInt.toNat)).elim (fun w => by rw [if_pos w, if_pos (by omega)]) (fun w => by rw [if_neg w, if_neg (by omega)])) (by rw [ez22, ez15, show z13.toNatClampNeg = z13.toInt.toNat from rfl]; unfold mo; rw [show 80 * p1.toInt.toNat + (z13.toInt.toNat - 80 * p1.toInt.toNat) = z13.toInt.toNat by omega]) ez21 (by omega) (by omega) (by omega) (by omega) (by omega) (by omega) x y, fun k hk => by rw [qJz23, va_up_self]; unfold vp_updL; rw [show z13.toNatClampNeg = z13.toInt.toNat from rfl, if_neg (by omega)]⟩, dj_Jz23⟩, by rw [ht]; exact hP⟩⟩, hS.F ht⟩) hS.2.2 dX7_setsDot_24

set_option maxHeartbeats 4000000 in
set_option maxRecDepth 100000 in
theorem s_X7_setsDotM (l : Launch) (dC : Nat → ClassId) (dI : Nat → Nat → Nat) (cs : Nat → ClassId) (L : List Nat) (K G : Nat → Nat) (Q : Nat → Nat → Option Nat) (hQ : Sv L K G Q) (x0 m0 : Nat) (tx : GT) (tm : GT × Int) (sz : Nat) (I : Nat → Nat → Int32) (J : Nat → Nat → Int64) (hI : Iv L K x0 m0 tx tm I) (p0 : Nat) (hLp0 : p0 ∈ L) (hKp0 : K p0 = 34) (p1 : Int32) (bp1 : (0) ≤ p1.toInt ∧ p1.toInt ≤ 0) (p2 : Int32) (bp2 : (0) ≤ p2.toInt ∧ p2.toInt ≤ 127) (p3 : Int32) (bp3 : (0) ≤ p3.toInt ∧ p3.toInt ≤ 39) : Met l yX7_setsDot (.code yX7_setsDot cX7_setsDot 4 none :: pw) ({ frames := 0, cells := 0, slots := 0, locals := 0 }) (sP (dC, dI) cs [.ref p0, .int p1, .int p2, .int p3] sz L K I J Q) (va_Qv (fun (_ : Unit) => True) (fun _ t => sB (dC, dI) cs L K Q (fun I1 J1 => Iv L K x0 m0 tx tm I1 ∧ I1 = I ∧ (∀ x y : Int, md (J1 p0) x y = (md (J p0) x y || decide (x = p2.toInt ∧ y = p3.toInt))) ∧ (∀ b, ¬ (K b = 34) → J1 b = J b)) t) (fun q => q ∈ L ∨ sz ≤ q)) 0 0 (fun q => q ∈ L ∨ sz ≤ q) := by
  refine Met.ofW (cc := cX7_setsDot) (maxL := 4) (ret := none) (by decide +kernel) rfl ?_
  intro p e s m args below meth c s₁ B hml hv
  obtain ⟨rfl, hsz, hP, hK, hD0, hN⟩ := hv
  have hx := B.exec
  have hb := B.bytes
  have hr := B.returns
  have hts := fun w (h : w ∈ pw) => atoms_spec (ws := Cond.code yX7_setsDot cX7_setsDot 4 none :: pw) B.pre w (List.mem_cons_of_mem _ h)
  have hown : s.vm.findClass RX7 = some m.cls := findClass_of_methodNamed B.named
  have hlocks := B.notSynchronized
  subst hsz
  have hBB : 999 ≤ tm.2 ∧ tm.2 ≤ 6000000 := hI.2.2.2.2.1
  have dj_J : (∀ b, ¬ (K b = 34) → J b = J b) := fun _ _ => rfl
  obtain ⟨A, hAe⟩ : ∃ A : Nat → Prop, A = (fun q => q ∈ L ∨ s.heap.size ≤ q) := ⟨_, rfl⟩
  rw [← hAe]
  have hAL : ∀ q, q ∈ L → A q := fun q h => by rw [hAe]; exact Or.inl h
  have hA : ∀ q, s.heap.size ≤ q → A q := fun q h => by rw [hAe]; exact Or.inr h
  have hD : ∀ F, va_D A (va_pl L F) := fun F => (hD0 F).weaken (fun k q hk _ => hAL _ (pl_mem hk))
  obtain ⟨H, hHe⟩ : ∃ H : Heap, H = s.heap := ⟨_, rfl⟩
  have hS : va_S A s.heap H [] := by rw [hHe]; exact va_S.rf
  rw [← hHe] at hP
  have hl := lv_entry ([.ref p0, .int p1, .int p2, .int p3]) (n := 4) (Nat.le_of_ble_eq_true rfl)
  rw [lg_entry_eq]
  generalize (lg_sl ([.ref p0, .int p1, .int p2, .int p3]) ++ List.replicate (4 - (lg_sl ([.ref p0, .int p1, .int p2, .int p3])).length) Slot.unset).toArray = ls at hl ⊢
  have hl : lv_has ls 4 [(0, .ref p0), (1, .int p1), (2, .int p2), (3, .int p3)] := hl
  rw [← hHe]
  refine namedW (fun R Qz hR hQz => ?_)
  refine lv_aload_n hx hb dX7_setsDot_0 rfl (lv_at hl 0 rfl) ?_
  refine lv_bipush (v := 80) hx hb dX7_setsDot_1 (by decide +kernel) ?_
  refine lv_iload_n hx hb dX7_setsDot_3 rfl (lv_at hl 1 rfl) ?_
  refine lv_imul hx hb dX7_setsDot_4 ?_
  refine lv_topi (fun z4 ez4 => ?_)
  have bz4 := tq_mul (k := (80)) (q := p1.toInt) ez4 (by decide +kernel) rfl (by omega) (by omega)
  refine lv_iconst (v := 2) hx hb dX7_setsDot_5 (by decide +kernel) ?_
  refine lv_iload_n hx hb dX7_setsDot_6 rfl (lv_at hl 3 rfl) ?_
  refine lv_imul hx hb dX7_setsDot_7 ?_
  refine lv_topi (fun z7 ez7 => ?_)
  have bz7 := tq_mul (k := (2)) (q := p3.toInt) ez7 (by decide +kernel) rfl (by omega) (by omega)
  refine lv_iadd hx hb dX7_setsDot_8 ?_
  refine lv_topi (fun z8 ez8 => ?_)
  have bz8 := tq_add (k := z4.toInt) (q := z7.toInt) ez8 rfl rfl (by omega) (by omega)
  refine lv_iload_n hx hb dX7_setsDot_9 rfl (lv_at hl 2 rfl) ?_
  refine lv_bipush (v := 64) hx hb dX7_setsDot_10 (by decide +kernel) ?_
  refine lv_idiv hx hb dX7_setsDot_12 (by decide +kernel) ?_
  refine lv_topi (fun z12 ez12 => ?_)
  have bz12 := tq_div (k := 64) ez12 (by decide +kernel) (by omega) (by omega)
  refine lv_iadd hx hb dX7_setsDot_13 ?_
  refine lv_topi (fun z13 ez13 => ?_)
  have bz13 := tq_add (k := z8.toInt) (q := z12.toInt) ez13 rfl rfl (by omega) (by omega)
  refine lv_dup2_11 hx hb dX7_setsDot_14 rfl rfl ?_
  refine p_lald hx hb hK hP 24 hLp0 hKp0 rfl rfl (in_of (by omega) (by omega)) dX7_setsDot_15 ?_
  refine lv_topl (fun z15 ez15 => ?_)
  refine lv_lconst (v := 1) hx hb dX7_setsDot_16 (by decide +kernel) ?_
  refine lv_iload_n hx hb dX7_setsDot_17 rfl (lv_at hl 2 rfl) ?_
  refine lv_bipush (v := 64) hx hb dX7_setsDot_18 (by decide +kernel) ?_
  refine lv_irem hx hb dX7_setsDot_20 (by decide +kernel) ?_
  refine lv_topi (fun z20 ez20 => ?_)
  have bz20 := tq_rem (k := 64) ez20 (by decide +kernel) (by omega) (by omega)
  refine lv_lshl hx hb dX7_setsDot_21 rfl ?_
  refine lv_topl (fun z21 ez21 => ?_)
  refine lv_lor hx hb dX7_setsDot_22 ?_
  refine lv_topl (fun z22 ez22 => ?_)
  refine p_last hx hb hK hP hD hS 24 hLp0 hKp0 rfl (fun _ => rfl) rfl (in_of (by omega) (by omega)) dX7_setsDot_23 (fun H locs hP hS => ?_)
  obtain ⟨Jz23, hP, qJz23⟩ : ∃ Jz23, va_P (dC, dI) vwCl (Wd cs L K I Jz23 Q) H ∧ Jz23 = va_up J p0 (vp_updL (J p0) z13.toNatClampNeg z22) := ⟨_, hP, rfl⟩
  have dj_Jz23 : (∀ b, ¬ (K b = 34) → Jz23 b = J b) := fun b hc => (congrFun qJz23 b).trans ((va_up_ne _ _ (fun z => hc (by have q := hKp0; rw [← z] at q; omega))).trans (dj_J b hc))
  subst hR; subst hQz
  exact W.vret hx hb hr (fun t ht hW => ⟨⟨(), rfl, trivial, ⟨I, Jz23, ⟨hI, rfl, (fun x y => md_set (f := J p0) (f1 := Jz23 p0) (i := z13.toInt.toNat) (c := z20) (x0 := p2.toInt) (y0 := p3.toInt) (fun j => by rw [qJz23, va_up_self]; rfl) (by rw [ez22, ez15]; rfl) ez21 (by omega) (by omega) (by omega) (by omega) (by omega) (by omega) x y), dj_Jz23⟩, by rw [ht]; exact hP⟩⟩, hS.F ht⟩) hS.2.2 dX7_setsDot_24

set_option maxHeartbeats 4000000 in
set_option maxRecDepth 100000 in
theorem s_X7_isPlace (l : Launch) (dC : Nat → ClassId) (dI : Nat → Nat → Nat) (cs : Nat → ClassId) (L : List Nat) (K G : Nat → Nat) (Q : Nat → Nat → Option Nat) (hQ : Sv L K G Q) (x0 m0 : Nat) (tx : GT) (tm : GT × Int) (sz : Nat) (I : Nat → Nat → Int32) (J : Nat → Nat → Int64) (hI : Iv L K x0 m0 tx tm I) (p0 : Nat) (hLp0 : p0 ∈ L) (hKp0 : K p0 = 7) (p1 : Int32) (p2 : Int32) : Met l yX7_isPlace (.code yX7_isPlace cX7_isPlace 3 (some .boolean) :: pw) ({ frames := 1, cells := 0, slots := 0, locals := 25 }) (sP (dC, dI) cs [.ref p0, .int p1, .int p2] sz L K I J Q) (va_Qi (fun (r : Int32) (_ : Unit) => ((0) ≤ r.toInt ∧ r.toInt ≤ 1) ∧ (¬ r.toInt = 0 → ((-999) ≤ p1.toInt ∧ p1.toInt ≤ (999)) ∧ ((-999) ≤ p2.toInt ∧ p2.toInt ≤ (999))) ∧ ((¬ r.toInt = 0 → ((-999 ≤ p1.toInt ∧ p1.toInt ≤ 999) ∧ (-999 ≤ p2.toInt ∧ p2.toInt ≤ 999))) ∧ (r.toInt = 0 → ¬ ((-999 ≤ p1.toInt ∧ p1.toInt ≤ 999) ∧ (-999 ≤ p2.toInt ∧ p2.toInt ≤ 999))))) (fun _ _ => True) (fun _ => False)) 0 0 (fun _ => False) := by
  refine Met.ofW (cc := cX7_isPlace) (maxL := 3) (ret := (some .boolean)) (by decide +kernel) rfl ?_
  intro p e s m args below meth c s₁ B hml hv
  obtain ⟨rfl, hsz, hP, hK, hD0, hN⟩ := hv
  have hx := B.exec
  have hb := B.bytes
  have hr := B.returns
  have hts := fun w (h : w ∈ pw) => atoms_spec (ws := Cond.code yX7_isPlace cX7_isPlace 3 (some .boolean) :: pw) B.pre w (List.mem_cons_of_mem _ h)
  have hown : s.vm.findClass RX7 = some m.cls := findClass_of_methodNamed B.named
  have hlocks := B.notSynchronized
  subst hsz
  have hBB : 999 ≤ tm.2 ∧ tm.2 ≤ 6000000 := hI.2.2.2.2.1
  have hD := hD0
  obtain ⟨H, hHe⟩ : ∃ H : Heap, H = s.heap := ⟨_, rfl⟩
  have hS : va_S (fun _ => False) s.heap H [] := by rw [hHe]; exact va_S.rf
  rw [← hHe] at hP
  have hl := lv_entry ([.ref p0, .int p1, .int p2]) (n := 3) (Nat.le_of_ble_eq_true rfl)
  rw [lg_entry_eq]
  generalize (lg_sl ([.ref p0, .int p1, .int p2]) ++ List.replicate (3 - (lg_sl ([.ref p0, .int p1, .int p2])).length) Slot.unset).toArray = ls at hl ⊢
  have hl : lv_has ls 3 [(0, .ref p0), (1, .int p1), (2, .int p2)] := hl
  rw [← hHe]
  refine namedW (fun R Qz hR hQz => ?_)
  refine lv_iload_n hx hb dX7_isPlace_0 rfl (lv_at hl 1 rfl) ?_
  refine lv_i2l hx hb dX7_isPlace_1 rfl ?_
  refine lv_topl (fun z1 ez1 => ?_)
  have bz1 := tq_i2l (k := p1.toInt) ez1 rfl
  refine lv_ldc2 hx hb hown (hts _ pq1318) dX7_isPlace_2 ?_
  refine lv_ldc2 hx hb hown (hts _ pq1319) dX7_isPlace_5 ?_
  refine ro_i (va_runS (As := [.long z1, .long (-999), .long 999]) (rest := []) ⟨hx, hb, hml, hown, hts⟩ (s_X7_in l dC dI cs L K Q H.size I J z1 (-999) 999) (va_cwS 3 hts (gS pq1234 pq1235 pq81 pq1236) rfl rfl rfl (by decide +kernel) ⟨(by rw [hR]; exact (Nat.le_of_ble_eq_true rfl)), (by rw [hR]; exact (Nat.le_of_ble_eq_true rfl))⟩) (sP_S hP hD hK hN) rfl rfl hl.1 rfl (lv_room (Nat.le_of_ble_eq_true rfl)) dX7_isPlace_8 ⟨(by rw [hR]; exact (Nat.le_of_ble_eq_true rfl)), (by rw [hR]; exact (Nat.le_of_ble_eq_true rfl))⟩) hS hP (fun z8 H locs hz8 hP hS => ?_)
  have csl8_m999 : ((-999) : Int64).toInt = (-999) := by decide +kernel
  have csl8_999 : (999 : Int64).toInt = 999 := by decide +kernel
  obtain ⟨bz8, imz8, xpz8⟩ := hz8
  refine lv_if_eq (tgt := 32) hx hb dX7_isPlace_11 (by decide) (fun c11 => ?_) (fun c11 => ?_)
  · have t11 := tq_eq (k := z8.toInt) (q := (0)) c11 rfl (by decide +kernel)
    refine lv_iconst (v := 0) hx hb dX7_isPlace_32 (by decide +kernel) ?_
    subst hR; subst hQz
    exact W.zret (v := 0) hx hb hr (by decide +kernel) (fun t ht hW => ⟨⟨0, (), rfl, ⟨⟨by decide +kernel, by decide +kernel⟩, fun h => absurd (by decide +kernel) h, ⟨fun h => absurd (by decide +kernel) h, fun _ q => by first | exact xpz8 t11 (by omega) | exact xpz22 t25 (by omega)⟩⟩, trivial⟩, hS.F ht⟩) hS.2.2 dX7_isPlace_33
  · have t11 := tq_ne (k := z8.toInt) (q := (0)) c11 rfl (by decide +kernel)
    have i11 := imz8 t11
    refine lv_iload_n hx hb dX7_isPlace_14 rfl (lv_at hl 2 rfl) ?_
    refine lv_i2l hx hb dX7_isPlace_15 rfl ?_
    refine lv_topl (fun z15 ez15 => ?_)
    have bz15 := tq_i2l (k := p2.toInt) ez15 rfl
    refine lv_ldc2 hx hb hown (hts _ pq1318) dX7_isPlace_16 ?_
    refine lv_ldc2 hx hb hown (hts _ pq1319) dX7_isPlace_19 ?_
    refine ro_i (va_runS (As := [.long z15, .long (-999), .long 999]) (rest := []) ⟨hx, hb, hml, hown, hts⟩ (s_X7_in l dC dI cs L K Q H.size I J z15 (-999) 999) (va_cwS 3 hts (gS pq1234 pq1235 pq81 pq1236) rfl rfl rfl (by decide +kernel) ⟨(by rw [hR]; exact (Nat.le_of_ble_eq_true rfl)), (by rw [hR]; exact (Nat.le_of_ble_eq_true rfl))⟩) (sP_S hP hD hK hN) rfl rfl hl.1 rfl (lv_room (Nat.le_of_ble_eq_true rfl)) dX7_isPlace_22 ⟨(by rw [hR]; exact (Nat.le_of_ble_eq_true rfl)), (by rw [hR]; exact (Nat.le_of_ble_eq_true rfl))⟩) hS hP (fun z22 H locs hz22 hP hS => ?_)
    have csl22_m999 : ((-999) : Int64).toInt = (-999) := by decide +kernel
    have csl22_999 : (999 : Int64).toInt = 999 := by decide +kernel
    obtain ⟨bz22, imz22, xpz22⟩ := hz22
    refine lv_if_eq (tgt := 32) hx hb dX7_isPlace_25 (by decide) (fun c25 => ?_) (fun c25 => ?_)
    · have t25 := tq_eq (k := z22.toInt) (q := (0)) c25 rfl (by decide +kernel)
      refine lv_iconst (v := 0) hx hb dX7_isPlace_32 (by decide +kernel) ?_
      subst hR; subst hQz
      exact W.zret (v := 0) hx hb hr (by decide +kernel) (fun t ht hW => ⟨⟨0, (), rfl, ⟨⟨by decide +kernel, by decide +kernel⟩, fun h => absurd (by decide +kernel) h, ⟨fun h => absurd (by decide +kernel) h, fun _ q => by first | exact xpz8 t11 (by omega) | exact xpz22 t25 (by omega)⟩⟩, trivial⟩, hS.F ht⟩) hS.2.2 dX7_isPlace_33
    · have t25 := tq_ne (k := z22.toInt) (q := (0)) c25 rfl (by decide +kernel)
      have i25 := imz22 t25
      refine lv_iconst (v := 1) hx hb dX7_isPlace_28 (by decide +kernel) ?_
      refine lv_goto (tgt := 33) hx hb dX7_isPlace_29 (by decide) ?_
      subst hR; subst hQz
      exact W.zret (v := 1) hx hb hr (by decide +kernel) (fun t ht hW => ⟨⟨1, (), rfl, ⟨⟨by decide +kernel, by decide +kernel⟩, fun _ => ⟨⟨by omega, by omega⟩, ⟨by omega, by omega⟩⟩, ⟨fun _ => by omega, fun h => absurd h (by decide +kernel)⟩⟩, trivial⟩, hS.F ht⟩) hS.2.2 dX7_isPlace_33

set_option maxHeartbeats 4000000 in
set_option maxRecDepth 100000 in
theorem s_X7_areSteps (l : Launch) (dC : Nat → ClassId) (dI : Nat → Nat → Nat) (cs : Nat → ClassId) (L : List Nat) (K G : Nat → Nat) (Q : Nat → Nat → Option Nat) (hQ : Sv L K G Q) (x0 m0 : Nat) (tx : GT) (tm : GT × Int) (sz : Nat) (I : Nat → Nat → Int32) (J : Nat → Nat → Int64) (hI : Iv L K x0 m0 tx tm I) (p0 : Int32) (p1 : Int32) : Met l yX7_areSteps (.code yX7_areSteps cX7_areSteps 2 (some .boolean) :: pw) ({ frames := 1, cells := 0, slots := 0, locals := 25 }) (sP (dC, dI) cs [.int p0, .int p1] sz L K I J Q) (va_Qi (fun (r : Int32) (_ : Unit) => ((0) ≤ r.toInt ∧ r.toInt ≤ 1) ∧ (¬ r.toInt = 0 → ((-200) ≤ p0.toInt ∧ p0.toInt ≤ (200)) ∧ ((-200) ≤ p1.toInt ∧ p1.toInt ≤ (200))) ∧ (r.toInt = 0 → ¬ ((-200 ≤ p0.toInt ∧ p0.toInt ≤ 200) ∧ (-200 ≤ p1.toInt ∧ p1.toInt ≤ 200)))) (fun _ _ => True) (fun _ => False)) 0 0 (fun _ => False) := by
  refine Met.ofW (cc := cX7_areSteps) (maxL := 2) (ret := (some .boolean)) (by decide +kernel) rfl ?_
  intro p e s m args below meth c s₁ B hml hv
  obtain ⟨rfl, hsz, hP, hK, hD0, hN⟩ := hv
  have hx := B.exec
  have hb := B.bytes
  have hr := B.returns
  have hts := fun w (h : w ∈ pw) => atoms_spec (ws := Cond.code yX7_areSteps cX7_areSteps 2 (some .boolean) :: pw) B.pre w (List.mem_cons_of_mem _ h)
  have hown : s.vm.findClass RX7 = some m.cls := findClass_of_methodNamed B.named
  have hlocks := B.notSynchronized
  subst hsz
  have hBB : 999 ≤ tm.2 ∧ tm.2 ≤ 6000000 := hI.2.2.2.2.1
  have hD := hD0
  obtain ⟨H, hHe⟩ : ∃ H : Heap, H = s.heap := ⟨_, rfl⟩
  have hS : va_S (fun _ => False) s.heap H [] := by rw [hHe]; exact va_S.rf
  rw [← hHe] at hP
  have hl := lv_entry ([.int p0, .int p1]) (n := 2) (Nat.le_of_ble_eq_true rfl)
  rw [lg_entry_eq]
  generalize (lg_sl ([.int p0, .int p1]) ++ List.replicate (2 - (lg_sl ([.int p0, .int p1])).length) Slot.unset).toArray = ls at hl ⊢
  have hl : lv_has ls 2 [(0, .int p0), (1, .int p1)] := hl
  rw [← hHe]
  refine namedW (fun R Qz hR hQz => ?_)
  refine lv_iload_n hx hb dX7_areSteps_0 rfl (lv_at hl 0 rfl) ?_
  refine lv_i2l hx hb dX7_areSteps_1 rfl ?_
  refine lv_topl (fun z1 ez1 => ?_)
  have bz1 := tq_i2l (k := p0.toInt) ez1 rfl
  refine lv_ldc2 hx hb hown (hts _ pq1425) dX7_areSteps_2 ?_
  refine lv_ldc2 hx hb hown (hts _ pq1426) dX7_areSteps_5 ?_
  refine ro_i (va_runS (As := [.long z1, .long (-200), .long 200]) (rest := []) ⟨hx, hb, hml, hown, hts⟩ (s_X7_in l dC dI cs L K Q H.size I J z1 (-200) 200) (va_cwS 3 hts (gS pq1234 pq1235 pq81 pq1236) rfl rfl rfl (by decide +kernel) ⟨(by rw [hR]; exact (Nat.le_of_ble_eq_true rfl)), (by rw [hR]; exact (Nat.le_of_ble_eq_true rfl))⟩) (sP_S hP hD hK hN) rfl rfl hl.1 rfl (lv_room (Nat.le_of_ble_eq_true rfl)) dX7_areSteps_8 ⟨(by rw [hR]; exact (Nat.le_of_ble_eq_true rfl)), (by rw [hR]; exact (Nat.le_of_ble_eq_true rfl))⟩) hS hP (fun z8 H locs hz8 hP hS => ?_)
  have csl8_m200 : ((-200) : Int64).toInt = (-200) := by decide +kernel
  have csl8_200 : (200 : Int64).toInt = 200 := by decide +kernel
  obtain ⟨bz8, imz8, xpz8⟩ := hz8
  refine lv_if_eq (tgt := 32) hx hb dX7_areSteps_11 (by decide) (fun c11 => ?_) (fun c11 => ?_)
  · have t11 := tq_eq (k := z8.toInt) (q := (0)) c11 rfl (by decide +kernel)
    refine lv_iconst (v := 0) hx hb dX7_areSteps_32 (by decide +kernel) ?_
    subst hR; subst hQz
    exact W.zret (v := 0) hx hb hr (by decide +kernel) (fun t ht hW => ⟨⟨0, (), rfl, ⟨⟨by decide +kernel, by decide +kernel⟩, fun h => absurd (by decide +kernel) h, (fun _ q => by first | exact xpz8 t11 (by omega) | exact xpz22 t25 (by omega))⟩, trivial⟩, hS.F ht⟩) hS.2.2 dX7_areSteps_33
  · have t11 := tq_ne (k := z8.toInt) (q := (0)) c11 rfl (by decide +kernel)
    have i11 := imz8 t11
    refine lv_iload_n hx hb dX7_areSteps_14 rfl (lv_at hl 1 rfl) ?_
    refine lv_i2l hx hb dX7_areSteps_15 rfl ?_
    refine lv_topl (fun z15 ez15 => ?_)
    have bz15 := tq_i2l (k := p1.toInt) ez15 rfl
    refine lv_ldc2 hx hb hown (hts _ pq1425) dX7_areSteps_16 ?_
    refine lv_ldc2 hx hb hown (hts _ pq1426) dX7_areSteps_19 ?_
    refine ro_i (va_runS (As := [.long z15, .long (-200), .long 200]) (rest := []) ⟨hx, hb, hml, hown, hts⟩ (s_X7_in l dC dI cs L K Q H.size I J z15 (-200) 200) (va_cwS 3 hts (gS pq1234 pq1235 pq81 pq1236) rfl rfl rfl (by decide +kernel) ⟨(by rw [hR]; exact (Nat.le_of_ble_eq_true rfl)), (by rw [hR]; exact (Nat.le_of_ble_eq_true rfl))⟩) (sP_S hP hD hK hN) rfl rfl hl.1 rfl (lv_room (Nat.le_of_ble_eq_true rfl)) dX7_areSteps_22 ⟨(by rw [hR]; exact (Nat.le_of_ble_eq_true rfl)), (by rw [hR]; exact (Nat.le_of_ble_eq_true rfl))⟩) hS hP (fun z22 H locs hz22 hP hS => ?_)
    have csl22_m200 : ((-200) : Int64).toInt = (-200) := by decide +kernel
    have csl22_200 : (200 : Int64).toInt = 200 := by decide +kernel
    obtain ⟨bz22, imz22, xpz22⟩ := hz22
    refine lv_if_eq (tgt := 32) hx hb dX7_areSteps_25 (by decide) (fun c25 => ?_) (fun c25 => ?_)
    · have t25 := tq_eq (k := z22.toInt) (q := (0)) c25 rfl (by decide +kernel)
      refine lv_iconst (v := 0) hx hb dX7_areSteps_32 (by decide +kernel) ?_
      subst hR; subst hQz
      exact W.zret (v := 0) hx hb hr (by decide +kernel) (fun t ht hW => ⟨⟨0, (), rfl, ⟨⟨by decide +kernel, by decide +kernel⟩, fun h => absurd (by decide +kernel) h, (fun _ q => by first | exact xpz8 t11 (by omega) | exact xpz22 t25 (by omega))⟩, trivial⟩, hS.F ht⟩) hS.2.2 dX7_areSteps_33
    · have t25 := tq_ne (k := z22.toInt) (q := (0)) c25 rfl (by decide +kernel)
      have i25 := imz22 t25
      refine lv_iconst (v := 1) hx hb dX7_areSteps_28 (by decide +kernel) ?_
      refine lv_goto (tgt := 33) hx hb dX7_areSteps_29 (by decide) ?_
      subst hR; subst hQz
      exact W.zret (v := 1) hx hb hr (by decide +kernel) (fun t ht hW => ⟨⟨1, (), rfl, ⟨⟨by decide +kernel, by decide +kernel⟩, fun _ => ⟨⟨by omega, by omega⟩, ⟨by omega, by omega⟩⟩, (fun h => absurd h (by decide +kernel))⟩, trivial⟩, hS.F ht⟩) hS.2.2 dX7_areSteps_33

set_option maxHeartbeats 4000000 in
set_option maxRecDepth 100000 in
theorem s_X7_isSign (l : Launch) (dC : Nat → ClassId) (dI : Nat → Nat → Nat) (cs : Nat → ClassId) (L : List Nat) (K G : Nat → Nat) (Q : Nat → Nat → Option Nat) (hQ : Sv L K G Q) (x0 m0 : Nat) (tx : GT) (tm : GT × Int) (sz : Nat) (I : Nat → Nat → Int32) (J : Nat → Nat → Int64) (hI : Iv L K x0 m0 tx tm I) (p0 : Int32) : Met l yX7_isSign (.code yX7_isSign cX7_isSign 1 (some .boolean) :: pw) ({ frames := 0, cells := 0, slots := 0, locals := 0 }) (sP (dC, dI) cs [.int p0] sz L K I J Q) (va_Qi (fun (r : Int32) (_ : Unit) => ((0) ≤ r.toInt ∧ r.toInt ≤ 1) ∧ (¬ r.toInt = 0 → ((35) ≤ p0.toInt ∧ p0.toInt ≤ (46))) ∧ ((¬ r.toInt = 0 → p0.toInt = 35 ∨ p0.toInt = 46) ∧ (r.toInt = 0 → ¬ (p0.toInt = 35 ∨ p0.toInt = 46)))) (fun _ _ => True) (fun _ => False)) 0 0 (fun _ => False) := by
  refine Met.ofW (cc := cX7_isSign) (maxL := 1) (ret := (some .boolean)) (by decide +kernel) rfl ?_
  intro p e s m args below meth c s₁ B hml hv
  obtain ⟨rfl, hsz, hP, hK, hD0, hN⟩ := hv
  have hx := B.exec
  have hb := B.bytes
  have hr := B.returns
  have hts := fun w (h : w ∈ pw) => atoms_spec (ws := Cond.code yX7_isSign cX7_isSign 1 (some .boolean) :: pw) B.pre w (List.mem_cons_of_mem _ h)
  have hown : s.vm.findClass RX7 = some m.cls := findClass_of_methodNamed B.named
  have hlocks := B.notSynchronized
  subst hsz
  have hBB : 999 ≤ tm.2 ∧ tm.2 ≤ 6000000 := hI.2.2.2.2.1
  have hD := hD0
  obtain ⟨H, hHe⟩ : ∃ H : Heap, H = s.heap := ⟨_, rfl⟩
  have hS : va_S (fun _ => False) s.heap H [] := by rw [hHe]; exact va_S.rf
  rw [← hHe] at hP
  have hl := lv_entry ([.int p0]) (n := 1) (Nat.le_of_ble_eq_true rfl)
  rw [lg_entry_eq]
  generalize (lg_sl ([.int p0]) ++ List.replicate (1 - (lg_sl ([.int p0])).length) Slot.unset).toArray = ls at hl ⊢
  have hl : lv_has ls 1 [(0, .int p0)] := hl
  rw [← hHe]
  refine namedW (fun R Qz hR hQz => ?_)
  refine lv_iload_n hx hb dX7_isSign_0 rfl (lv_at hl 0 rfl) ?_
  refine lv_bipush (v := 35) hx hb dX7_isSign_1 (by decide +kernel) ?_
  refine lv_icmp_eq (tgt := 12) hx hb dX7_isSign_3 (by decide) (fun c3 => ?_) (fun c3 => ?_)
  · have t3 := tq_eq (k := p0.toInt) (q := (35)) c3 rfl (by decide +kernel)
    refine lv_iconst (v := 1) hx hb dX7_isSign_12 (by decide +kernel) ?_
    refine lv_goto (tgt := 17) hx hb dX7_isSign_13 (by decide) ?_
    subst hR; subst hQz
    exact W.zret (v := 1) hx hb hr (by decide +kernel) (fun t ht hW => ⟨⟨1, (), rfl, ⟨⟨by decide +kernel, by decide +kernel⟩, fun _ => ⟨by omega, by omega⟩, ⟨fun _ => by omega, fun h => absurd h (by decide +kernel)⟩⟩, trivial⟩, hS.F ht⟩) hS.2.2 dX7_isSign_17
  · have t3 := tq_ne (k := p0.toInt) (q := (35)) c3 rfl (by decide +kernel)
    refine lv_iload_n hx hb dX7_isSign_6 rfl (lv_at hl 0 rfl) ?_
    refine lv_bipush (v := 46) hx hb dX7_isSign_7 (by decide +kernel) ?_
    refine lv_icmp_ne (tgt := 16) hx hb dX7_isSign_9 (by decide) (fun c9 => ?_) (fun c9 => ?_)
    · have t9 := tq_ne (k := p0.toInt) (q := (46)) c9 rfl (by decide +kernel)
      refine lv_iconst (v := 0) hx hb dX7_isSign_16 (by decide +kernel) ?_
      subst hR; subst hQz
      exact W.zret (v := 0) hx hb hr (by decide +kernel) (fun t ht hW => ⟨⟨0, (), rfl, ⟨⟨by decide +kernel, by decide +kernel⟩, fun h => absurd (by decide +kernel) h, ⟨fun h => absurd (by decide +kernel) h, fun _ h => by omega⟩⟩, trivial⟩, hS.F ht⟩) hS.2.2 dX7_isSign_17
    · have t9 := tq_eq (k := p0.toInt) (q := (46)) c9 rfl (by decide +kernel)
      refine lv_iconst (v := 1) hx hb dX7_isSign_12 (by decide +kernel) ?_
      refine lv_goto (tgt := 17) hx hb dX7_isSign_13 (by decide) ?_
      subst hR; subst hQz
      exact W.zret (v := 1) hx hb hr (by decide +kernel) (fun t ht hW => ⟨⟨1, (), rfl, ⟨⟨by decide +kernel, by decide +kernel⟩, fun _ => ⟨by omega, by omega⟩, ⟨fun _ => by omega, fun h => absurd h (by decide +kernel)⟩⟩, trivial⟩, hS.F ht⟩) hS.2.2 dX7_isSign_17

set_option maxHeartbeats 4000000 in
set_option maxRecDepth 100000 in
theorem s_X7_low (l : Launch) (dC : Nat → ClassId) (dI : Nat → Nat → Nat) (cs : Nat → ClassId) (L : List Nat) (K G : Nat → Nat) (Q : Nat → Nat → Option Nat) (hQ : Sv L K G Q) (x0 m0 : Nat) (tx : GT) (tm : GT × Int) (sz : Nat) (I : Nat → Nat → Int32) (J : Nat → Nat → Int64) (hI : Iv L K x0 m0 tx tm I) (p0 : Int64) (p1 : Int64) (p2 : Int32) : Met l yX7_low (.code yX7_low cX7_low 6 (some .long) :: pw) ({ frames := 0, cells := 0, slots := 0, locals := 0 }) (sP (dC, dI) cs [.long p0, .long p1, .int p2] sz L K I J Q) (va_Ql (fun (r : Int64) (_ : Unit) => (∀ i : Nat, i < 64 → b64 r i = dt p0 p1 ((i : Int) - p2.toInt))) (fun _ _ => True) (fun _ => False)) 0 0 (fun _ => False) := by
  refine Met.ofW (cc := cX7_low) (maxL := 6) (ret := (some .long)) (by decide +kernel) rfl ?_
  intro p e s m args below meth c s₁ B hml hv
  obtain ⟨rfl, hsz, hP, hK, hD0, hN⟩ := hv
  have hx := B.exec
  have hb := B.bytes
  have hr := B.returns
  have hts := fun w (h : w ∈ pw) => atoms_spec (ws := Cond.code yX7_low cX7_low 6 (some .long) :: pw) B.pre w (List.mem_cons_of_mem _ h)
  have hown : s.vm.findClass RX7 = some m.cls := findClass_of_methodNamed B.named
  have hlocks := B.notSynchronized
  subst hsz
  have hBB : 999 ≤ tm.2 ∧ tm.2 ≤ 6000000 := hI.2.2.2.2.1
  have hD := hD0
  obtain ⟨H, hHe⟩ : ∃ H : Heap, H = s.heap := ⟨_, rfl⟩
  have hS : va_S (fun _ => False) s.heap H [] := by rw [hHe]; exact va_S.rf
  rw [← hHe] at hP
  have hl := lv_entry ([.long p0, .long p1, .int p2]) (n := 6) (Nat.le_of_ble_eq_true rfl)
  rw [lg_entry_eq]
  generalize (lg_sl ([.long p0, .long p1, .int p2]) ++ List.replicate (6 - (lg_sl ([.long p0, .long p1, .int p2])).length) Slot.unset).toArray = ls at hl ⊢
  have hl : lv_has ls 6 [(0, .long p0), (2, .long p1), (4, .int p2)] := hl
  rw [← hHe]
  refine namedW (fun R Qz hR hQz => ?_)
  refine lv_iload hx hb dX7_low_0 (lv_at hl 2 rfl) ?_
  refine lv_bipush (v := 64) hx hb dX7_low_2 (by decide +kernel) ?_
  refine lv_icmp_ge (tgt := 14) hx hb dX7_low_4 (by decide) (fun c4 => ?_) (fun c4 => ?_)
  · have t4 := tq_le (k := (64)) (q := p2.toInt) c4 (by decide +kernel) rfl
    refine lv_lconst (v := 0) hx hb dX7_low_14 (by decide +kernel) ?_
    subst hR; subst hQz
    exact W.lret (v := 0) hx hb hr (fun t ht hW => ⟨⟨0, (), rfl, (sl_0 (by omega)), trivial⟩, hS.F ht⟩) hS.2.2 dX7_low_15
  · have t4 := tq_nle (k := (64)) (q := p2.toInt) c4 (by decide +kernel) rfl
    have rg4p2 := fb_rng p2
    refine lv_iload hx hb dX7_low_7 (lv_at hl 2 rfl) ?_
    refine lv_bipush (v := (-128)) hx hb dX7_low_9 (by decide +kernel) ?_
    refine lv_icmp_gt (tgt := 16) hx hb dX7_low_11 (by decide) (fun c11 => ?_) (fun c11 => ?_)
    · have t11 := tq_lt (k := (-128)) (q := p2.toInt) c11 (by decide +kernel) rfl
      have rg11p2 := fb_rng p2
      refine lv_iload hx hb dX7_low_16 (lv_at hl 2 rfl) ?_
      refine lv_if_lt (tgt := 26) hx hb dX7_low_18 (by decide) (fun c18 => ?_) (fun c18 => ?_)
      · have t18 := tq_lt (k := p2.toInt) (q := (0)) c18 rfl (by decide +kernel)
        refine lv_iload hx hb dX7_low_26 (lv_at hl 2 rfl) ?_
        refine lv_ineg hx hb dX7_low_28 ?_
        refine lv_topi (fun z28 ez28 => ?_)
        have bz28 := tq_neg (k := p2.toInt) ez28 rfl (by omega) (by omega)
        refine lv_istore (lv' := [(5, .int z28), (0, .long p0), (2, .long p1), (4, .int p2)]) hx hb dX7_low_29 hl (by decide) rfl (fun ls hl => ?_)
        refine lv_iload hx hb dX7_low_31 (lv_at hl 0 rfl) ?_
        refine lv_bipush (v := 64) hx hb dX7_low_33 (by decide +kernel) ?_
        refine lv_icmp_ne (tgt := 42) hx hb dX7_low_35 (by decide) (fun c35 => ?_) (fun c35 => ?_)
        · have t35 := tq_ne (k := z28.toInt) (q := (64)) c35 rfl (by decide +kernel)
          refine lv_iload hx hb dX7_low_42 (lv_at hl 0 rfl) ?_
          refine lv_bipush (v := 64) hx hb dX7_low_44 (by decide +kernel) ?_
          refine lv_icmp_le (tgt := 59) hx hb dX7_low_46 (by decide) (fun c46 => ?_) (fun c46 => ?_)
          · have t46 := tq_le (k := z28.toInt) (q := (64)) c46 rfl (by decide +kernel)
            refine lv_lload_n hx hb dX7_low_59 rfl (lv_at hl 1 rfl) ?_
            refine lv_iload hx hb dX7_low_60 (lv_at hl 0 rfl) ?_
            refine lv_lushr hx hb dX7_low_62 rfl ?_
            refine lv_topl (fun z62 ez62 => ?_)
            refine lv_lload_n hx hb dX7_low_63 rfl (lv_at hl 2 rfl) ?_
            refine lv_bipush (v := 64) hx hb dX7_low_64 (by decide +kernel) ?_
            refine lv_iload hx hb dX7_low_66 (lv_at hl 0 rfl) ?_
            refine lv_isub hx hb dX7_low_68 ?_
            refine lv_topi (fun z68 ez68 => ?_)
            have bz68 := tq_sub (k := (64)) (q := z28.toInt) ez68 (by decide +kernel) rfl (by omega) (by omega)
            refine lv_lshl hx hb dX7_low_69 rfl ?_
            refine lv_topl (fun z69 ez69 => ?_)
            refine lv_lor hx hb dX7_low_70 ?_
            refine lv_topl (fun z70 ez70 => ?_)
            subst hR; subst hQz
            exact W.lret (v := z70) hx hb hr (fun t ht hW => ⟨⟨z70, (), rfl, (sl_b (by omega) ez62 (by omega) ez69 ez70 (by omega) (by omega)), trivial⟩, hS.F ht⟩) hS.2.2 dX7_low_71
          · have t46 := tq_nle (k := z28.toInt) (q := (64)) c46 rfl (by decide +kernel)
            refine lv_lload_n hx hb dX7_low_49 rfl (lv_at hl 2 rfl) ?_
            refine lv_iload hx hb dX7_low_50 (lv_at hl 0 rfl) ?_
            refine lv_bipush (v := 64) hx hb dX7_low_52 (by decide +kernel) ?_
            refine lv_isub hx hb dX7_low_54 ?_
            refine lv_topi (fun z54 ez54 => ?_)
            have bz54 := tq_sub (k := z28.toInt) (q := (64)) ez54 rfl (by decide +kernel) (by omega) (by omega)
            refine lv_lushr hx hb dX7_low_55 rfl ?_
            refine lv_topl (fun z55 ez55 => ?_)
            refine lv_goto (tgt := 71) hx hb dX7_low_56 (by decide) ?_
            subst hR; subst hQz
            exact W.lret (v := z55) hx hb hr (fun t ht hW => ⟨⟨z55, (), rfl, (sl_c (by omega) ez55 (by omega) (by omega)), trivial⟩, hS.F ht⟩) hS.2.2 dX7_low_71
        · have t35 := tq_eq (k := z28.toInt) (q := (64)) c35 rfl (by decide +kernel)
          refine lv_lload_n hx hb dX7_low_38 rfl (lv_at hl 2 rfl) ?_
          refine lv_goto (tgt := 71) hx hb dX7_low_39 (by decide) ?_
          subst hR; subst hQz
          exact W.lret (v := p1) hx hb hr (fun t ht hW => ⟨⟨p1, (), rfl, (lo_64 (by omega)), trivial⟩, hS.F ht⟩) hS.2.2 dX7_low_71
      · have t18 := tq_nlt (k := p2.toInt) (q := (0)) c18 rfl (by decide +kernel)
        refine lv_lload_n hx hb dX7_low_21 rfl (lv_at hl 0 rfl) ?_
        refine lv_iload hx hb dX7_low_22 (lv_at hl 2 rfl) ?_
        refine lv_lshl hx hb dX7_low_24 rfl ?_
        refine lv_topl (fun z24 ez24 => ?_)
        subst hR; subst hQz
        exact W.lret (v := z24) hx hb hr (fun t ht hW => ⟨⟨z24, (), rfl, (sl_a ez24 (by omega) (by omega)), trivial⟩, hS.F ht⟩) hS.2.2 dX7_low_25
    · have t11 := tq_nlt (k := (-128)) (q := p2.toInt) c11 (by decide +kernel) rfl
      refine lv_lconst (v := 0) hx hb dX7_low_14 (by decide +kernel) ?_
      subst hR; subst hQz
      exact W.lret (v := 0) hx hb hr (fun t ht hW => ⟨⟨0, (), rfl, (sl_0 (by omega)), trivial⟩, hS.F ht⟩) hS.2.2 dX7_low_15

set_option maxHeartbeats 4000000 in
set_option maxRecDepth 100000 in
theorem s_X7_top (l : Launch) (dC : Nat → ClassId) (dI : Nat → Nat → Nat) (cs : Nat → ClassId) (L : List Nat) (K G : Nat → Nat) (Q : Nat → Nat → Option Nat) (hQ : Sv L K G Q) (x0 m0 : Nat) (tx : GT) (tm : GT × Int) (sz : Nat) (I : Nat → Nat → Int32) (J : Nat → Nat → Int64) (hI : Iv L K x0 m0 tx tm I) (p0 : Int64) (p1 : Int64) (p2 : Int32) : Met l yX7_top (.code yX7_top cX7_top 5 (some .long) :: pw) ({ frames := 0, cells := 0, slots := 0, locals := 0 }) (sP (dC, dI) cs [.long p0, .long p1, .int p2] sz L K I J Q) (va_Ql (fun (r : Int64) (_ : Unit) => (∀ i : Nat, i < 64 → b64 r i = dt p0 p1 ((i : Int) + 64 - p2.toInt))) (fun _ _ => True) (fun _ => False)) 0 0 (fun _ => False) := by
  refine Met.ofW (cc := cX7_top) (maxL := 5) (ret := (some .long)) (by decide +kernel) rfl ?_
  intro p e s m args below meth c s₁ B hml hv
  obtain ⟨rfl, hsz, hP, hK, hD0, hN⟩ := hv
  have hx := B.exec
  have hb := B.bytes
  have hr := B.returns
  have hts := fun w (h : w ∈ pw) => atoms_spec (ws := Cond.code yX7_top cX7_top 5 (some .long) :: pw) B.pre w (List.mem_cons_of_mem _ h)
  have hown : s.vm.findClass RX7 = some m.cls := findClass_of_methodNamed B.named
  have hlocks := B.notSynchronized
  subst hsz
  have hBB : 999 ≤ tm.2 ∧ tm.2 ≤ 6000000 := hI.2.2.2.2.1
  have hD := hD0
  obtain ⟨H, hHe⟩ : ∃ H : Heap, H = s.heap := ⟨_, rfl⟩
  have hS : va_S (fun _ => False) s.heap H [] := by rw [hHe]; exact va_S.rf
  rw [← hHe] at hP
  have hl := lv_entry ([.long p0, .long p1, .int p2]) (n := 5) (Nat.le_of_ble_eq_true rfl)
  rw [lg_entry_eq]
  generalize (lg_sl ([.long p0, .long p1, .int p2]) ++ List.replicate (5 - (lg_sl ([.long p0, .long p1, .int p2])).length) Slot.unset).toArray = ls at hl ⊢
  have hl : lv_has ls 5 [(0, .long p0), (2, .long p1), (4, .int p2)] := hl
  rw [← hHe]
  refine namedW (fun R Qz hR hQz => ?_)
  refine lv_iload hx hb dX7_top_0 (lv_at hl 2 rfl) ?_
  refine lv_sipush (v := 128) hx hb dX7_top_2 (by decide +kernel) ?_
  refine lv_icmp_ge (tgt := 15) hx hb dX7_top_5 (by decide) (fun c5 => ?_) (fun c5 => ?_)
  · have t5 := tq_le (k := (128)) (q := p2.toInt) c5 (by decide +kernel) rfl
    refine lv_lconst (v := 0) hx hb dX7_top_15 (by decide +kernel) ?_
    subst hR; subst hQz
    exact W.lret (v := 0) hx hb hr (fun t ht hW => ⟨⟨0, (), rfl, (sh_0 (by omega)), trivial⟩, hS.F ht⟩) hS.2.2 dX7_top_16
  · have t5 := tq_nle (k := (128)) (q := p2.toInt) c5 (by decide +kernel) rfl
    have rg5p2 := fb_rng p2
    refine lv_iload hx hb dX7_top_8 (lv_at hl 2 rfl) ?_
    refine lv_bipush (v := (-64)) hx hb dX7_top_10 (by decide +kernel) ?_
    refine lv_icmp_gt (tgt := 17) hx hb dX7_top_12 (by decide) (fun c12 => ?_) (fun c12 => ?_)
    · have t12 := tq_lt (k := (-64)) (q := p2.toInt) c12 (by decide +kernel) rfl
      have rg12p2 := fb_rng p2
      refine lv_iload hx hb dX7_top_17 (lv_at hl 2 rfl) ?_
      refine lv_if_gt (tgt := 37) hx hb dX7_top_19 (by decide) (fun c19 => ?_) (fun c19 => ?_)
      · have t19 := tq_lt (k := (0)) (q := p2.toInt) c19 (by decide +kernel) rfl
        refine lv_iload hx hb dX7_top_37 (lv_at hl 2 rfl) ?_
        refine lv_bipush (v := 64) hx hb dX7_top_39 (by decide +kernel) ?_
        refine lv_icmp_ne (tgt := 48) hx hb dX7_top_41 (by decide) (fun c41 => ?_) (fun c41 => ?_)
        · have t41 := tq_ne (k := p2.toInt) (q := (64)) c41 rfl (by decide +kernel)
          refine lv_iload hx hb dX7_top_48 (lv_at hl 2 rfl) ?_
          refine lv_bipush (v := 64) hx hb dX7_top_50 (by decide +kernel) ?_
          refine lv_icmp_le (tgt := 65) hx hb dX7_top_52 (by decide) (fun c52 => ?_) (fun c52 => ?_)
          · have t52 := tq_le (k := p2.toInt) (q := (64)) c52 rfl (by decide +kernel)
            refine lv_lload_n hx hb dX7_top_65 rfl (lv_at hl 1 rfl) ?_
            refine lv_iload hx hb dX7_top_66 (lv_at hl 2 rfl) ?_
            refine lv_lshl hx hb dX7_top_68 rfl ?_
            refine lv_topl (fun z68 ez68 => ?_)
            refine lv_lload_n hx hb dX7_top_69 rfl (lv_at hl 0 rfl) ?_
            refine lv_bipush (v := 64) hx hb dX7_top_70 (by decide +kernel) ?_
            refine lv_iload hx hb dX7_top_72 (lv_at hl 2 rfl) ?_
            refine lv_isub hx hb dX7_top_74 ?_
            refine lv_topi (fun z74 ez74 => ?_)
            have bz74 := tq_sub (k := (64)) (q := p2.toInt) ez74 (by decide +kernel) rfl (by omega) (by omega)
            refine lv_lushr hx hb dX7_top_75 rfl ?_
            refine lv_topl (fun z75 ez75 => ?_)
            refine lv_lor hx hb dX7_top_76 ?_
            refine lv_topl (fun z76 ez76 => ?_)
            subst hR; subst hQz
            exact W.lret (v := z76) hx hb hr (fun t ht hW => ⟨⟨z76, (), rfl, (tp_a ez68 (by omega) ez75 ez76 (by omega) (by omega)), trivial⟩, hS.F ht⟩) hS.2.2 dX7_top_77
          · have t52 := tq_nle (k := p2.toInt) (q := (64)) c52 rfl (by decide +kernel)
            refine lv_lload_n hx hb dX7_top_55 rfl (lv_at hl 0 rfl) ?_
            refine lv_iload hx hb dX7_top_56 (lv_at hl 2 rfl) ?_
            refine lv_bipush (v := 64) hx hb dX7_top_58 (by decide +kernel) ?_
            refine lv_isub hx hb dX7_top_60 ?_
            refine lv_topi (fun z60 ez60 => ?_)
            have bz60 := tq_sub (k := p2.toInt) (q := (64)) ez60 rfl (by decide +kernel) (by omega) (by omega)
            refine lv_lshl hx hb dX7_top_61 rfl ?_
            refine lv_topl (fun z61 ez61 => ?_)
            refine lv_goto (tgt := 77) hx hb dX7_top_62 (by decide) ?_
            subst hR; subst hQz
            exact W.lret (v := z61) hx hb hr (fun t ht hW => ⟨⟨z61, (), rfl, (mh_b (by omega) ez61 (by omega) (by omega)), trivial⟩, hS.F ht⟩) hS.2.2 dX7_top_77
        · have t41 := tq_eq (k := p2.toInt) (q := (64)) c41 rfl (by decide +kernel)
          refine lv_lload_n hx hb dX7_top_44 rfl (lv_at hl 0 rfl) ?_
          refine lv_goto (tgt := 77) hx hb dX7_top_45 (by decide) ?_
          subst hR; subst hQz
          exact W.lret (v := p0) hx hb hr (fun t ht hW => ⟨⟨p0, (), rfl, (tp_64 (by omega)), trivial⟩, hS.F ht⟩) hS.2.2 dX7_top_77
      · have t19 := tq_nlt (k := (0)) (q := p2.toInt) c19 (by decide +kernel) rfl
        refine lv_iload hx hb dX7_top_22 (lv_at hl 2 rfl) ?_
        refine lv_if_ne (tgt := 31) hx hb dX7_top_24 (by decide) (fun c24 => ?_) (fun c24 => ?_)
        · have t24 := tq_ne (k := p2.toInt) (q := (0)) c24 rfl (by decide +kernel)
          refine lv_lload_n hx hb dX7_top_31 rfl (lv_at hl 1 rfl) ?_
          refine lv_iload hx hb dX7_top_32 (lv_at hl 2 rfl) ?_
          refine lv_ineg hx hb dX7_top_34 ?_
          refine lv_topi (fun z34 ez34 => ?_)
          have bz34 := tq_neg (k := p2.toInt) ez34 rfl (by omega) (by omega)
          refine lv_lushr hx hb dX7_top_35 rfl ?_
          refine lv_topl (fun z35 ez35 => ?_)
          subst hR; subst hQz
          exact W.lret (v := z35) hx hb hr (fun t ht hW => ⟨⟨z35, (), rfl, (sh_c (by omega) ez35 (by omega) (by omega)), trivial⟩, hS.F ht⟩) hS.2.2 dX7_top_36
        · have t24 := tq_eq (k := p2.toInt) (q := (0)) c24 rfl (by decide +kernel)
          refine lv_lload_n hx hb dX7_top_27 rfl (lv_at hl 1 rfl) ?_
          refine lv_goto (tgt := 36) hx hb dX7_top_28 (by decide) ?_
          subst hR; subst hQz
          exact W.lret (v := p1) hx hb hr (fun t ht hW => ⟨⟨p1, (), rfl, (tp_0 (by omega)), trivial⟩, hS.F ht⟩) hS.2.2 dX7_top_36
    · have t12 := tq_nlt (k := (-64)) (q := p2.toInt) c12 (by decide +kernel) rfl
      refine lv_lconst (v := 0) hx hb dX7_top_15 (by decide +kernel) ?_
      subst hR; subst hQz
      exact W.lret (v := 0) hx hb hr (fun t ht hW => ⟨⟨0, (), rfl, (sh_0 (by omega)), trivial⟩, hS.F ht⟩) hS.2.2 dX7_top_16

set_option maxHeartbeats 4000000 in
set_option maxRecDepth 100000 in
theorem s_X7_mayTouch (l : Launch) (dC : Nat → ClassId) (dI : Nat → Nat → Nat) (cs : Nat → ClassId) (L : List Nat) (K G : Nat → Nat) (Q : Nat → Nat → Option Nat) (hQ : Sv L K G Q) (x0 m0 : Nat) (tx : GT) (tm : GT × Int) (sz : Nat) (I : Nat → Nat → Int32) (J : Nat → Nat → Int64) (hI : Iv L K x0 m0 tx tm I) (p0 : Nat) (hLp0 : p0 ∈ L) (hKp0 : K p0 = 7) (p1 : Int32) (bp1 : (0) ≤ p1.toInt ∧ p1.toInt ≤ 9) (p2 : Int32) (bp2 : (0) ≤ p2.toInt ∧ p2.toInt ≤ 9) : Met l yX7_mayTouch (.code yX7_mayTouch cX7_mayTouch 3 (some .boolean) :: pw) ({ frames := 1, cells := 0, slots := 0, locals := 22 }) (sP (dC, dI) cs [.ref p0, .int p1, .int p2] sz L K I J Q) (va_Qi (fun (r : Int32) (_ : Unit) => ((0) ≤ r.toInt ∧ r.toInt ≤ 1) ∧ (∀ c : Fx, rI Q I p0 c → (¬ r.toInt = 0 ↔ mayT c p1.toInt.toNat p2.toInt.toNat))) (fun _ _ => True) (fun _ => False)) 0 0 (fun _ => False) := by
  refine Met.ofW (cc := cX7_mayTouch) (maxL := 3) (ret := (some .boolean)) (by decide +kernel) rfl ?_
  intro p e s m args below meth c s₁ B hml hv
  obtain ⟨rfl, hsz, hP, hK, hD0, hN⟩ := hv
  have hx := B.exec
  have hb := B.bytes
  have hr := B.returns
  have hts := fun w (h : w ∈ pw) => atoms_spec (ws := Cond.code yX7_mayTouch cX7_mayTouch 3 (some .boolean) :: pw) B.pre w (List.mem_cons_of_mem _ h)
  have hown : s.vm.findClass RX7 = some m.cls := findClass_of_methodNamed B.named
  have hlocks := B.notSynchronized
  subst hsz
  have hBB : 999 ≤ tm.2 ∧ tm.2 ≤ 6000000 := hI.2.2.2.2.1
  have hD := hD0
  obtain ⟨H, hHe⟩ : ∃ H : Heap, H = s.heap := ⟨_, rfl⟩
  have hS : va_S (fun _ => False) s.heap H [] := by rw [hHe]; exact va_S.rf
  rw [← hHe] at hP
  have hl := lv_entry ([.ref p0, .int p1, .int p2]) (n := 3) (Nat.le_of_ble_eq_true rfl)
  rw [lg_entry_eq]
  generalize (lg_sl ([.ref p0, .int p1, .int p2]) ++ List.replicate (3 - (lg_sl ([.ref p0, .int p1, .int p2])).length) Slot.unset).toArray = ls at hl ⊢
  have hl : lv_has ls 3 [(0, .ref p0), (1, .int p1), (2, .int p2)] := hl
  rw [← hHe]
  refine namedW (fun R Qz hR hQz => ?_)
  refine lv_aload_n hx hb dX7_mayTouch_0 rfl (lv_at hl 0 rfl) ?_
  refine lv_iload_n hx hb dX7_mayTouch_1 rfl (lv_at hl 1 rfl) ?_
  refine lv_iconst (v := 4) hx hb dX7_mayTouch_2 (by decide +kernel) ?_
  refine ro_i (va_runV (As := [.int p1, .int 4]) (rest := []) ⟨hx, hb, hml, hown, hts⟩ (s_X7_of l dC dI cs L K G Q hQ x0 m0 tx tm H.size I J hI p0 hLp0 hKp0 p1 ⟨by omega, by omega⟩ 4 ⟨by decide +kernel, by decide +kernel⟩) (cwV 2 hts (gV pq1320 pq1322 pq25 pq81 pq1323) rfl rfl rfl (by decide +kernel) ⟨(by rw [hR]; exact (Nat.le_of_ble_eq_true rfl)), (by rw [hR]; exact (Nat.le_of_ble_eq_true rfl))⟩) (sP_V hP hD hK hN hLp0 hKp0 rfl rfl) rfl rfl hl.1 rfl (lv_room (Nat.le_of_ble_eq_true rfl)) dX7_mayTouch_3 ⟨(by rw [hR]; exact (Nat.le_of_ble_eq_true rfl)), (by rw [hR]; exact (Nat.le_of_ble_eq_true rfl))⟩) hS hP (fun z3 H locs hz3 hP hS => ?_)
  have cst3_4 : (4 : Int32).toInt = 4 := by decide +kernel
  obtain ⟨fez3, xpz3⟩ := hz3
  refine lv_aload_n hx hb dX7_mayTouch_6 rfl (lv_at hl 0 rfl) ?_
  refine lv_iload_n hx hb dX7_mayTouch_7 rfl (lv_at hl 2 rfl) ?_
  refine lv_iconst (v := 5) hx hb dX7_mayTouch_8 (by decide +kernel) ?_
  refine ro_i (va_runV (As := [.int p2, .int 5]) (rest := [.int z3]) ⟨hx, hb, hml, hown, hts⟩ (s_X7_of l dC dI cs L K G Q hQ x0 m0 tx tm H.size I J hI p0 hLp0 hKp0 p2 ⟨by omega, by omega⟩ 5 ⟨by decide +kernel, by decide +kernel⟩) (cwV 2 hts (gV pq1320 pq1322 pq25 pq81 pq1323) rfl rfl rfl (by decide +kernel) ⟨(by rw [hR]; exact (Nat.le_of_ble_eq_true rfl)), (by rw [hR]; exact (Nat.le_of_ble_eq_true rfl))⟩) (sP_V hP hD hK hN hLp0 hKp0 rfl rfl) rfl rfl hl.1 rfl (lv_room (Nat.le_of_ble_eq_true rfl)) dX7_mayTouch_9 ⟨(by rw [hR]; exact (Nat.le_of_ble_eq_true rfl)), (by rw [hR]; exact (Nat.le_of_ble_eq_true rfl))⟩) hS hP (fun z9 H locs hz9 hP hS => ?_)
  have cst9_5 : (5 : Int32).toInt = 5 := by decide +kernel
  obtain ⟨fez9, xpz9⟩ := hz9
  refine lv_iand hx hb dX7_mayTouch_12 ?_
  refine lv_topi (fun z12 ez12 => ?_)
  refine lv_if_ne (tgt := 32) hx hb dX7_mayTouch_13 (by decide) (fun c13 => ?_) (fun c13 => ?_)
  · have t13 := tq_ne (k := z12.toInt) (q := (0)) c13 rfl (by decide +kernel)
    refine lv_iconst (v := 1) hx hb dX7_mayTouch_32 (by decide +kernel) ?_
    refine lv_goto (tgt := 37) hx hb dX7_mayTouch_33 (by decide) ?_
    subst hR; subst hQz
    exact W.zret (v := 1) hx hb hr (by decide +kernel) (fun t ht hW => ⟨⟨1, (), rfl, ⟨⟨by decide +kernel, by decide +kernel⟩, (fun c h => by have oz3 : z3 = c.1 (19 + 8 * p1.toInt.toNat + 4) := (show z3 = I (a0 Q p0 0) (19 + 8 * p1.toInt.toNat + 4) from fez3).trans (h _ (by omega)); have oz9 : z9 = c.1 (19 + 8 * p2.toInt.toNat + 5) := (show z9 = I (a0 Q p0 0) (19 + 8 * p2.toInt.toNat + 5) from fez9).trans (h _ (by omega)); first | exact ⟨fun _ => Or.inl (fun q => t13 (by rw [ez12, oz3, oz9, q]; decide +kernel)), fun _ => by decide +kernel⟩ | (have oz19 : z19 = c.1 (19 + 8 * p2.toInt.toNat + 4) := (show z19 = I (a0 Q p0 0) (19 + 8 * p2.toInt.toNat + 4) from fez19).trans (h _ (by omega)); have oz25 : z25 = c.1 (19 + 8 * p1.toInt.toNat + 5) := (show z25 = I (a0 Q p0 0) (19 + 8 * p1.toInt.toNat + 5) from fez25).trans (h _ (by omega)); exact ⟨fun _ => Or.inr (fun q => t29 (by rw [ez28, oz19, oz25, q]; decide +kernel)), fun _ => by decide +kernel⟩))⟩, trivial⟩, hS.F ht⟩) hS.2.2 dX7_mayTouch_37
  · have t13 := tq_eq (k := z12.toInt) (q := (0)) c13 rfl (by decide +kernel)
    refine lv_aload_n hx hb dX7_mayTouch_16 rfl (lv_at hl 0 rfl) ?_
    refine lv_iload_n hx hb dX7_mayTouch_17 rfl (lv_at hl 2 rfl) ?_
    refine lv_iconst (v := 4) hx hb dX7_mayTouch_18 (by decide +kernel) ?_
    refine ro_i (va_runV (As := [.int p2, .int 4]) (rest := []) ⟨hx, hb, hml, hown, hts⟩ (s_X7_of l dC dI cs L K G Q hQ x0 m0 tx tm H.size I J hI p0 hLp0 hKp0 p2 ⟨by omega, by omega⟩ 4 ⟨by decide +kernel, by decide +kernel⟩) (cwV 2 hts (gV pq1320 pq1322 pq25 pq81 pq1323) rfl rfl rfl (by decide +kernel) ⟨(by rw [hR]; exact (Nat.le_of_ble_eq_true rfl)), (by rw [hR]; exact (Nat.le_of_ble_eq_true rfl))⟩) (sP_V hP hD hK hN hLp0 hKp0 rfl rfl) rfl rfl hl.1 rfl (lv_room (Nat.le_of_ble_eq_true rfl)) dX7_mayTouch_19 ⟨(by rw [hR]; exact (Nat.le_of_ble_eq_true rfl)), (by rw [hR]; exact (Nat.le_of_ble_eq_true rfl))⟩) hS hP (fun z19 H locs hz19 hP hS => ?_)
    have cst19_4 : (4 : Int32).toInt = 4 := by decide +kernel
    obtain ⟨fez19, xpz19⟩ := hz19
    refine lv_aload_n hx hb dX7_mayTouch_22 rfl (lv_at hl 0 rfl) ?_
    refine lv_iload_n hx hb dX7_mayTouch_23 rfl (lv_at hl 1 rfl) ?_
    refine lv_iconst (v := 5) hx hb dX7_mayTouch_24 (by decide +kernel) ?_
    refine ro_i (va_runV (As := [.int p1, .int 5]) (rest := [.int z19]) ⟨hx, hb, hml, hown, hts⟩ (s_X7_of l dC dI cs L K G Q hQ x0 m0 tx tm H.size I J hI p0 hLp0 hKp0 p1 ⟨by omega, by omega⟩ 5 ⟨by decide +kernel, by decide +kernel⟩) (cwV 2 hts (gV pq1320 pq1322 pq25 pq81 pq1323) rfl rfl rfl (by decide +kernel) ⟨(by rw [hR]; exact (Nat.le_of_ble_eq_true rfl)), (by rw [hR]; exact (Nat.le_of_ble_eq_true rfl))⟩) (sP_V hP hD hK hN hLp0 hKp0 rfl rfl) rfl rfl hl.1 rfl (lv_room (Nat.le_of_ble_eq_true rfl)) dX7_mayTouch_25 ⟨(by rw [hR]; exact (Nat.le_of_ble_eq_true rfl)), (by rw [hR]; exact (Nat.le_of_ble_eq_true rfl))⟩) hS hP (fun z25 H locs hz25 hP hS => ?_)
    have cst25_5 : (5 : Int32).toInt = 5 := by decide +kernel
    obtain ⟨fez25, xpz25⟩ := hz25
    refine lv_iand hx hb dX7_mayTouch_28 ?_
    refine lv_topi (fun z28 ez28 => ?_)
    refine lv_if_eq (tgt := 36) hx hb dX7_mayTouch_29 (by decide) (fun c29 => ?_) (fun c29 => ?_)
    · have t29 := tq_eq (k := z28.toInt) (q := (0)) c29 rfl (by decide +kernel)
      refine lv_iconst (v := 0) hx hb dX7_mayTouch_36 (by decide +kernel) ?_
      subst hR; subst hQz
      exact W.zret (v := 0) hx hb hr (by decide +kernel) (fun t ht hW => ⟨⟨0, (), rfl, ⟨⟨by decide +kernel, by decide +kernel⟩, (fun c h => by have oz3 : z3 = c.1 (19 + 8 * p1.toInt.toNat + 4) := (show z3 = I (a0 Q p0 0) (19 + 8 * p1.toInt.toNat + 4) from fez3).trans (h _ (by omega)); have oz9 : z9 = c.1 (19 + 8 * p2.toInt.toNat + 5) := (show z9 = I (a0 Q p0 0) (19 + 8 * p2.toInt.toNat + 5) from fez9).trans (h _ (by omega)); have oz19 : z19 = c.1 (19 + 8 * p2.toInt.toNat + 4) := (show z19 = I (a0 Q p0 0) (19 + 8 * p2.toInt.toNat + 4) from fez19).trans (h _ (by omega)); have oz25 : z25 = c.1 (19 + 8 * p1.toInt.toNat + 5) := (show z25 = I (a0 Q p0 0) (19 + 8 * p1.toInt.toNat + 5) from fez25).trans (h _ (by omega)); refine ⟨fun q => absurd (by decide +kernel) q, fun q => ?_⟩; exfalso; rcases q with q | q; (exact q (by rw [← oz3, ← oz9, ← ez12]; exact Int32.toInt_inj.mp (t13.trans (by decide +kernel)))); (exact q (by rw [← oz19, ← oz25, ← ez28]; exact Int32.toInt_inj.mp (t29.trans (by decide +kernel)))))⟩, trivial⟩, hS.F ht⟩) hS.2.2 dX7_mayTouch_37
    · have t29 := tq_ne (k := z28.toInt) (q := (0)) c29 rfl (by decide +kernel)
      refine lv_iconst (v := 1) hx hb dX7_mayTouch_32 (by decide +kernel) ?_
      refine lv_goto (tgt := 37) hx hb dX7_mayTouch_33 (by decide) ?_
      subst hR; subst hQz
      exact W.zret (v := 1) hx hb hr (by decide +kernel) (fun t ht hW => ⟨⟨1, (), rfl, ⟨⟨by decide +kernel, by decide +kernel⟩, (fun c h => by have oz3 : z3 = c.1 (19 + 8 * p1.toInt.toNat + 4) := (show z3 = I (a0 Q p0 0) (19 + 8 * p1.toInt.toNat + 4) from fez3).trans (h _ (by omega)); have oz9 : z9 = c.1 (19 + 8 * p2.toInt.toNat + 5) := (show z9 = I (a0 Q p0 0) (19 + 8 * p2.toInt.toNat + 5) from fez9).trans (h _ (by omega)); first | exact ⟨fun _ => Or.inl (fun q => t13 (by rw [ez12, oz3, oz9, q]; decide +kernel)), fun _ => by decide +kernel⟩ | (have oz19 : z19 = c.1 (19 + 8 * p2.toInt.toNat + 4) := (show z19 = I (a0 Q p0 0) (19 + 8 * p2.toInt.toNat + 4) from fez19).trans (h _ (by omega)); have oz25 : z25 = c.1 (19 + 8 * p1.toInt.toNat + 5) := (show z25 = I (a0 Q p0 0) (19 + 8 * p1.toInt.toNat + 5) from fez25).trans (h _ (by omega)); exact ⟨fun _ => Or.inr (fun q => t29 (by rw [ez28, oz19, oz25, q]; decide +kernel)), fun _ => by decide +kernel⟩))⟩, trivial⟩, hS.F ht⟩) hS.2.2 dX7_mayTouch_37
