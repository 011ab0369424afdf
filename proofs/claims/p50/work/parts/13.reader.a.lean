def yX4_skipBlanks : MethodName := ⟨RX4, "skipBlanks", "()V"⟩
abbrev cX4_skipBlanks : ByteArray := prog_6_method_20_code
def yX4_failAt : MethodName := ⟨RX4, "failAt", "(II)Z"⟩
abbrev cX4_failAt : ByteArray := prog_6_method_21_code
def yX4_readNumber : MethodName := ⟨RX4, "readNumber", "(II)Z"⟩
abbrev cX4_readNumber : ByteArray := prog_6_method_16_code
def yX4_takeSign : MethodName := ⟨RX4, "takeSign", "(C)Z"⟩
abbrev cX4_takeSign : ByteArray := prog_6_method_18_code
abbrev cX4_fillBox : ByteArray := prog_6_method_5_code
abbrev cX4_fillDisk : ByteArray := prog_6_method_7_code
abbrev cX4_fillFrame : ByteArray := prog_6_method_6_code
abbrev cX4_isAtEnd : ByteArray := prog_6_method_19_code
abbrev cX4_readSigned : ByteArray := prog_6_method_15_code
abbrev cX4_readSize : ByteArray := prog_6_method_4_code
abbrev cX4_signsAhead : ByteArray := prog_6_method_9_code
abbrev cX4_takeRow : ByteArray := prog_6_method_10_code
def yX4_fillBox : MethodName := ⟨RX4, "fillBox", "(LMaskTouch$Mask;)Z"⟩
def yX4_fillDisk : MethodName := ⟨RX4, "fillDisk", "(LMaskTouch$Mask;I)Z"⟩
def yX4_fillFrame : MethodName := ⟨RX4, "fillFrame", "(LMaskTouch$Mask;)Z"⟩
def yX4_isAtEnd : MethodName := ⟨RX4, "isAtEnd", "()Z"⟩
def yX4_readSigned : MethodName := ⟨RX4, "readSigned", "(I)Z"⟩
def yX4_readSize : MethodName := ⟨RX4, "readSize", "(LMaskTouch$Mask;)Z"⟩
def yX4_signsAhead : MethodName := ⟨RX4, "signsAhead", "()I"⟩
def yX4_takeRow : MethodName := ⟨RX4, "takeRow", "(LMaskTouch$Mask;II)V"⟩
theorem dX4_failAt_0 : decode cX4_failAt 0 = .ok (.aload_n 0, 1) := by decide +kernel
theorem dX4_failAt_1 : decode cX4_failAt 1 = .ok (.bipush 8, 2) := by decide +kernel
theorem dX4_failAt_3 : decode cX4_failAt 3 = .ok (.iload_n 1, 1) := by decide +kernel
theorem dX4_failAt_4 : decode cX4_failAt 4 = .ok (.imul, 1) := by decide +kernel
theorem dX4_failAt_5 : decode cX4_failAt 5 = .ok (.iload_n 2, 1) := by decide +kernel
theorem dX4_failAt_6 : decode cX4_failAt 6 = .ok (.iadd, 1) := by decide +kernel
theorem dX4_failAt_7 : decode cX4_failAt 7 = .ok (.putfield 24, 3) := by decide +kernel
theorem dX4_failAt_10 : decode cX4_failAt 10 = .ok (.iconst 0, 1) := by decide +kernel
theorem dX4_failAt_11 : decode cX4_failAt 11 = .ok (.ireturn, 1) := by decide +kernel
theorem dX4_fillBox_0 : decode cX4_fillBox 0 = .ok (.iconst 0, 1) := by decide +kernel
theorem dX4_fillBox_1 : decode cX4_fillBox 1 = .ok (.istore_n 1, 1) := by decide +kernel
theorem dX4_fillBox_2 : decode cX4_fillBox 2 = .ok (.iload_n 1, 1) := by decide +kernel
theorem dX4_fillBox_3 : decode cX4_fillBox 3 = .ok (.aload_n 0, 1) := by decide +kernel
theorem dX4_fillBox_4 : decode cX4_fillBox 4 = .ok (.getfield 114, 3) := by decide +kernel
theorem dX4_fillBox_7 : decode cX4_fillBox 7 = .ok (.if_icmp .ge 41, 3) := by decide +kernel
theorem dX4_fillBox_10 : decode cX4_fillBox 10 = .ok (.aload_n 0, 1) := by decide +kernel
theorem dX4_fillBox_11 : decode cX4_fillBox 11 = .ok (.getfield 117, 3) := by decide +kernel
theorem dX4_fillBox_14 : decode cX4_fillBox 14 = .ok (.iconst 2, 1) := by decide +kernel
theorem dX4_fillBox_15 : decode cX4_fillBox 15 = .ok (.iload_n 1, 1) := by decide +kernel
theorem dX4_fillBox_16 : decode cX4_fillBox 16 = .ok (.imul, 1) := by decide +kernel
theorem dX4_fillBox_17 : decode cX4_fillBox 17 = .ok (.aload_n 0, 1) := by decide +kernel
theorem dX4_fillBox_18 : decode cX4_fillBox 18 = .ok (.getfield 121, 3) := by decide +kernel
theorem dX4_fillBox_21 : decode cX4_fillBox 21 = .ok (.invokestatic 124, 3) := by decide +kernel
theorem dX4_fillBox_24 : decode cX4_fillBox 24 = .ok (.lastore, 1) := by decide +kernel
theorem dX4_fillBox_25 : decode cX4_fillBox 25 = .ok (.aload_n 0, 1) := by decide +kernel
theorem dX4_fillBox_26 : decode cX4_fillBox 26 = .ok (.getfield 117, 3) := by decide +kernel
theorem dX4_fillBox_29 : decode cX4_fillBox 29 = .ok (.iconst 2, 1) := by decide +kernel
theorem dX4_fillBox_30 : decode cX4_fillBox 30 = .ok (.iload_n 1, 1) := by decide +kernel
theorem dX4_fillBox_31 : decode cX4_fillBox 31 = .ok (.imul, 1) := by decide +kernel
theorem dX4_fillBox_32 : decode cX4_fillBox 32 = .ok (.iconst 1, 1) := by decide +kernel
theorem dX4_fillBox_33 : decode cX4_fillBox 33 = .ok (.iadd, 1) := by decide +kernel
theorem dX4_fillBox_34 : decode cX4_fillBox 34 = .ok (.aload_n 0, 1) := by decide +kernel
theorem dX4_fillBox_35 : decode cX4_fillBox 35 = .ok (.getfield 121, 3) := by decide +kernel
theorem dX4_fillBox_38 : decode cX4_fillBox 38 = .ok (.invokestatic 128, 3) := by decide +kernel
theorem dX4_fillBox_41 : decode cX4_fillBox 41 = .ok (.lastore, 1) := by decide +kernel
theorem dX4_fillBox_42 : decode cX4_fillBox 42 = .ok (.iinc 1 1, 3) := by decide +kernel
theorem dX4_fillBox_45 : decode cX4_fillBox 45 = .ok (.goto (-43), 3) := by decide +kernel
theorem dX4_fillBox_48 : decode cX4_fillBox 48 = .ok (.iconst 1, 1) := by decide +kernel
theorem dX4_fillBox_49 : decode cX4_fillBox 49 = .ok (.ireturn, 1) := by decide +kernel
theorem dX4_fillDisk_0 : decode cX4_fillDisk 0 = .ok (.aload_n 0, 1) := by decide +kernel
theorem dX4_fillDisk_1 : decode cX4_fillDisk 1 = .ok (.iconst 2, 1) := by decide +kernel
theorem dX4_fillDisk_2 : decode cX4_fillDisk 2 = .ok (.iload_n 1, 1) := by decide +kernel
theorem dX4_fillDisk_3 : decode cX4_fillDisk 3 = .ok (.imul, 1) := by decide +kernel
theorem dX4_fillDisk_4 : decode cX4_fillDisk 4 = .ok (.iconst 1, 1) := by decide +kernel
theorem dX4_fillDisk_5 : decode cX4_fillDisk 5 = .ok (.iadd, 1) := by decide +kernel
theorem dX4_fillDisk_6 : decode cX4_fillDisk 6 = .ok (.iconst 2, 1) := by decide +kernel
theorem dX4_fillDisk_7 : decode cX4_fillDisk 7 = .ok (.iload_n 1, 1) := by decide +kernel
theorem dX4_fillDisk_8 : decode cX4_fillDisk 8 = .ok (.imul, 1) := by decide +kernel
theorem dX4_fillDisk_9 : decode cX4_fillDisk 9 = .ok (.iconst 1, 1) := by decide +kernel
theorem dX4_fillDisk_10 : decode cX4_fillDisk 10 = .ok (.iadd, 1) := by decide +kernel
theorem dX4_fillDisk_11 : decode cX4_fillDisk 11 = .ok (.invokevirtual 110, 3) := by decide +kernel
theorem dX4_fillDisk_14 : decode cX4_fillDisk 14 = .ok (.iconst 0, 1) := by decide +kernel
theorem dX4_fillDisk_15 : decode cX4_fillDisk 15 = .ok (.istore_n 2, 1) := by decide +kernel
theorem dX4_fillDisk_16 : decode cX4_fillDisk 16 = .ok (.iload_n 2, 1) := by decide +kernel
theorem dX4_fillDisk_17 : decode cX4_fillDisk 17 = .ok (.aload_n 0, 1) := by decide +kernel
theorem dX4_fillDisk_18 : decode cX4_fillDisk 18 = .ok (.getfield 114, 3) := by decide +kernel
theorem dX4_fillDisk_21 : decode cX4_fillDisk 21 = .ok (.if_icmp .ge 52, 3) := by decide +kernel
theorem dX4_fillDisk_24 : decode cX4_fillDisk 24 = .ok (.iconst 0, 1) := by decide +kernel
theorem dX4_fillDisk_25 : decode cX4_fillDisk 25 = .ok (.istore_n 3, 1) := by decide +kernel
theorem dX4_fillDisk_26 : decode cX4_fillDisk 26 = .ok (.iload_n 3, 1) := by decide +kernel
theorem dX4_fillDisk_27 : decode cX4_fillDisk 27 = .ok (.aload_n 0, 1) := by decide +kernel
theorem dX4_fillDisk_28 : decode cX4_fillDisk 28 = .ok (.getfield 121, 3) := by decide +kernel
theorem dX4_fillDisk_31 : decode cX4_fillDisk 31 = .ok (.if_icmp .ge 36, 3) := by decide +kernel
theorem dX4_fillDisk_34 : decode cX4_fillDisk 34 = .ok (.iload_n 3, 1) := by decide +kernel
theorem dX4_fillDisk_35 : decode cX4_fillDisk 35 = .ok (.iload_n 1, 1) := by decide +kernel
theorem dX4_fillDisk_36 : decode cX4_fillDisk 36 = .ok (.isub, 1) := by decide +kernel
theorem dX4_fillDisk_37 : decode cX4_fillDisk 37 = .ok (.iload_n 3, 1) := by decide +kernel
theorem dX4_fillDisk_38 : decode cX4_fillDisk 38 = .ok (.iload_n 1, 1) := by decide +kernel
theorem dX4_fillDisk_39 : decode cX4_fillDisk 39 = .ok (.isub, 1) := by decide +kernel
theorem dX4_fillDisk_40 : decode cX4_fillDisk 40 = .ok (.imul, 1) := by decide +kernel
theorem dX4_fillDisk_41 : decode cX4_fillDisk 41 = .ok (.iload_n 2, 1) := by decide +kernel
theorem dX4_fillDisk_42 : decode cX4_fillDisk 42 = .ok (.iload_n 1, 1) := by decide +kernel
theorem dX4_fillDisk_43 : decode cX4_fillDisk 43 = .ok (.isub, 1) := by decide +kernel
theorem dX4_fillDisk_44 : decode cX4_fillDisk 44 = .ok (.iload_n 2, 1) := by decide +kernel
theorem dX4_fillDisk_45 : decode cX4_fillDisk 45 = .ok (.iload_n 1, 1) := by decide +kernel
theorem dX4_fillDisk_46 : decode cX4_fillDisk 46 = .ok (.isub, 1) := by decide +kernel
theorem dX4_fillDisk_47 : decode cX4_fillDisk 47 = .ok (.imul, 1) := by decide +kernel
theorem dX4_fillDisk_48 : decode cX4_fillDisk 48 = .ok (.iadd, 1) := by decide +kernel
theorem dX4_fillDisk_49 : decode cX4_fillDisk 49 = .ok (.iload_n 1, 1) := by decide +kernel
theorem dX4_fillDisk_50 : decode cX4_fillDisk 50 = .ok (.iload_n 1, 1) := by decide +kernel
theorem dX4_fillDisk_51 : decode cX4_fillDisk 51 = .ok (.imul, 1) := by decide +kernel
theorem dX4_fillDisk_52 : decode cX4_fillDisk 52 = .ok (.if_icmp .gt 9, 3) := by decide +kernel
theorem dX4_fillDisk_55 : decode cX4_fillDisk 55 = .ok (.aload_n 0, 1) := by decide +kernel
theorem dX4_fillDisk_56 : decode cX4_fillDisk 56 = .ok (.iload_n 3, 1) := by decide +kernel
theorem dX4_fillDisk_57 : decode cX4_fillDisk 57 = .ok (.iload_n 2, 1) := by decide +kernel
theorem dX4_fillDisk_58 : decode cX4_fillDisk 58 = .ok (.invokevirtual 131, 3) := by decide +kernel
theorem dX4_fillDisk_61 : decode cX4_fillDisk 61 = .ok (.iinc 3 1, 3) := by decide +kernel
theorem dX4_fillDisk_64 : decode cX4_fillDisk 64 = .ok (.goto (-38), 3) := by decide +kernel
theorem dX4_fillDisk_67 : decode cX4_fillDisk 67 = .ok (.iinc 2 1, 3) := by decide +kernel
theorem dX4_fillDisk_70 : decode cX4_fillDisk 70 = .ok (.goto (-54), 3) := by decide +kernel
theorem dX4_fillDisk_73 : decode cX4_fillDisk 73 = .ok (.iconst 1, 1) := by decide +kernel
theorem dX4_fillDisk_74 : decode cX4_fillDisk 74 = .ok (.ireturn, 1) := by decide +kernel
theorem dX4_fillFrame_0 : decode cX4_fillFrame 0 = .ok (.iconst 0, 1) := by decide +kernel
theorem dX4_fillFrame_1 : decode cX4_fillFrame 1 = .ok (.istore_n 1, 1) := by decide +kernel
theorem dX4_fillFrame_2 : decode cX4_fillFrame 2 = .ok (.iload_n 1, 1) := by decide +kernel
theorem dX4_fillFrame_3 : decode cX4_fillFrame 3 = .ok (.aload_n 0, 1) := by decide +kernel
theorem dX4_fillFrame_4 : decode cX4_fillFrame 4 = .ok (.getfield 114, 3) := by decide +kernel
theorem dX4_fillFrame_7 : decode cX4_fillFrame 7 = .ok (.if_icmp .ge 59, 3) := by decide +kernel
theorem dX4_fillFrame_10 : decode cX4_fillFrame 10 = .ok (.iconst 0, 1) := by decide +kernel
theorem dX4_fillFrame_11 : decode cX4_fillFrame 11 = .ok (.istore_n 2, 1) := by decide +kernel
theorem dX4_fillFrame_12 : decode cX4_fillFrame 12 = .ok (.iload_n 2, 1) := by decide +kernel
theorem dX4_fillFrame_13 : decode cX4_fillFrame 13 = .ok (.aload_n 0, 1) := by decide +kernel
theorem dX4_fillFrame_14 : decode cX4_fillFrame 14 = .ok (.getfield 121, 3) := by decide +kernel
theorem dX4_fillFrame_17 : decode cX4_fillFrame 17 = .ok (.if_icmp .ge 43, 3) := by decide +kernel
theorem dX4_fillFrame_20 : decode cX4_fillFrame 20 = .ok (.iload_n 2, 1) := by decide +kernel
theorem dX4_fillFrame_21 : decode cX4_fillFrame 21 = .ok (.ifCond .eq 27, 3) := by decide +kernel
theorem dX4_fillFrame_24 : decode cX4_fillFrame 24 = .ok (.iload_n 1, 1) := by decide +kernel
theorem dX4_fillFrame_25 : decode cX4_fillFrame 25 = .ok (.ifCond .eq 23, 3) := by decide +kernel
theorem dX4_fillFrame_28 : decode cX4_fillFrame 28 = .ok (.iload_n 2, 1) := by decide +kernel
theorem dX4_fillFrame_29 : decode cX4_fillFrame 29 = .ok (.aload_n 0, 1) := by decide +kernel
theorem dX4_fillFrame_30 : decode cX4_fillFrame 30 = .ok (.getfield 121, 3) := by decide +kernel
theorem dX4_fillFrame_33 : decode cX4_fillFrame 33 = .ok (.iconst 1, 1) := by decide +kernel
theorem dX4_fillFrame_34 : decode cX4_fillFrame 34 = .ok (.isub, 1) := by decide +kernel
theorem dX4_fillFrame_35 : decode cX4_fillFrame 35 = .ok (.if_icmp .eq 13, 3) := by decide +kernel
theorem dX4_fillFrame_38 : decode cX4_fillFrame 38 = .ok (.iload_n 1, 1) := by decide +kernel
theorem dX4_fillFrame_39 : decode cX4_fillFrame 39 = .ok (.aload_n 0, 1) := by decide +kernel
theorem dX4_fillFrame_40 : decode cX4_fillFrame 40 = .ok (.getfield 114, 3) := by decide +kernel
theorem dX4_fillFrame_43 : decode cX4_fillFrame 43 = .ok (.iconst 1, 1) := by decide +kernel
theorem dX4_fillFrame_44 : decode cX4_fillFrame 44 = .ok (.isub, 1) := by decide +kernel
theorem dX4_fillFrame_45 : decode cX4_fillFrame 45 = .ok (.if_icmp .ne 9, 3) := by decide +kernel
theorem dX4_fillFrame_48 : decode cX4_fillFrame 48 = .ok (.aload_n 0, 1) := by decide +kernel
theorem dX4_fillFrame_49 : decode cX4_fillFrame 49 = .ok (.iload_n 2, 1) := by decide +kernel
theorem dX4_fillFrame_50 : decode cX4_fillFrame 50 = .ok (.iload_n 1, 1) := by decide +kernel
theorem dX4_fillFrame_51 : decode cX4_fillFrame 51 = .ok (.invokevirtual 131, 3) := by decide +kernel
theorem dX4_fillFrame_54 : decode cX4_fillFrame 54 = .ok (.iinc 2 1, 3) := by decide +kernel
theorem dX4_fillFrame_57 : decode cX4_fillFrame 57 = .ok (.goto (-45), 3) := by decide +kernel
theorem dX4_fillFrame_60 : decode cX4_fillFrame 60 = .ok (.iinc 1 1, 3) := by decide +kernel
theorem dX4_fillFrame_63 : decode cX4_fillFrame 63 = .ok (.goto (-61), 3) := by decide +kernel
theorem dX4_fillFrame_66 : decode cX4_fillFrame 66 = .ok (.iconst 1, 1) := by decide +kernel
theorem dX4_fillFrame_67 : decode cX4_fillFrame 67 = .ok (.ireturn, 1) := by decide +kernel
theorem dX4_isAtEnd_0 : decode cX4_isAtEnd 0 = .ok (.aload_n 0, 1) := by decide +kernel
theorem dX4_isAtEnd_1 : decode cX4_isAtEnd 1 = .ok (.invokevirtual 46, 3) := by decide +kernel
theorem dX4_isAtEnd_4 : decode cX4_isAtEnd 4 = .ok (.aload_n 0, 1) := by decide +kernel
theorem dX4_isAtEnd_5 : decode cX4_isAtEnd 5 = .ok (.getfield 15, 3) := by decide +kernel
theorem dX4_isAtEnd_8 : decode cX4_isAtEnd 8 = .ok (.aload_n 0, 1) := by decide +kernel
theorem dX4_isAtEnd_9 : decode cX4_isAtEnd 9 = .ok (.getfield 9, 3) := by decide +kernel
theorem dX4_isAtEnd_12 : decode cX4_isAtEnd 12 = .ok (.if_icmp .lt 7, 3) := by decide +kernel
theorem dX4_isAtEnd_15 : decode cX4_isAtEnd 15 = .ok (.iconst 1, 1) := by decide +kernel
theorem dX4_isAtEnd_16 : decode cX4_isAtEnd 16 = .ok (.goto 4, 3) := by decide +kernel
theorem dX4_isAtEnd_19 : decode cX4_isAtEnd 19 = .ok (.iconst 0, 1) := by decide +kernel
theorem dX4_isAtEnd_20 : decode cX4_isAtEnd 20 = .ok (.ireturn, 1) := by decide +kernel
theorem dX4_readNumber_0 : decode cX4_readNumber 0 = .ok (.aload_n 0, 1) := by decide +kernel
theorem dX4_readNumber_1 : decode cX4_readNumber 1 = .ok (.invokevirtual 46, 3) := by decide +kernel
theorem dX4_readNumber_4 : decode cX4_readNumber 4 = .ok (.aload_n 0, 1) := by decide +kernel
theorem dX4_readNumber_5 : decode cX4_readNumber 5 = .ok (.getfield 15, 3) := by decide +kernel
theorem dX4_readNumber_8 : decode cX4_readNumber 8 = .ok (.istore_n 3, 1) := by decide +kernel
theorem dX4_readNumber_9 : decode cX4_readNumber 9 = .ok (.aload_n 0, 1) := by decide +kernel
theorem dX4_readNumber_10 : decode cX4_readNumber 10 = .ok (.iconst 0, 1) := by decide +kernel
theorem dX4_readNumber_11 : decode cX4_readNumber 11 = .ok (.putfield 21, 3) := by decide +kernel
theorem dX4_readNumber_14 : decode cX4_readNumber 14 = .ok (.aload_n 0, 1) := by decide +kernel
theorem dX4_readNumber_15 : decode cX4_readNumber 15 = .ok (.getfield 15, 3) := by decide +kernel
theorem dX4_readNumber_18 : decode cX4_readNumber 18 = .ok (.aload_n 0, 1) := by decide +kernel
theorem dX4_readNumber_19 : decode cX4_readNumber 19 = .ok (.getfield 9, 3) := by decide +kernel
theorem dX4_readNumber_22 : decode cX4_readNumber 22 = .ok (.if_icmp .ge 73, 3) := by decide +kernel
theorem dX4_readNumber_25 : decode cX4_readNumber 25 = .ok (.aload_n 0, 1) := by decide +kernel
theorem dX4_readNumber_26 : decode cX4_readNumber 26 = .ok (.getfield 27, 3) := by decide +kernel
theorem dX4_readNumber_29 : decode cX4_readNumber 29 = .ok (.aload_n 0, 1) := by decide +kernel
theorem dX4_readNumber_30 : decode cX4_readNumber 30 = .ok (.getfield 15, 3) := by decide +kernel
theorem dX4_readNumber_33 : decode cX4_readNumber 33 = .ok (.baload, 1) := by decide +kernel
theorem dX4_readNumber_34 : decode cX4_readNumber 34 = .ok (.bipush 48, 2) := by decide +kernel
theorem dX4_readNumber_36 : decode cX4_readNumber 36 = .ok (.if_icmp .lt 59, 3) := by decide +kernel
theorem dX4_readNumber_39 : decode cX4_readNumber 39 = .ok (.aload_n 0, 1) := by decide +kernel
theorem dX4_readNumber_40 : decode cX4_readNumber 40 = .ok (.getfield 27, 3) := by decide +kernel
theorem dX4_readNumber_43 : decode cX4_readNumber 43 = .ok (.aload_n 0, 1) := by decide +kernel
theorem dX4_readNumber_44 : decode cX4_readNumber 44 = .ok (.getfield 15, 3) := by decide +kernel
theorem dX4_readNumber_47 : decode cX4_readNumber 47 = .ok (.baload, 1) := by decide +kernel
theorem dX4_readNumber_48 : decode cX4_readNumber 48 = .ok (.bipush 57, 2) := by decide +kernel
theorem dX4_readNumber_50 : decode cX4_readNumber 50 = .ok (.if_icmp .gt 45, 3) := by decide +kernel
theorem dX4_readNumber_53 : decode cX4_readNumber 53 = .ok (.aload_n 0, 1) := by decide +kernel
theorem dX4_readNumber_54 : decode cX4_readNumber 54 = .ok (.bipush 10, 2) := by decide +kernel
theorem dX4_readNumber_56 : decode cX4_readNumber 56 = .ok (.aload_n 0, 1) := by decide +kernel
theorem dX4_readNumber_57 : decode cX4_readNumber 57 = .ok (.getfield 21, 3) := by decide +kernel
theorem dX4_readNumber_60 : decode cX4_readNumber 60 = .ok (.imul, 1) := by decide +kernel
theorem dX4_readNumber_61 : decode cX4_readNumber 61 = .ok (.aload_n 0, 1) := by decide +kernel
theorem dX4_readNumber_62 : decode cX4_readNumber 62 = .ok (.getfield 27, 3) := by decide +kernel
theorem dX4_readNumber_65 : decode cX4_readNumber 65 = .ok (.aload_n 0, 1) := by decide +kernel
theorem dX4_readNumber_66 : decode cX4_readNumber 66 = .ok (.getfield 15, 3) := by decide +kernel
theorem dX4_readNumber_69 : decode cX4_readNumber 69 = .ok (.baload, 1) := by decide +kernel
theorem dX4_readNumber_70 : decode cX4_readNumber 70 = .ok (.iadd, 1) := by decide +kernel
theorem dX4_readNumber_71 : decode cX4_readNumber 71 = .ok (.bipush 48, 2) := by decide +kernel
theorem dX4_readNumber_73 : decode cX4_readNumber 73 = .ok (.isub, 1) := by decide +kernel
theorem dX4_readNumber_74 : decode cX4_readNumber 74 = .ok (.ldc 189, 2) := by decide +kernel
theorem dX4_readNumber_76 : decode cX4_readNumber 76 = .ok (.invokestatic 31, 3) := by decide +kernel
theorem dX4_readNumber_79 : decode cX4_readNumber 79 = .ok (.putfield 21, 3) := by decide +kernel
theorem dX4_readNumber_82 : decode cX4_readNumber 82 = .ok (.aload_n 0, 1) := by decide +kernel
theorem dX4_readNumber_83 : decode cX4_readNumber 83 = .ok (.dup, 1) := by decide +kernel
theorem dX4_readNumber_84 : decode cX4_readNumber 84 = .ok (.getfield 15, 3) := by decide +kernel
theorem dX4_readNumber_87 : decode cX4_readNumber 87 = .ok (.iconst 1, 1) := by decide +kernel
theorem dX4_readNumber_88 : decode cX4_readNumber 88 = .ok (.iadd, 1) := by decide +kernel
theorem dX4_readNumber_89 : decode cX4_readNumber 89 = .ok (.putfield 15, 3) := by decide +kernel
theorem dX4_readNumber_92 : decode cX4_readNumber 92 = .ok (.goto (-78), 3) := by decide +kernel
theorem dX4_readNumber_95 : decode cX4_readNumber 95 = .ok (.aload_n 0, 1) := by decide +kernel
theorem dX4_readNumber_96 : decode cX4_readNumber 96 = .ok (.getfield 15, 3) := by decide +kernel
theorem dX4_readNumber_99 : decode cX4_readNumber 99 = .ok (.iload_n 3, 1) := by decide +kernel
theorem dX4_readNumber_100 : decode cX4_readNumber 100 = .ok (.if_icmp .ne 10, 3) := by decide +kernel
theorem dX4_readNumber_103 : decode cX4_readNumber 103 = .ok (.aload_n 0, 1) := by decide +kernel
theorem dX4_readNumber_104 : decode cX4_readNumber 104 = .ok (.iload_n 3, 1) := by decide +kernel
theorem dX4_readNumber_105 : decode cX4_readNumber 105 = .ok (.iconst 1, 1) := by decide +kernel
theorem dX4_readNumber_106 : decode cX4_readNumber 106 = .ok (.invokevirtual 64, 3) := by decide +kernel
theorem dX4_readNumber_109 : decode cX4_readNumber 109 = .ok (.ireturn, 1) := by decide +kernel
theorem dX4_readNumber_110 : decode cX4_readNumber 110 = .ok (.aload_n 0, 1) := by decide +kernel
theorem dX4_readNumber_111 : decode cX4_readNumber 111 = .ok (.getfield 21, 3) := by decide +kernel
theorem dX4_readNumber_114 : decode cX4_readNumber 114 = .ok (.iload_n 1, 1) := by decide +kernel
theorem dX4_readNumber_115 : decode cX4_readNumber 115 = .ok (.if_icmp .lt 11, 3) := by decide +kernel
theorem dX4_readNumber_118 : decode cX4_readNumber 118 = .ok (.aload_n 0, 1) := by decide +kernel
theorem dX4_readNumber_119 : decode cX4_readNumber 119 = .ok (.getfield 21, 3) := by decide +kernel
theorem dX4_readNumber_122 : decode cX4_readNumber 122 = .ok (.iload_n 2, 1) := by decide +kernel
theorem dX4_readNumber_123 : decode cX4_readNumber 123 = .ok (.if_icmp .le 12, 3) := by decide +kernel
theorem dX4_readNumber_126 : decode cX4_readNumber 126 = .ok (.aload_n 0, 1) := by decide +kernel
theorem dX4_readNumber_127 : decode cX4_readNumber 127 = .ok (.iload_n 3, 1) := by decide +kernel
theorem dX4_readNumber_128 : decode cX4_readNumber 128 = .ok (.iconst 2, 1) := by decide +kernel
theorem dX4_readNumber_129 : decode cX4_readNumber 129 = .ok (.invokevirtual 64, 3) := by decide +kernel
theorem dX4_readNumber_132 : decode cX4_readNumber 132 = .ok (.ifCond .eq 7, 3) := by decide +kernel
theorem dX4_readNumber_135 : decode cX4_readNumber 135 = .ok (.iconst 1, 1) := by decide +kernel
theorem dX4_readNumber_136 : decode cX4_readNumber 136 = .ok (.goto 4, 3) := by decide +kernel
theorem dX4_readNumber_139 : decode cX4_readNumber 139 = .ok (.iconst 0, 1) := by decide +kernel
theorem dX4_readNumber_140 : decode cX4_readNumber 140 = .ok (.ireturn, 1) := by decide +kernel
theorem dX4_readSigned_0 : decode cX4_readSigned 0 = .ok (.aload_n 0, 1) := by decide +kernel
theorem dX4_readSigned_1 : decode cX4_readSigned 1 = .ok (.bipush 45, 2) := by decide +kernel
theorem dX4_readSigned_3 : decode cX4_readSigned 3 = .ok (.invokevirtual 68, 3) := by decide +kernel
theorem dX4_readSigned_6 : decode cX4_readSigned 6 = .ok (.istore_n 2, 1) := by decide +kernel
theorem dX4_readSigned_7 : decode cX4_readSigned 7 = .ok (.aload_n 0, 1) := by decide +kernel
theorem dX4_readSigned_8 : decode cX4_readSigned 8 = .ok (.iconst 0, 1) := by decide +kernel
theorem dX4_readSigned_9 : decode cX4_readSigned 9 = .ok (.iload_n 1, 1) := by decide +kernel
theorem dX4_readSigned_10 : decode cX4_readSigned 10 = .ok (.invokevirtual 95, 3) := by decide +kernel
theorem dX4_readSigned_13 : decode cX4_readSigned 13 = .ok (.ifCond .ne 5, 3) := by decide +kernel
theorem dX4_readSigned_16 : decode cX4_readSigned 16 = .ok (.iconst 0, 1) := by decide +kernel
theorem dX4_readSigned_17 : decode cX4_readSigned 17 = .ok (.ireturn, 1) := by decide +kernel
theorem dX4_readSigned_18 : decode cX4_readSigned 18 = .ok (.aload_n 0, 1) := by decide +kernel
theorem dX4_readSigned_19 : decode cX4_readSigned 19 = .ok (.iload_n 2, 1) := by decide +kernel
theorem dX4_readSigned_20 : decode cX4_readSigned 20 = .ok (.ifCond .eq 11, 3) := by decide +kernel
theorem dX4_readSigned_23 : decode cX4_readSigned 23 = .ok (.aload_n 0, 1) := by decide +kernel
theorem dX4_readSigned_24 : decode cX4_readSigned 24 = .ok (.getfield 21, 3) := by decide +kernel
theorem dX4_readSigned_27 : decode cX4_readSigned 27 = .ok (.ineg, 1) := by decide +kernel
theorem dX4_readSigned_28 : decode cX4_readSigned 28 = .ok (.goto 7, 3) := by decide +kernel
theorem dX4_readSigned_31 : decode cX4_readSigned 31 = .ok (.aload_n 0, 1) := by decide +kernel
theorem dX4_readSigned_32 : decode cX4_readSigned 32 = .ok (.getfield 21, 3) := by decide +kernel
theorem dX4_readSigned_35 : decode cX4_readSigned 35 = .ok (.putfield 21, 3) := by decide +kernel
theorem dX4_readSigned_38 : decode cX4_readSigned 38 = .ok (.iconst 1, 1) := by decide +kernel
theorem dX4_readSigned_39 : decode cX4_readSigned 39 = .ok (.ireturn, 1) := by decide +kernel
theorem dX4_readSize_0 : decode cX4_readSize 0 = .ok (.aload_n 0, 1) := by decide +kernel
theorem dX4_readSize_1 : decode cX4_readSize 1 = .ok (.iconst 1, 1) := by decide +kernel
theorem dX4_readSize_2 : decode cX4_readSize 2 = .ok (.bipush 100, 2) := by decide +kernel
theorem dX4_readSize_4 : decode cX4_readSize 4 = .ok (.invokevirtual 95, 3) := by decide +kernel
theorem dX4_readSize_7 : decode cX4_readSize 7 = .ok (.ifCond .ne 5, 3) := by decide +kernel
theorem dX4_readSize_10 : decode cX4_readSize 10 = .ok (.iconst 0, 1) := by decide +kernel
theorem dX4_readSize_11 : decode cX4_readSize 11 = .ok (.ireturn, 1) := by decide +kernel
theorem dX4_readSize_12 : decode cX4_readSize 12 = .ok (.aload_n 0, 1) := by decide +kernel
theorem dX4_readSize_13 : decode cX4_readSize 13 = .ok (.getfield 21, 3) := by decide +kernel
theorem dX4_readSize_16 : decode cX4_readSize 16 = .ok (.istore_n 2, 1) := by decide +kernel
theorem dX4_readSize_17 : decode cX4_readSize 17 = .ok (.aload_n 0, 1) := by decide +kernel
theorem dX4_readSize_18 : decode cX4_readSize 18 = .ok (.iconst 1, 1) := by decide +kernel
theorem dX4_readSize_19 : decode cX4_readSize 19 = .ok (.bipush 40, 2) := by decide +kernel
theorem dX4_readSize_21 : decode cX4_readSize 21 = .ok (.invokevirtual 95, 3) := by decide +kernel
theorem dX4_readSize_24 : decode cX4_readSize 24 = .ok (.ifCond .ne 5, 3) := by decide +kernel
theorem dX4_readSize_27 : decode cX4_readSize 27 = .ok (.iconst 0, 1) := by decide +kernel
theorem dX4_readSize_28 : decode cX4_readSize 28 = .ok (.ireturn, 1) := by decide +kernel
theorem dX4_readSize_29 : decode cX4_readSize 29 = .ok (.aload_n 1, 1) := by decide +kernel
theorem dX4_readSize_30 : decode cX4_readSize 30 = .ok (.iload_n 2, 1) := by decide +kernel
theorem dX4_readSize_31 : decode cX4_readSize 31 = .ok (.aload_n 0, 1) := by decide +kernel
theorem dX4_readSize_32 : decode cX4_readSize 32 = .ok (.getfield 21, 3) := by decide +kernel
theorem dX4_readSize_35 : decode cX4_readSize 35 = .ok (.invokevirtual 110, 3) := by decide +kernel
theorem dX4_readSize_38 : decode cX4_readSize 38 = .ok (.iconst 1, 1) := by decide +kernel
theorem dX4_readSize_39 : decode cX4_readSize 39 = .ok (.ireturn, 1) := by decide +kernel
theorem dX4_signsAhead_0 : decode cX4_signsAhead 0 = .ok (.aload_n 0, 1) := by decide +kernel
theorem dX4_signsAhead_1 : decode cX4_signsAhead 1 = .ok (.getfield 15, 3) := by decide +kernel
theorem dX4_signsAhead_4 : decode cX4_signsAhead 4 = .ok (.istore_n 1, 1) := by decide +kernel
theorem dX4_signsAhead_5 : decode cX4_signsAhead 5 = .ok (.iload_n 1, 1) := by decide +kernel
theorem dX4_signsAhead_6 : decode cX4_signsAhead 6 = .ok (.aload_n 0, 1) := by decide +kernel
theorem dX4_signsAhead_7 : decode cX4_signsAhead 7 = .ok (.getfield 9, 3) := by decide +kernel
theorem dX4_signsAhead_10 : decode cX4_signsAhead 10 = .ok (.if_icmp .ge 31, 3) := by decide +kernel
theorem dX4_signsAhead_13 : decode cX4_signsAhead 13 = .ok (.aload_n 0, 1) := by decide +kernel
theorem dX4_signsAhead_14 : decode cX4_signsAhead 14 = .ok (.getfield 27, 3) := by decide +kernel
theorem dX4_signsAhead_17 : decode cX4_signsAhead 17 = .ok (.iload_n 1, 1) := by decide +kernel
theorem dX4_signsAhead_18 : decode cX4_signsAhead 18 = .ok (.baload, 1) := by decide +kernel
theorem dX4_signsAhead_19 : decode cX4_signsAhead 19 = .ok (.bipush 35, 2) := by decide +kernel
theorem dX4_signsAhead_21 : decode cX4_signsAhead 21 = .ok (.if_icmp .eq 14, 3) := by decide +kernel
theorem dX4_signsAhead_24 : decode cX4_signsAhead 24 = .ok (.aload_n 0, 1) := by decide +kernel
theorem dX4_signsAhead_25 : decode cX4_signsAhead 25 = .ok (.getfield 27, 3) := by decide +kernel
theorem dX4_signsAhead_28 : decode cX4_signsAhead 28 = .ok (.iload_n 1, 1) := by decide +kernel
theorem dX4_signsAhead_29 : decode cX4_signsAhead 29 = .ok (.baload, 1) := by decide +kernel
theorem dX4_signsAhead_30 : decode cX4_signsAhead 30 = .ok (.bipush 46, 2) := by decide +kernel
theorem dX4_signsAhead_32 : decode cX4_signsAhead 32 = .ok (.if_icmp .ne 9, 3) := by decide +kernel
theorem dX4_signsAhead_35 : decode cX4_signsAhead 35 = .ok (.iinc 1 1, 3) := by decide +kernel
theorem dX4_signsAhead_38 : decode cX4_signsAhead 38 = .ok (.goto (-33), 3) := by decide +kernel
theorem dX4_signsAhead_41 : decode cX4_signsAhead 41 = .ok (.iload_n 1, 1) := by decide +kernel
theorem dX4_signsAhead_42 : decode cX4_signsAhead 42 = .ok (.aload_n 0, 1) := by decide +kernel
theorem dX4_signsAhead_43 : decode cX4_signsAhead 43 = .ok (.getfield 15, 3) := by decide +kernel
theorem dX4_signsAhead_46 : decode cX4_signsAhead 46 = .ok (.isub, 1) := by decide +kernel
theorem dX4_signsAhead_47 : decode cX4_signsAhead 47 = .ok (.ireturn, 1) := by decide +kernel
theorem dX4_skipBlanks_0 : decode cX4_skipBlanks 0 = .ok (.aload_n 0, 1) := by decide +kernel
theorem dX4_skipBlanks_1 : decode cX4_skipBlanks 1 = .ok (.getfield 15, 3) := by decide +kernel
theorem dX4_skipBlanks_4 : decode cX4_skipBlanks 4 = .ok (.aload_n 0, 1) := by decide +kernel
theorem dX4_skipBlanks_5 : decode cX4_skipBlanks 5 = .ok (.getfield 9, 3) := by decide +kernel
theorem dX4_skipBlanks_8 : decode cX4_skipBlanks 8 = .ok (.if_icmp .ge 30, 3) := by decide +kernel
theorem dX4_skipBlanks_11 : decode cX4_skipBlanks 11 = .ok (.aload_n 0, 1) := by decide +kernel
theorem dX4_skipBlanks_12 : decode cX4_skipBlanks 12 = .ok (.getfield 27, 3) := by decide +kernel
theorem dX4_skipBlanks_15 : decode cX4_skipBlanks 15 = .ok (.aload_n 0, 1) := by decide +kernel
theorem dX4_skipBlanks_16 : decode cX4_skipBlanks 16 = .ok (.getfield 15, 3) := by decide +kernel
theorem dX4_skipBlanks_19 : decode cX4_skipBlanks 19 = .ok (.baload, 1) := by decide +kernel
theorem dX4_skipBlanks_20 : decode cX4_skipBlanks 20 = .ok (.bipush 32, 2) := by decide +kernel
theorem dX4_skipBlanks_22 : decode cX4_skipBlanks 22 = .ok (.if_icmp .ne 16, 3) := by decide +kernel
theorem dX4_skipBlanks_25 : decode cX4_skipBlanks 25 = .ok (.aload_n 0, 1) := by decide +kernel
theorem dX4_skipBlanks_26 : decode cX4_skipBlanks 26 = .ok (.dup, 1) := by decide +kernel
theorem dX4_skipBlanks_27 : decode cX4_skipBlanks 27 = .ok (.getfield 15, 3) := by decide +kernel
theorem dX4_skipBlanks_30 : decode cX4_skipBlanks 30 = .ok (.iconst 1, 1) := by decide +kernel
theorem dX4_skipBlanks_31 : decode cX4_skipBlanks 31 = .ok (.iadd, 1) := by decide +kernel
theorem dX4_skipBlanks_32 : decode cX4_skipBlanks 32 = .ok (.putfield 15, 3) := by decide +kernel
theorem dX4_skipBlanks_35 : decode cX4_skipBlanks 35 = .ok (.goto (-35), 3) := by decide +kernel
theorem dX4_skipBlanks_38 : decode cX4_skipBlanks 38 = .ok (.return_, 1) := by decide +kernel
theorem dX4_takeRow_0 : decode cX4_takeRow 0 = .ok (.iconst 0, 1) := by decide +kernel
theorem dX4_takeRow_1 : decode cX4_takeRow 1 = .ok (.istore 4, 2) := by decide +kernel
theorem dX4_takeRow_3 : decode cX4_takeRow 3 = .ok (.iload 4, 2) := by decide +kernel
theorem dX4_takeRow_5 : decode cX4_takeRow 5 = .ok (.iload_n 3, 1) := by decide +kernel
theorem dX4_takeRow_6 : decode cX4_takeRow 6 = .ok (.if_icmp .ge 51, 3) := by decide +kernel
theorem dX4_takeRow_9 : decode cX4_takeRow 9 = .ok (.aload_n 0, 1) := by decide +kernel
theorem dX4_takeRow_10 : decode cX4_takeRow 10 = .ok (.getfield 15, 3) := by decide +kernel
theorem dX4_takeRow_13 : decode cX4_takeRow 13 = .ok (.aload_n 0, 1) := by decide +kernel
theorem dX4_takeRow_14 : decode cX4_takeRow 14 = .ok (.getfield 9, 3) := by decide +kernel
theorem dX4_takeRow_17 : decode cX4_takeRow 17 = .ok (.if_icmp .ge 40, 3) := by decide +kernel
theorem dX4_takeRow_20 : decode cX4_takeRow 20 = .ok (.aload_n 0, 1) := by decide +kernel
theorem dX4_takeRow_21 : decode cX4_takeRow 21 = .ok (.getfield 27, 3) := by decide +kernel
theorem dX4_takeRow_24 : decode cX4_takeRow 24 = .ok (.aload_n 0, 1) := by decide +kernel
theorem dX4_takeRow_25 : decode cX4_takeRow 25 = .ok (.getfield 15, 3) := by decide +kernel
theorem dX4_takeRow_28 : decode cX4_takeRow 28 = .ok (.baload, 1) := by decide +kernel
theorem dX4_takeRow_29 : decode cX4_takeRow 29 = .ok (.bipush 35, 2) := by decide +kernel
theorem dX4_takeRow_31 : decode cX4_takeRow 31 = .ok (.if_icmp .ne 10, 3) := by decide +kernel
theorem dX4_takeRow_34 : decode cX4_takeRow 34 = .ok (.aload_n 1, 1) := by decide +kernel
theorem dX4_takeRow_35 : decode cX4_takeRow 35 = .ok (.iload 4, 2) := by decide +kernel
theorem dX4_takeRow_37 : decode cX4_takeRow 37 = .ok (.iload_n 2, 1) := by decide +kernel
theorem dX4_takeRow_38 : decode cX4_takeRow 38 = .ok (.invokevirtual 131, 3) := by decide +kernel
theorem dX4_takeRow_41 : decode cX4_takeRow 41 = .ok (.aload_n 0, 1) := by decide +kernel
theorem dX4_takeRow_42 : decode cX4_takeRow 42 = .ok (.dup, 1) := by decide +kernel
theorem dX4_takeRow_43 : decode cX4_takeRow 43 = .ok (.getfield 15, 3) := by decide +kernel
theorem dX4_takeRow_46 : decode cX4_takeRow 46 = .ok (.iconst 1, 1) := by decide +kernel
theorem dX4_takeRow_47 : decode cX4_takeRow 47 = .ok (.iadd, 1) := by decide +kernel
theorem dX4_takeRow_48 : decode cX4_takeRow 48 = .ok (.putfield 15, 3) := by decide +kernel
theorem dX4_takeRow_51 : decode cX4_takeRow 51 = .ok (.iinc 4 1, 3) := by decide +kernel
theorem dX4_takeRow_54 : decode cX4_takeRow 54 = .ok (.goto (-51), 3) := by decide +kernel
theorem dX4_takeRow_57 : decode cX4_takeRow 57 = .ok (.return_, 1) := by decide +kernel
theorem dX4_takeSign_0 : decode cX4_takeSign 0 = .ok (.aload_n 0, 1) := by decide +kernel
theorem dX4_takeSign_1 : decode cX4_takeSign 1 = .ok (.invokevirtual 46, 3) := by decide +kernel
theorem dX4_takeSign_4 : decode cX4_takeSign 4 = .ok (.aload_n 0, 1) := by decide +kernel
theorem dX4_takeSign_5 : decode cX4_takeSign 5 = .ok (.getfield 15, 3) := by decide +kernel
theorem dX4_takeSign_8 : decode cX4_takeSign 8 = .ok (.aload_n 0, 1) := by decide +kernel
theorem dX4_takeSign_9 : decode cX4_takeSign 9 = .ok (.getfield 9, 3) := by decide +kernel
theorem dX4_takeSign_12 : decode cX4_takeSign 12 = .ok (.if_icmp .ge 16, 3) := by decide +kernel
theorem dX4_takeSign_15 : decode cX4_takeSign 15 = .ok (.aload_n 0, 1) := by decide +kernel
theorem dX4_takeSign_16 : decode cX4_takeSign 16 = .ok (.getfield 27, 3) := by decide +kernel
theorem dX4_takeSign_19 : decode cX4_takeSign 19 = .ok (.aload_n 0, 1) := by decide +kernel
theorem dX4_takeSign_20 : decode cX4_takeSign 20 = .ok (.getfield 15, 3) := by decide +kernel
theorem dX4_takeSign_23 : decode cX4_takeSign 23 = .ok (.baload, 1) := by decide +kernel
theorem dX4_takeSign_24 : decode cX4_takeSign 24 = .ok (.iload_n 1, 1) := by decide +kernel
theorem dX4_takeSign_25 : decode cX4_takeSign 25 = .ok (.if_icmp .eq 5, 3) := by decide +kernel
theorem dX4_takeSign_28 : decode cX4_takeSign 28 = .ok (.iconst 0, 1) := by decide +kernel
theorem dX4_takeSign_29 : decode cX4_takeSign 29 = .ok (.ireturn, 1) := by decide +kernel
theorem dX4_takeSign_30 : decode cX4_takeSign 30 = .ok (.aload_n 0, 1) := by decide +kernel
theorem dX4_takeSign_31 : decode cX4_takeSign 31 = .ok (.dup, 1) := by decide +kernel
theorem dX4_takeSign_32 : decode cX4_takeSign 32 = .ok (.getfield 15, 3) := by decide +kernel
theorem dX4_takeSign_35 : decode cX4_takeSign 35 = .ok (.iconst 1, 1) := by decide +kernel
theorem dX4_takeSign_36 : decode cX4_takeSign 36 = .ok (.iadd, 1) := by decide +kernel
theorem dX4_takeSign_37 : decode cX4_takeSign 37 = .ok (.putfield 15, 3) := by decide +kernel
theorem dX4_takeSign_40 : decode cX4_takeSign 40 = .ok (.iconst 1, 1) := by decide +kernel
theorem dX4_takeSign_41 : decode cX4_takeSign 41 = .ok (.ireturn, 1) := by decide +kernel
set_option maxRecDepth 100000 in
theorem pq78 : Cond.initialized RX4 ∈ pw := pw_mem (i := 78) (by decide +kernel) rfl
set_option maxRecDepth 100000 in
theorem pq118 : Cond.fieldLink RX4 121 "MaskTouch$Mask" "wide" "I" ∈ pw := pw_mem (i := 118) (by decide +kernel) rfl
set_option maxRecDepth 100000 in
theorem pq122 : Cond.fieldLink RX4 114 "MaskTouch$Mask" "high" "I" ∈ pw := pw_mem (i := 122) (by decide +kernel) rfl
set_option maxRecDepth 100000 in
theorem pq126 : Cond.fieldLink RX4 117 "MaskTouch$Mask" "words" "[J" ∈ pw := pw_mem (i := 126) (by decide +kernel) rfl
set_option maxRecDepth 100000 in
theorem pq247 : Cond.fieldLink RX4 27 "MaskTouch$Reader" "text" "[B" ∈ pw := pw_mem (i := 247) (by decide +kernel) rfl
set_option maxRecDepth 100000 in
theorem pq248 : Cond.fieldLink RX4 9 "MaskTouch$Reader" "length" "I" ∈ pw := pw_mem (i := 248) (by decide +kernel) rfl
set_option maxRecDepth 100000 in
theorem pq249 : Cond.fieldLink RX4 15 "MaskTouch$Reader" "spot" "I" ∈ pw := pw_mem (i := 249) (by decide +kernel) rfl
set_option maxRecDepth 100000 in
theorem pq251 : Cond.fieldLink RX4 21 "MaskTouch$Reader" "number" "I" ∈ pw := pw_mem (i := 251) (by decide +kernel) rfl
set_option maxRecDepth 100000 in
theorem pq252 : Cond.fieldLink RX4 24 "MaskTouch$Reader" "fault" "I" ∈ pw := pw_mem (i := 252) (by decide +kernel) rfl
set_option maxRecDepth 100000 in
theorem pq406 : Cond.methodLink RX4 31 Lib.Math.min.name ∈ pw := pw_mem (i := 406) (by decide +kernel) rfl
set_option maxRecDepth 100000 in
theorem pq417 : Cond.methodLink RX4 46 yX4_skipBlanks ∈ pw := pw_mem (i := 417) (by decide +kernel) rfl
set_option maxRecDepth 100000 in
theorem pq418 : Cond.instanceMethod yX4_skipBlanks ∈ pw := pw_mem (i := 418) (by decide +kernel) rfl
set_option maxRecDepth 100000 in
theorem pq419 : Cond.selects RX4 yX4_skipBlanks yX4_skipBlanks ∈ pw := pw_mem (i := 419) (by decide +kernel) rfl
set_option maxRecDepth 100000 in
theorem pq420 : Cond.code yX4_skipBlanks cX4_skipBlanks 1 none ∈ pw := pw_mem (i := 420) (by rfl) rfl
set_option maxRecDepth 100000 in
theorem pq478 : Cond.methodLink RX4 64 yX4_failAt ∈ pw := pw_mem (i := 478) (by decide +kernel) rfl
set_option maxRecDepth 100000 in
theorem pq479 : Cond.instanceMethod yX4_failAt ∈ pw := pw_mem (i := 479) (by decide +kernel) rfl
set_option maxRecDepth 100000 in
theorem pq480 : Cond.selects RX4 yX4_failAt yX4_failAt ∈ pw := pw_mem (i := 480) (by decide +kernel) rfl
set_option maxRecDepth 100000 in
theorem pq481 : Cond.code yX4_failAt cX4_failAt 3 (some .boolean) ∈ pw := pw_mem (i := 481) (by rfl) rfl
set_option maxRecDepth 100000 in
theorem pq487 : Cond.methodLink RX4 95 yX4_readNumber ∈ pw := pw_mem (i := 487) (by decide +kernel) rfl
set_option maxRecDepth 100000 in
theorem pq488 : Cond.instanceMethod yX4_readNumber ∈ pw := pw_mem (i := 488) (by decide +kernel) rfl
set_option maxRecDepth 100000 in
theorem pq489 : Cond.selects RX4 yX4_readNumber yX4_readNumber ∈ pw := pw_mem (i := 489) (by decide +kernel) rfl
set_option maxRecDepth 100000 in
theorem pq490 : Cond.code yX4_readNumber cX4_readNumber 4 (some .boolean) ∈ pw := pw_mem (i := 490) (by rfl) rfl
set_option maxRecDepth 100000 in
theorem pq491 : Cond.constant RX4 189 (1000000) ∈ pw := pw_mem (i := 491) (by decide +kernel) rfl
set_option maxRecDepth 100000 in
theorem pq492 : Cond.methodLink RX4 110 yX3_resize ∈ pw := pw_mem (i := 492) (by decide +kernel) rfl
set_option maxRecDepth 100000 in
theorem pq502 : Cond.methodLink RX4 124 yX3_lowOnes ∈ pw := pw_mem (i := 502) (by decide +kernel) rfl
set_option maxRecDepth 100000 in
theorem pq506 : Cond.methodLink RX4 128 yX3_highOnes ∈ pw := pw_mem (i := 506) (by decide +kernel) rfl
set_option maxRecDepth 100000 in
theorem pq513 : Cond.methodLink RX4 131 yX3_toggle ∈ pw := pw_mem (i := 513) (by decide +kernel) rfl
set_option maxRecDepth 100000 in
theorem pq537 : Cond.methodLink RX4 68 yX4_takeSign ∈ pw := pw_mem (i := 537) (by decide +kernel) rfl
set_option maxRecDepth 100000 in
theorem pq538 : Cond.instanceMethod yX4_takeSign ∈ pw := pw_mem (i := 538) (by decide +kernel) rfl
set_option maxRecDepth 100000 in
theorem pq539 : Cond.selects RX4 yX4_takeSign yX4_takeSign ∈ pw := pw_mem (i := 539) (by decide +kernel) rfl
set_option maxRecDepth 100000 in
theorem pq540 : Cond.code yX4_takeSign cX4_takeSign 2 (some .boolean) ∈ pw := pw_mem (i := 540) (by rfl) rfl
theorem rd_put {I : Nat → Nat → Int32} {p k : Nat} {v : Int32} (h : ¬ k = 1 ∧ ¬ k = 2 ∧ ¬ k = 5) : rdS I (va_up I p (upd (I p) k v)) p := ⟨rz_fr _ _ _ _ (fun q => h.1 q.symm), rz_fr _ _ _ _ (fun q => h.2.1 q.symm), rz_fr _ _ _ _ (fun q => h.2.2 q.symm)⟩
theorem rd_fr {I I1 : Nat → Nat → Int32} {p : Nat} (h : I1 p = I p) : rdS I I1 p := ⟨congrFun h 1, congrFun h 2, congrFun h 5⟩
theorem rdS_tr {I Ia I1 : Nat → Nat → Int32} {p : Nat} (h : rdS I Ia p) (h2 : rdS Ia I1 p) : rdS I I1 p := ⟨h2.1.trans h.1, h2.2.1.trans h.2.1, h2.2.2.trans h.2.2⟩

set_option maxHeartbeats 4000000 in
set_option maxRecDepth 100000 in
theorem s_X4_failAt (l : Launch) (dC : Nat → ClassId) (dI : Nat → Nat → Nat) (cs : Nat → ClassId) (L : List Nat) (K G : Nat → Nat) (Q : Nat → Nat → Option Nat) (hQ : Sv L K G Q) (x0 m0 : Nat) (tx : GT) (tm : GT × Int) (sz : Nat) (I : Nat → Nat → Int32) (J : Nat → Nat → Int64) (hI : Iv L K x0 m0 tx tm I) (p0 : Nat) (hLp0 : p0 ∈ L) (hKp0 : K p0 = 4) (p1 : Int32) (bp1 : (0) ≤ p1.toInt ∧ p1.toInt ≤ 1000) (p2 : Int32) (bp2 : (1) ≤ p2.toInt ∧ p2.toInt ≤ 4) : Met l yX4_failAt (.code yX4_failAt cX4_failAt 3 (some .boolean) :: pw) ({ frames := 0, cells := 0, slots := 0, locals := 0 }) (sP (dC, dI) cs [.ref p0, .int p1, .int p2] sz L K I J Q) (va_Qi (fun (r : Int32) (u : Int32) => u = r ∧ ((0) ≤ r.toInt ∧ r.toInt ≤ 0)) (fun u t => sB (dC, dI) cs L K Q (fun I1 J1 => Iv L K x0 m0 tx tm I1 ∧ (∀ b, ¬ (b = p0) → I1 b = I b) ∧ rdF I I1 p0 (8 * p1.toInt + p2.toInt) ∧ J1 = J) t) (fun q => q ∈ L ∨ sz ≤ q)) 0 0 (fun q => q ∈ L ∨ sz ≤ q) := by
  refine Met.ofW (cc := cX4_failAt) (maxL := 3) (ret := (some .boolean)) (by decide +kernel) rfl ?_
  intro p e s m args below meth c s₁ B hml hv
  obtain ⟨rfl, hsz, hP, hK, hD0, hN⟩ := hv
  have hx := B.exec
  have hb := B.bytes
  have hr := B.returns
  have hts := fun w (h : w ∈ pw) => atoms_spec (ws := Cond.code yX4_failAt cX4_failAt 3 (some .boolean) :: pw) B.pre w (List.mem_cons_of_mem _ h)
  have hown : s.vm.findClass RX4 = some m.cls := findClass_of_methodNamed B.named
  have hlocks := B.notSynchronized
  subst hsz
  have hBB : 999 ≤ tm.2 ∧ tm.2 ≤ 6000000 := hI.2.2.2.2.1
  have dj_J : J = J := rfl
  have fr_I : ∀ b, ¬ (b = p0) → I b = I b := fun _ _ => rfl
  obtain ⟨A, hAe⟩ : ∃ A : Nat → Prop, A = (fun q => q ∈ L ∨ s.heap.size ≤ q) := ⟨_, rfl⟩
  rw [← hAe]
  have hAL : ∀ q, q ∈ L → A q := fun q h => by rw [hAe]; exact Or.inl h
  have hA : ∀ q, s.heap.size ≤ q → A q := fun q h => by rw [hAe]; exact Or.inr h
  have hD : ∀ F, va_D A (va_pl L F) := fun F => (hD0 F).weaken (fun k q hk _ => hAL _ (pl_mem hk))
  obtain ⟨H, hHe⟩ : ∃ H : Heap, H = s.heap := ⟨_, rfl⟩
  have hS : va_S A s.heap H [] := by rw [hHe]; exact va_S.rf
  rw [← hHe] at hP
  have hl := lv_entry ([.ref p0, .int p1, .int p2]) (n := 3) (Nat.le_of_ble_eq_true rfl)
  rw [lg_entry_eq]
  generalize (lg_sl ([.ref p0, .int p1, .int p2]) ++ List.replicate (3 - (lg_sl ([.ref p0, .int p1, .int p2])).length) Slot.unset).toArray = ls at hl ⊢
  have hl : lv_has ls 3 [(0, .ref p0), (1, .int p1), (2, .int p2)] := hl
  rw [← hHe]
  refine namedW (fun R Qz hR hQz => ?_)
  refine lv_aload_n hx hb dX4_failAt_0 rfl (lv_at hl 0 rfl) ?_
  refine lv_bipush (v := 8) hx hb dX4_failAt_1 (by decide +kernel) ?_
  refine lv_iload_n hx hb dX4_failAt_3 rfl (lv_at hl 1 rfl) ?_
  refine lv_imul hx hb dX4_failAt_4 ?_
  refine lv_topi (fun z4 ez4 => ?_)
  have bz4 := tq_mul (k := (8)) (q := p1.toInt) ez4 (by decide +kernel) rfl (by omega) (by omega)
  refine lv_iload_n hx hb dX4_failAt_5 rfl (lv_at hl 2 rfl) ?_
  refine lv_iadd hx hb dX4_failAt_6 ?_
  refine lv_topi (fun z6 ez6 => ?_)
  have bz6 := tq_add (k := z4.toInt) (q := p2.toInt) ez6 rfl rfl (by omega) (by omega)
  refine p_put hx hb hts inX4 tyX4 tyX4_ok nmX4 hown hK hP hD hS hLp0 hKp0 rfl rfl 5 (by decide) (hts _ pq252) rfl (by decide +kernel) (Nat.le_of_ble_eq_true rfl) (oS_4_5 cs _ _ _ _) dX4_failAt_7 (fun H locs hP hS => ?_)
  obtain ⟨Iz7, hP, hIz7, qIz7⟩ : ∃ Iz7, va_P (dC, dI) vwCl (Wd cs L K Iz7 J Q) H ∧ Iv L K x0 m0 tx tm Iz7 ∧ Iz7 = va_up I p0 (upd (I p0) 5 z6) := ⟨_, hP, Iv_put hI hKp0 (oP_4_5 (Iv_at hI hLp0 hKp0) ⟨by omega, by omega⟩) (by decide) (by decide), rfl⟩
  have fr_Iz7 : ∀ b, ¬ (b = p0) → Iz7 b = I b := fun b q => (congrFun qIz7 b).trans ((va_up_ne _ _ (fun z => q z)).trans (fr_I b q))
  refine lv_iconst (v := 0) hx hb dX4_failAt_10 (by decide +kernel) ?_
  subst hR; subst hQz
  exact W.zret (v := 0) hx hb hr (by decide +kernel) (fun t ht hW => ⟨⟨0, 0, rfl, ⟨rfl, ⟨by decide +kernel, by decide +kernel⟩⟩, ⟨Iz7, J, ⟨hIz7, fr_Iz7, ⟨by rw [qIz7, rz_at]; omega, by rw [qIz7, rz_fr _ _ _ _ (by decide)]⟩, dj_J⟩, by rw [ht]; exact hP⟩⟩, hS.F ht⟩) hS.2.2 dX4_failAt_11

set_option maxHeartbeats 4000000 in
set_option maxRecDepth 100000 in
theorem s_X4_skipBlanks (l : Launch) (dC : Nat → ClassId) (dI : Nat → Nat → Nat) (cs : Nat → ClassId) (L : List Nat) (K G : Nat → Nat) (Q : Nat → Nat → Option Nat) (hQ : Sv L K G Q) (x0 m0 : Nat) (tx : GT) (tm : GT × Int) (sz : Nat) (I : Nat → Nat → Int32) (J : Nat → Nat → Int64) (hI : Iv L K x0 m0 tx tm I) (p0 : Nat) (hLp0 : p0 ∈ L) (hKp0 : K p0 = 4) : Met l yX4_skipBlanks (.code yX4_skipBlanks cX4_skipBlanks 1 none :: pw) ({ frames := 0, cells := 0, slots := 0, locals := 0 }) (sP (dC, dI) cs [.ref p0] sz L K I J Q) (va_Qv (fun (_ : Unit) => True) (fun _ t => sB (dC, dI) cs L K Q (fun I1 J1 => Iv L K x0 m0 tx tm I1 ∧ (∀ b, ¬ (b = p0) → I1 b = I b) ∧ I1 p0 1 = I p0 1 ∧ I1 p0 4 = I p0 4 ∧ rdA I I1 p0 (sk (tb tx.2.2 (I p0 1).toInt) (I p0 2).toInt) ∧ J1 = J) t) (fun q => q ∈ L ∨ sz ≤ q)) 0 0 (fun q => q ∈ L ∨ sz ≤ q) := by
  refine Met.ofW (cc := cX4_skipBlanks) (maxL := 1) (ret := none) (by decide +kernel) rfl ?_
  intro p e s m args below meth c s₁ B hml hv
  obtain ⟨rfl, hsz, hP, hK, hD0, hN⟩ := hv
  have hx := B.exec
  have hb := B.bytes
  have hr := B.returns
  have hts := fun w (h : w ∈ pw) => atoms_spec (ws := Cond.code yX4_skipBlanks cX4_skipBlanks 1 none :: pw) B.pre w (List.mem_cons_of_mem _ h)
  have hown : s.vm.findClass RX4 = some m.cls := findClass_of_methodNamed B.named
  have hlocks := B.notSynchronized
  subst hsz
  have hBB : 999 ≤ tm.2 ∧ tm.2 ≤ 6000000 := hI.2.2.2.2.1
  have dj_J : J = J := rfl
  have kp0_1_I : I p0 1 = I p0 1 := rfl
  have kp0_4_I : I p0 4 = I p0 4 := rfl
  have fr_I : ∀ b, ¬ (b = p0) → I b = I b := fun _ _ => rfl
  obtain ⟨A, hAe⟩ : ∃ A : Nat → Prop, A = (fun q => q ∈ L ∨ s.heap.size ≤ q) := ⟨_, rfl⟩
  rw [← hAe]
  have hAL : ∀ q, q ∈ L → A q := fun q h => by rw [hAe]; exact Or.inl h
  have hA : ∀ q, s.heap.size ≤ q → A q := fun q h => by rw [hAe]; exact Or.inr h
  have hD : ∀ F, va_D A (va_pl L F) := fun F => (hD0 F).weaken (fun k q hk _ => hAL _ (pl_mem hk))
  obtain ⟨H, hHe⟩ : ∃ H : Heap, H = s.heap := ⟨_, rfl⟩
  have hS : va_S A s.heap H [] := by rw [hHe]; exact va_S.rf
  rw [← hHe] at hP
  have hl := lv_entry ([.ref p0]) (n := 1) (Nat.le_of_ble_eq_true rfl)
  rw [lg_entry_eq]
  generalize (lg_sl ([.ref p0]) ++ List.replicate (1 - (lg_sl ([.ref p0])).length) Slot.unset).toArray = ls at hl ⊢
  have hl : lv_has ls 1 [(0, .ref p0)] := hl
  rw [← hHe]
  refine namedW (fun R Qz hR hQz => ?_)
  have key0 := blocks (fun n => ∀ (I0 : Nat → Nat → Int32) (H : Heap) (lo : List Loc) (ls : Array Slot), (401 - (I0 p0 2).toInt).toNat = n → Iv L K x0 m0 tx tm I0 → I0 p0 1 = I p0 1 → I0 p0 4 = I p0 4 → (∀ b, ¬ (b = p0) → I0 b = I b) → ((I p0 2).toInt ≤ (I0 p0 2).toInt ∧ (I0 p0 1 = I p0 1 ∧ I0 p0 5 = I p0 5) ∧ ∀ k, (I p0 2).toInt ≤ k → k < (I0 p0 2).toInt → pB ((tb tx.2.2 (I p0 1).toInt) k) = true) → va_P (dC, dI) vwCl (Wd cs L K I0 J Q) H → va_S A s.heap H lo → lv_has ls 1 [(0, .ref p0)] → W p l e R s m (([.ref p0] : List Value).toArray) below meth c H lo 0 0 Qz (F0 m 0 ls [])) (by
    intro n ih0
    intro I0 H lo ls hmu0 hI0 kp0_1_I0 kp0_4_I0 fr_I0 hs hP hS hl
    have bI2 := oI_4_2 (Iv_at hI hLp0 hKp0)
    refine lv_aload_n hx hb dX4_skipBlanks_0 rfl (lv_at hl 0 rfl) ?_
    refine p_get hx hb hts inX4 hown hK hP hLp0 hKp0 rfl rfl 2 (by decide) (hts _ pq249) rfl dX4_skipBlanks_1 ?_
    refine lv_topi (fun z1 ez1 => ?_)
    have cgz1 := congrArg Int32.toInt ez1
    have bz1 := oI_4_2 (Iv_at hI0 hLp0 hKp0)
    rw [← ez1] at bz1
    refine lv_aload_n hx hb dX4_skipBlanks_4 rfl (lv_at hl 0 rfl) ?_
    refine p_get hx hb hts inX4 hown hK hP hLp0 hKp0 rfl rfl 1 (by decide) (hts _ pq248) rfl dX4_skipBlanks_5 ?_
    refine lv_topi (fun z5 ez5 => ?_)
    have bz5 := oI_4_1 (Iv_at hI0 hLp0 hKp0)
    rw [← ez5] at bz5
    refine lv_icmp_ge (tgt := 38) hx hb dX4_skipBlanks_8 (by decide) (fun c8 => ?_) (fun c8 => ?_)
    · have t8 := tq_le (k := z5.toInt) (q := z1.toInt) c8 rfl rfl
      subst hR; subst hQz
      exact W.vret hx hb hr (fun t ht hW => ⟨⟨(), rfl, trivial, ⟨I0, J, ⟨hI0, fr_I0, kp0_1_I0, kp0_4_I0, ⟨rn_out (by decide) hs.1 (by omega) hs.2.2 (by rw [← hs.2.1.1, ← ez5, ← ez1]; omega), hs.2.1.1, hs.2.1.2⟩, dj_J⟩, by rw [ht]; exact hP⟩⟩, hS.F ht⟩) hS.2.2 dX4_skipBlanks_38
    · have t8 := tq_nle (k := z5.toInt) (q := z1.toInt) c8 rfl rfl
      refine lv_aload_n hx hb dX4_skipBlanks_11 rfl (lv_at hl 0 rfl) ?_
      obtain ⟨y12, ey12, hLy12, hKy12⟩ := oQ_4_0 (Sv_at hQ hLp0 hKp0)
      refine p_get (v := .ref y12) hx hb hts inX4 hown hK hP hLp0 hKp0 rfl rfl 0 (by decide) (hts _ pq247) (congrArg (fun q => some (va_rf q)) ey12) dX4_skipBlanks_12 ?_
      refine lv_aload_n hx hb dX4_skipBlanks_15 rfl (lv_at hl 0 rfl) ?_
      refine p_get hx hb hts inX4 hown hK hP hLp0 hKp0 rfl rfl 2 (by decide) (hts _ pq249) rfl dX4_skipBlanks_16 ?_
      refine lv_topi (fun z16 ez16 => ?_)
      obtain rfl : z1 = z16 := ez1.trans ez16.symm
      refine p_bald hx hb hK hP 0 hLy12 hKy12 rfl rfl (in_of (by omega) (by omega)) dX4_skipBlanks_19 ?_
      refine lv_topi (fun z19 ez19 => ?_)
      have tz19 : z19 = tx.2.2 (z1).toInt.toNat := ez19.trans (congrFun (hI0.2.2.2.2.2.1 y12 hLy12 hKy12).2.1 _)
      refine lv_bipush (v := 32) hx hb dX4_skipBlanks_20 (by decide +kernel) ?_
      refine lv_icmp_ne (tgt := 38) hx hb dX4_skipBlanks_22 (by decide) (fun c22 => ?_) (fun c22 => ?_)
      · have t22 := tq_ne (k := z19.toInt) (q := (32)) c22 rfl (by decide +kernel)
        subst hR; subst hQz
        exact W.vret hx hb hr (fun t ht hW => ⟨⟨(), rfl, trivial, ⟨I0, J, ⟨hI0, fr_I0, kp0_1_I0, kp0_4_I0, ⟨rn_hit hs.1 (by omega) hs.2.2 (by omega) (by rw [← hs.2.1.1, ← ez5, ← ez1]; omega) (by rw [← ez1]; exact tz19) (decide_eq_false t22), hs.2.1.1, hs.2.1.2⟩, dj_J⟩, by rw [ht]; exact hP⟩⟩, hS.F ht⟩) hS.2.2 dX4_skipBlanks_38
      · have t22 := tq_eq (k := z19.toInt) (q := (32)) c22 rfl (by decide +kernel)
        refine lv_aload_n hx hb dX4_skipBlanks_25 rfl (lv_at hl 0 rfl) ?_
        refine lv_dup hx hb dX4_skipBlanks_26 rfl ?_
        refine p_get hx hb hts inX4 hown hK hP hLp0 hKp0 rfl rfl 2 (by decide) (hts _ pq249) rfl dX4_skipBlanks_27 ?_
        refine lv_topi (fun z27 ez27 => ?_)
        obtain rfl : z1 = z27 := ez1.trans ez27.symm
        refine lv_iconst (v := 1) hx hb dX4_skipBlanks_30 (by decide +kernel) ?_
        refine lv_iadd hx hb dX4_skipBlanks_31 ?_
        refine lv_topi (fun z31 ez31 => ?_)
        have bz31 := tq_add (k := z1.toInt) (q := (1)) ez31 rfl (by decide +kernel) (by omega) (by omega)
        refine p_put hx hb hts inX4 tyX4 tyX4_ok nmX4 hown hK hP hD hS hLp0 hKp0 rfl rfl 2 (by decide) (hts _ pq249) rfl (by decide +kernel) (Nat.le_of_ble_eq_true rfl) (oS_4_2 cs _ _ _ _) dX4_skipBlanks_32 (fun H locs hP hS => ?_)
        obtain ⟨Iz32, hP, hIz32, qIz32⟩ : ∃ Iz32, va_P (dC, dI) vwCl (Wd cs L K Iz32 J Q) H ∧ Iv L K x0 m0 tx tm Iz32 ∧ Iz32 = va_up I0 p0 (upd (I0 p0) 2 z31) := ⟨_, hP, Iv_put hI0 hKp0 (oP_4_2 (Iv_at hI0 hLp0 hKp0) ⟨by omega, by omega⟩) (by decide) (by decide), rfl⟩
        have kp0_1_Iz32 : Iz32 p0 1 = I p0 1 := (congrFun (congrFun qIz32 p0) 1).trans ((rz_fr _ _ _ _ (by decide)).trans kp0_1_I0)
        have kp0_4_Iz32 : Iz32 p0 4 = I p0 4 := (congrFun (congrFun qIz32 p0) 4).trans ((rz_fr _ _ _ _ (by decide)).trans kp0_4_I0)
        have fr_Iz32 : ∀ b, ¬ (b = p0) → Iz32 b = I b := fun b q => (congrFun qIz32 b).trans ((va_up_ne _ _ (fun z => q z)).trans (fr_I0 b q))
        refine lv_goto (tgt := 0) hx hb dX4_skipBlanks_35 (by decide) ?_
        exact ih0 _ (by rw [qIz32, rz_at]; omega) Iz32 _ _ _ rfl hIz32 kp0_1_Iz32 kp0_4_Iz32 fr_Iz32 ⟨by rw [qIz32, rz_at]; omega, ⟨by rw [qIz32, rz_fr _ _ _ _ (by decide)]; exact hs.2.1.1, by rw [qIz32, rz_fr _ _ _ _ (by decide)]; exact hs.2.1.2⟩, rn_step hs.2.2 (by omega) (by rw [← hs.2.1.1, ← ez5, ← ez1]; omega) (by rw [← ez1]; exact tz19) (decide_eq_true t22) (by rw [qIz32, rz_at]; omega)⟩ hP hS (lv_sub hl [0] rfl))
  exact key0 _ I _ _ _ rfl hI kp0_1_I kp0_4_I fr_I ⟨Int.le_refl _, ⟨rfl, rfl⟩, rn_nil (Int.le_refl _)⟩ hP hS (lv_sub hl [0] rfl)

set_option maxHeartbeats 4000000 in
set_option maxRecDepth 100000 in
theorem s_X4_isAtEnd (l : Launch) (dC : Nat → ClassId) (dI : Nat → Nat → Nat) (cs : Nat → ClassId) (L : List Nat) (K G : Nat → Nat) (Q : Nat → Nat → Option Nat) (hQ : Sv L K G Q) (x0 m0 : Nat) (tx : GT) (tm : GT × Int) (sz : Nat) (I : Nat → Nat → Int32) (J : Nat → Nat → Int64) (hI : Iv L K x0 m0 tx tm I) (p0 : Nat) (hLp0 : p0 ∈ L) (hKp0 : K p0 = 4) : Met l yX4_isAtEnd (.code yX4_isAtEnd cX4_isAtEnd 1 (some .boolean) :: pw) ({ frames := 1, cells := 0, slots := 0, locals := 20 }) (sP (dC, dI) cs [.ref p0] sz L K I J Q) (va_Qi (fun (r : Int32) (u : Int32) => u = r ∧ ((0) ≤ r.toInt ∧ r.toInt ≤ 1)) (fun u t => sB (dC, dI) cs L K Q (fun I1 J1 => Iv L K x0 m0 tx tm I1 ∧ (∀ b, ¬ (b = p0) → I1 b = I b) ∧ (rdA I I1 p0 (sk (tb tx.2.2 (I p0 1).toInt) (I p0 2).toInt) ∧ (u.toInt = 1 → (tb tx.2.2 (I p0 1).toInt) (sk (tb tx.2.2 (I p0 1).toInt) (I p0 2).toInt) = -1000) ∧ (u.toInt = 0 → (sk (tb tx.2.2 (I p0 1).toInt) (I p0 2).toInt) < (I p0 1).toInt)) ∧ J1 = J) t) (fun q => q ∈ L ∨ sz ≤ q)) 0 0 (fun q => q ∈ L ∨ sz ≤ q) := by
  refine Met.ofW (cc := cX4_isAtEnd) (maxL := 1) (ret := (some .boolean)) (by decide +kernel) rfl ?_
  intro p e s m args below meth c s₁ B hml hv
  obtain ⟨rfl, hsz, hP, hK, hD0, hN⟩ := hv
  have hx := B.exec
  have hb := B.bytes
  have hr := B.returns
  have hts := fun w (h : w ∈ pw) => atoms_spec (ws := Cond.code yX4_isAtEnd cX4_isAtEnd 1 (some .boolean) :: pw) B.pre w (List.mem_cons_of_mem _ h)
  have hown : s.vm.findClass RX4 = some m.cls := findClass_of_methodNamed B.named
  have hlocks := B.notSynchronized
  subst hsz
  have hBB : 999 ≤ tm.2 ∧ tm.2 ≤ 6000000 := hI.2.2.2.2.1
  have dj_J : J = J := rfl
  have fr_I : ∀ b, ¬ (b = p0) → I b = I b := fun _ _ => rfl
  obtain ⟨A, hAe⟩ : ∃ A : Nat → Prop, A = (fun q => q ∈ L ∨ s.heap.size ≤ q) := ⟨_, rfl⟩
  rw [← hAe]
  have hAL : ∀ q, q ∈ L → A q := fun q h => by rw [hAe]; exact Or.inl h
  have hA : ∀ q, s.heap.size ≤ q → A q := fun q h => by rw [hAe]; exact Or.inr h
  have hD : ∀ F, va_D A (va_pl L F) := fun F => (hD0 F).weaken (fun k q hk _ => hAL _ (pl_mem hk))
  obtain ⟨H, hHe⟩ : ∃ H : Heap, H = s.heap := ⟨_, rfl⟩
  have hS : va_S A s.heap H [] := by rw [hHe]; exact va_S.rf
  rw [← hHe] at hP
  have hl := lv_entry ([.ref p0]) (n := 1) (Nat.le_of_ble_eq_true rfl)
  rw [lg_entry_eq]
  generalize (lg_sl ([.ref p0]) ++ List.replicate (1 - (lg_sl ([.ref p0])).length) Slot.unset).toArray = ls at hl ⊢
  have hl : lv_has ls 1 [(0, .ref p0)] := hl
  rw [← hHe]
  refine namedW (fun R Qz hR hQz => ?_)
  refine lv_aload_n hx hb dX4_isAtEnd_0 rfl (lv_at hl 0 rfl) ?_
  refine sw_v (Z := (fun I1 J1 => Iv L K x0 m0 tx tm I1 ∧ (∀ b, ¬ (b = p0) → I1 b = I b) ∧ I1 p0 1 = I p0 1 ∧ I1 p0 4 = I p0 4 ∧ rdA I I1 p0 (sk (tb tx.2.2 (I p0 1).toInt) (I p0 2).toInt) ∧ J1 = J)) (va_runV (As := []) (rest := []) ⟨hx, hb, hml, hown, hts⟩ (s_X4_skipBlanks l dC dI cs L K G Q hQ x0 m0 tx tm H.size I J hI p0 hLp0 hKp0) (cwV 0 hts (gV pq417 pq418 pq419 pq78 pq420) rfl rfl rfl (by decide +kernel) ⟨(by rw [hR]; exact (Nat.le_of_ble_eq_true rfl)), (by rw [hR]; exact (Nat.le_of_ble_eq_true rfl))⟩) (sP_V hP hD hK hN hLp0 hKp0 rfl rfl) rfl rfl hl.1 rfl (lv_room (Nat.le_of_ble_eq_true rfl)) dX4_isAtEnd_1 ⟨(by rw [hR]; exact (Nat.le_of_ble_eq_true rfl)), (by rw [hR]; exact (Nat.le_of_ble_eq_true rfl))⟩) hS hAL hA (fun Iz1 Jz1 H locs hz1 hIz1 hP hS => ?_)
  obtain ⟨hIz1, frc1, kc1_0_1, kc1_0_4, fz1, djc1⟩ := hIz1
  obtain rfl : J = Jz1 := djc1.symm
  have fr_Iz1 : ∀ b, ¬ (b = p0) → Iz1 b = I b := fun b q => (frc1 b (fun z => q (z))).trans (fr_I b q)
  refine lv_aload_n hx hb dX4_isAtEnd_4 rfl (lv_at hl 0 rfl) ?_
  refine p_get hx hb hts inX4 hown hK hP hLp0 hKp0 rfl rfl 2 (by decide) (hts _ pq249) rfl dX4_isAtEnd_5 ?_
  refine lv_topi (fun z5 ez5 => ?_)
  have cgz5 := congrArg Int32.toInt ez5
  have bz5 := oI_4_2 (Iv_at hIz1 hLp0 hKp0)
  rw [← ez5] at bz5
  refine lv_aload_n hx hb dX4_isAtEnd_8 rfl (lv_at hl 0 rfl) ?_
  refine p_get hx hb hts inX4 hown hK hP hLp0 hKp0 rfl rfl 1 (by decide) (hts _ pq248) rfl dX4_isAtEnd_9 ?_
  refine lv_topi (fun z9 ez9 => ?_)
  have bz9 := oI_4_1 (Iv_at hIz1 hLp0 hKp0)
  rw [← ez9] at bz9
  refine lv_icmp_lt (tgt := 19) hx hb dX4_isAtEnd_12 (by decide) (fun c12 => ?_) (fun c12 => ?_)
  · have t12 := tq_lt (k := z5.toInt) (q := z9.toInt) c12 rfl rfl
    refine lv_iconst (v := 0) hx hb dX4_isAtEnd_19 (by decide +kernel) ?_
    subst hR; subst hQz
    exact W.zret (v := 0) hx hb hr (by decide +kernel) (fun t ht hW => ⟨⟨0, 0, rfl, ⟨rfl, ⟨by decide +kernel, by decide +kernel⟩⟩, ⟨Iz1, J, ⟨hIz1, fr_Iz1, ⟨fz1, fun h => absurd h (by decide +kernel), fun _ => by rw [← fz1.1, ← fz1.2.1, ← ez5, ← ez9]; omega⟩, dj_J⟩, by rw [ht]; exact hP⟩⟩, hS.F ht⟩) hS.2.2 dX4_isAtEnd_20
  · have t12 := tq_nlt (k := z5.toInt) (q := z9.toInt) c12 rfl rfl
    refine lv_iconst (v := 1) hx hb dX4_isAtEnd_15 (by decide +kernel) ?_
    refine lv_goto (tgt := 20) hx hb dX4_isAtEnd_16 (by decide) ?_
    subst hR; subst hQz
    exact W.zret (v := 1) hx hb hr (by decide +kernel) (fun t ht hW => ⟨⟨1, 1, rfl, ⟨rfl, ⟨by decide +kernel, by decide +kernel⟩⟩, ⟨Iz1, J, ⟨hIz1, fr_Iz1, ⟨fz1, fun _ => tb_end (by rw [← fz1.1, ← fz1.2.1, ← ez5, ← ez9]; omega), fun h => absurd h (by decide +kernel)⟩, dj_J⟩, by rw [ht]; exact hP⟩⟩, hS.F ht⟩) hS.2.2 dX4_isAtEnd_20

set_option maxHeartbeats 4000000 in
set_option maxRecDepth 100000 in
theorem s_X4_takeSign (l : Launch) (dC : Nat → ClassId) (dI : Nat → Nat → Nat) (cs : Nat → ClassId) (L : List Nat) (K G : Nat → Nat) (Q : Nat → Nat → Option Nat) (hQ : Sv L K G Q) (x0 m0 : Nat) (tx : GT) (tm : GT × Int) (sz : Nat) (I : Nat → Nat → Int32) (J : Nat → Nat → Int64) (hI : Iv L K x0 m0 tx tm I) (p0 : Nat) (hLp0 : p0 ∈ L) (hKp0 : K p0 = 4) (p1 : Int32) (bp1 : (0) ≤ p1.toInt ∧ p1.toInt ≤ 65535) : Met l yX4_takeSign (.code yX4_takeSign cX4_takeSign 2 (some .boolean) :: pw) ({ frames := 1, cells := 0, slots := 0, locals := 20 }) (sP (dC, dI) cs [.ref p0, .int p1] sz L K I J Q) (va_Qi (fun (r : Int32) (u : Int32) => u = r ∧ ((0) ≤ r.toInt ∧ r.toInt ≤ 1)) (fun u t => sB (dC, dI) cs L K Q (fun I1 J1 => Iv L K x0 m0 tx tm I1 ∧ (∀ b, ¬ (b = p0) → I1 b = I b) ∧ (((tb tx.2.2 (I p0 1).toInt) (sk (tb tx.2.2 (I p0 1).toInt) (I p0 2).toInt) = p1.toInt → u.toInt = 1 ∧ rdA I I1 p0 ((sk (tb tx.2.2 (I p0 1).toInt) (I p0 2).toInt) + 1)) ∧ (¬ (tb tx.2.2 (I p0 1).toInt) (sk (tb tx.2.2 (I p0 1).toInt) (I p0 2).toInt) = p1.toInt → u.toInt = 0 ∧ rdA I I1 p0 (sk (tb tx.2.2 (I p0 1).toInt) (I p0 2).toInt))) ∧ J1 = J) t) (fun q => q ∈ L ∨ sz ≤ q)) 0 0 (fun q => q ∈ L ∨ sz ≤ q) := by
  refine Met.ofW (cc := cX4_takeSign) (maxL := 2) (ret := (some .boolean)) (by decide +kernel) rfl ?_
  intro p e s m args below meth c s₁ B hml hv
  obtain ⟨rfl, hsz, hP, hK, hD0, hN⟩ := hv
  have hx := B.exec
  have hb := B.bytes
  have hr := B.returns
  have hts := fun w (h : w ∈ pw) => atoms_spec (ws := Cond.code yX4_takeSign cX4_takeSign 2 (some .boolean) :: pw) B.pre w (List.mem_cons_of_mem _ h)
  have hown : s.vm.findClass RX4 = some m.cls := findClass_of_methodNamed B.named
  have hlocks := B.notSynchronized
  subst hsz
  have hBB : 999 ≤ tm.2 ∧ tm.2 ≤ 6000000 := hI.2.2.2.2.1
  have dj_J : J = J := rfl
  have fr_I : ∀ b, ¬ (b = p0) → I b = I b := fun _ _ => rfl
  obtain ⟨A, hAe⟩ : ∃ A : Nat → Prop, A = (fun q => q ∈ L ∨ s.heap.size ≤ q) := ⟨_, rfl⟩
  rw [← hAe]
  have hAL : ∀ q, q ∈ L → A q := fun q h => by rw [hAe]; exact Or.inl h
  have hA : ∀ q, s.heap.size ≤ q → A q := fun q h => by rw [hAe]; exact Or.inr h
  have hD : ∀ F, va_D A (va_pl L F) := fun F => (hD0 F).weaken (fun k q hk _ => hAL _ (pl_mem hk))
  obtain ⟨H, hHe⟩ : ∃ H : Heap, H = s.heap := ⟨_, rfl⟩
  have hS : va_S A s.heap H [] := by rw [hHe]; exact va_S.rf
  rw [← hHe] at hP
  have hl := lv_entry ([.ref p0, .int p1]) (n := 2) (Nat.le_of_ble_eq_true rfl)
  rw [lg_entry_eq]
  generalize (lg_sl ([.ref p0, .int p1]) ++ List.replicate (2 - (lg_sl ([.ref p0, .int p1])).length) Slot.unset).toArray = ls at hl ⊢
  have hl : lv_has ls 2 [(0, .ref p0), (1, .int p1)] := hl
  rw [← hHe]
  refine namedW (fun R Qz hR hQz => ?_)
  refine lv_aload_n hx hb dX4_takeSign_0 rfl (lv_at hl 0 rfl) ?_
  refine sw_v (Z := (fun I1 J1 => Iv L K x0 m0 tx tm I1 ∧ (∀ b, ¬ (b = p0) → I1 b = I b) ∧ I1 p0 1 = I p0 1 ∧ I1 p0 4 = I p0 4 ∧ rdA I I1 p0 (sk (tb tx.2.2 (I p0 1).toInt) (I p0 2).toInt) ∧ J1 = J)) (va_runV (As := []) (rest := []) ⟨hx, hb, hml, hown, hts⟩ (s_X4_skipBlanks l dC dI cs L K G Q hQ x0 m0 tx tm H.size I J hI p0 hLp0 hKp0) (cwV 0 hts (gV pq417 pq418 pq419 pq78 pq420) rfl rfl rfl (by decide +kernel) ⟨(by rw [hR]; exact (Nat.le_of_ble_eq_true rfl)), (by rw [hR]; exact (Nat.le_of_ble_eq_true rfl))⟩) (sP_V hP hD hK hN hLp0 hKp0 rfl rfl) rfl rfl hl.1 rfl (lv_room (Nat.le_of_ble_eq_true rfl)) dX4_takeSign_1 ⟨(by rw [hR]; exact (Nat.le_of_ble_eq_true rfl)), (by rw [hR]; exact (Nat.le_of_ble_eq_true rfl))⟩) hS hAL hA (fun Iz1 Jz1 H locs hz1 hIz1 hP hS => ?_)
  obtain ⟨hIz1, frc1, kc1_0_1, kc1_0_4, fz1, djc1⟩ := hIz1
  obtain rfl : J = Jz1 := djc1.symm
  have fr_Iz1 : ∀ b, ¬ (b = p0) → Iz1 b = I b := fun b q => (frc1 b (fun z => q (z))).trans (fr_I b q)
  refine lv_aload_n hx hb dX4_takeSign_4 rfl (lv_at hl 0 rfl) ?_
  refine p_get hx hb hts inX4 hown hK hP hLp0 hKp0 rfl rfl 2 (by decide) (hts _ pq249) rfl dX4_takeSign_5 ?_
  refine lv_topi (fun z5 ez5 => ?_)
  have cgz5 := congrArg Int32.toInt ez5
  have bz5 := oI_4_2 (Iv_at hIz1 hLp0 hKp0)
  rw [← ez5] at bz5
  refine lv_aload_n hx hb dX4_takeSign_8 rfl (lv_at hl 0 rfl) ?_
  refine p_get hx hb hts inX4 hown hK hP hLp0 hKp0 rfl rfl 1 (by decide) (hts _ pq248) rfl dX4_takeSign_9 ?_
  refine lv_topi (fun z9 ez9 => ?_)
  have bz9 := oI_4_1 (Iv_at hIz1 hLp0 hKp0)
  rw [← ez9] at bz9
  refine lv_icmp_ge (tgt := 28) hx hb dX4_takeSign_12 (by decide) (fun c12 => ?_) (fun c12 => ?_)
  · have t12 := tq_le (k := z9.toInt) (q := z5.toInt) c12 rfl rfl
    refine lv_iconst (v := 0) hx hb dX4_takeSign_28 (by decide +kernel) ?_
    subst hR; subst hQz
    exact W.zret (v := 0) hx hb hr (by decide +kernel) (fun t ht hW => ⟨⟨0, 0, rfl, ⟨rfl, ⟨by decide +kernel, by decide +kernel⟩⟩, ⟨Iz1, J, ⟨hIz1, fr_Iz1, ⟨fun h => by first | exact absurd ((tb_at (by rw [← fz1.1]; omega) (by rw [← fz1.1, ← fz1.2.1, ← ez9, ← ez5]; omega) (by rw [← fz1.1, ← cgz5]; exact tz23)).symm.trans h) t25 | exact absurd ((tb_end (by rw [← fz1.1, ← fz1.2.1, ← ez9, ← ez5]; omega)).symm.trans h) (by omega), fun _ => ⟨by decide +kernel, fz1⟩⟩, dj_J⟩, by rw [ht]; exact hP⟩⟩, hS.F ht⟩) hS.2.2 dX4_takeSign_29
  · have t12 := tq_nle (k := z9.toInt) (q := z5.toInt) c12 rfl rfl
    refine lv_aload_n hx hb dX4_takeSign_15 rfl (lv_at hl 0 rfl) ?_
    obtain ⟨y16, ey16, hLy16, hKy16⟩ := oQ_4_0 (Sv_at hQ hLp0 hKp0)
    refine p_get (v := .ref y16) hx hb hts inX4 hown hK hP hLp0 hKp0 rfl rfl 0 (by decide) (hts _ pq247) (congrArg (fun q => some (va_rf q)) ey16) dX4_takeSign_16 ?_
    refine lv_aload_n hx hb dX4_takeSign_19 rfl (lv_at hl 0 rfl) ?_
    refine p_get hx hb hts inX4 hown hK hP hLp0 hKp0 rfl rfl 2 (by decide) (hts _ pq249) rfl dX4_takeSign_20 ?_
    refine lv_topi (fun z20 ez20 => ?_)
    obtain rfl : z5 = z20 := ez5.trans ez20.symm
    refine p_bald hx hb hK hP 0 hLy16 hKy16 rfl rfl (in_of (by omega) (by omega)) dX4_takeSign_23 ?_
    refine lv_topi (fun z23 ez23 => ?_)
    have tz23 : z23 = tx.2.2 (z5).toInt.toNat := ez23.trans (congrFun (hIz1.2.2.2.2.2.1 y16 hLy16 hKy16).2.1 _)
    refine lv_iload_n hx hb dX4_takeSign_24 rfl (lv_at hl 1 rfl) ?_
    refine lv_icmp_eq (tgt := 30) hx hb dX4_takeSign_25 (by decide) (fun c25 => ?_) (fun c25 => ?_)
    · have t25 := tq_eq (k := z23.toInt) (q := p1.toInt) c25 rfl rfl
      refine lv_aload_n hx hb dX4_takeSign_30 rfl (lv_at hl 0 rfl) ?_
      refine lv_dup hx hb dX4_takeSign_31 rfl ?_
      refine p_get hx hb hts inX4 hown hK hP hLp0 hKp0 rfl rfl 2 (by decide) (hts _ pq249) rfl dX4_takeSign_32 ?_
      refine lv_topi (fun z32 ez32 => ?_)
      obtain rfl : z5 = z32 := ez5.trans ez32.symm
      refine lv_iconst (v := 1) hx hb dX4_takeSign_35 (by decide +kernel) ?_
      refine lv_iadd hx hb dX4_takeSign_36 ?_
      refine lv_topi (fun z36 ez36 => ?_)
      have bz36 := tq_add (k := z5.toInt) (q := (1)) ez36 rfl (by decide +kernel) (by omega) (by omega)
      refine p_put hx hb hts inX4 tyX4 tyX4_ok nmX4 hown hK hP hD hS hLp0 hKp0 rfl rfl 2 (by decide) (hts _ pq249) rfl (by decide +kernel) (Nat.le_of_ble_eq_true rfl) (oS_4_2 cs _ _ _ _) dX4_takeSign_37 (fun H locs hP hS => ?_)
      obtain ⟨Iz37, hP, hIz37, qIz37⟩ : ∃ Iz37, va_P (dC, dI) vwCl (Wd cs L K Iz37 J Q) H ∧ Iv L K x0 m0 tx tm Iz37 ∧ Iz37 = va_up Iz1 p0 (upd (Iz1 p0) 2 z36) := ⟨_, hP, Iv_put hIz1 hKp0 (oP_4_2 (Iv_at hIz1 hLp0 hKp0) ⟨by omega, by omega⟩) (by decide) (by decide), rfl⟩
      have fr_Iz37 : ∀ b, ¬ (b = p0) → Iz37 b = I b := fun b q => (congrFun qIz37 b).trans ((va_up_ne _ _ (fun z => q z)).trans (fr_Iz1 b q))
      refine lv_iconst (v := 1) hx hb dX4_takeSign_40 (by decide +kernel) ?_
      subst hR; subst hQz
      exact W.zret (v := 1) hx hb hr (by decide +kernel) (fun t ht hW => ⟨⟨1, 1, rfl, ⟨rfl, ⟨by decide +kernel, by decide +kernel⟩⟩, ⟨Iz37, J, ⟨hIz37, fr_Iz37, ⟨fun _ => ⟨by decide +kernel, by rw [qIz37, rz_at, bz36, cgz5, fz1.1], by rw [qIz37, rz_fr _ _ _ _ (by decide)]; exact fz1.2.1, by rw [qIz37, rz_fr _ _ _ _ (by decide)]; exact fz1.2.2⟩, fun h => absurd ((tb_at (by rw [← fz1.1]; omega) (by rw [← fz1.1, ← fz1.2.1, ← ez9, ← ez5]; omega) (by rw [← fz1.1, ← cgz5]; exact tz23)).trans t25) h⟩, dj_J⟩, by rw [ht]; exact hP⟩⟩, hS.F ht⟩) hS.2.2 dX4_takeSign_41
    · have t25 := tq_ne (k := z23.toInt) (q := p1.toInt) c25 rfl rfl
      refine lv_iconst (v := 0) hx hb dX4_takeSign_28 (by decide +kernel) ?_
      subst hR; subst hQz
      exact W.zret (v := 0) hx hb hr (by decide +kernel) (fun t ht hW => ⟨⟨0, 0, rfl, ⟨rfl, ⟨by decide +kernel, by decide +kernel⟩⟩, ⟨Iz1, J, ⟨hIz1, fr_Iz1, ⟨fun h => by first | exact absurd ((tb_at (by rw [← fz1.1]; omega) (by rw [← fz1.1, ← fz1.2.1, ← ez9, ← ez5]; omega) (by rw [← fz1.1, ← cgz5]; exact tz23)).symm.trans h) t25 | exact absurd ((tb_end (by rw [← fz1.1, ← fz1.2.1, ← ez9, ← ez5]; omega)).symm.trans h) (by omega), fun _ => ⟨by decide +kernel, fz1⟩⟩, dj_J⟩, by rw [ht]; exact hP⟩⟩, hS.F ht⟩) hS.2.2 dX4_takeSign_29

set_option maxHeartbeats 4000000 in
set_option maxRecDepth 100000 in
theorem s_X4_signsAhead (l : Launch) (dC : Nat → ClassId) (dI : Nat → Nat → Nat) (cs : Nat → ClassId) (L : List Nat) (K G : Nat → Nat) (Q : Nat → Nat → Option Nat) (hQ : Sv L K G Q) (x0 m0 : Nat) (tx : GT) (tm : GT × Int) (sz : Nat) (I : Nat → Nat → Int32) (J : Nat → Nat → Int64) (hI : Iv L K x0 m0 tx tm I) (p0 : Nat) (hLp0 : p0 ∈ L) (hKp0 : K p0 = 4) : Met l yX4_signsAhead (.code yX4_signsAhead cX4_signsAhead 2 (some .int) :: pw) ({ frames := 0, cells := 0, slots := 0, locals := 0 }) (sP (dC, dI) cs [.ref p0] sz L K I J Q) (va_Qi (fun (r : Int32) (_ : Unit) => ((0) ≤ r.toInt ∧ r.toInt ≤ 400) ∧ (r.toInt = sr (tb tx.2.2 (I p0 1).toInt) (I p0 2).toInt - (I p0 2).toInt ∧ sr (tb tx.2.2 (I p0 1).toInt) (I p0 2).toInt ≤ 400)) (fun _ _ => True) (fun _ => False)) 0 0 (fun _ => False) := by
  refine Met.ofW (cc := cX4_signsAhead) (maxL := 2) (ret := (some .int)) (by decide +kernel) rfl ?_
  intro p e s m args below meth c s₁ B hml hv
  obtain ⟨rfl, hsz, hP, hK, hD0, hN⟩ := hv
  have hx := B.exec
  have hb := B.bytes
  have hr := B.returns
  have hts := fun w (h : w ∈ pw) => atoms_spec (ws := Cond.code yX4_signsAhead cX4_signsAhead 2 (some .int) :: pw) B.pre w (List.mem_cons_of_mem _ h)
  have hown : s.vm.findClass RX4 = some m.cls := findClass_of_methodNamed B.named
  have hlocks := B.notSynchronized
  subst hsz
  have hBB : 999 ≤ tm.2 ∧ tm.2 ≤ 6000000 := hI.2.2.2.2.1
  have hD := hD0
  obtain ⟨H, hHe⟩ : ∃ H : Heap, H = s.heap := ⟨_, rfl⟩
  have hS : va_S (fun _ => False) s.heap H [] := by rw [hHe]; exact va_S.rf
  rw [← hHe] at hP
  have hl := lv_entry ([.ref p0]) (n := 2) (Nat.le_of_ble_eq_true rfl)
  rw [lg_entry_eq]
  generalize (lg_sl ([.ref p0]) ++ List.replicate (2 - (lg_sl ([.ref p0])).length) Slot.unset).toArray = ls at hl ⊢
  have hl : lv_has ls 2 [(0, .ref p0)] := hl
  rw [← hHe]
  refine namedW (fun R Qz hR hQz => ?_)
  refine lv_aload_n hx hb dX4_signsAhead_0 rfl (lv_at hl 0 rfl) ?_
  refine p_get hx hb hts inX4 hown hK hP hLp0 hKp0 rfl rfl 2 (by decide) (hts _ pq249) rfl dX4_signsAhead_1 ?_
  refine lv_topi (fun z1 ez1 => ?_)
  have cgz1 := congrArg Int32.toInt ez1
  have bz1 := oI_4_2 (Iv_at hI hLp0 hKp0)
  rw [← ez1] at bz1
  refine lv_istore_n (lv' := [(1, .int z1), (0, .ref p0)]) hx hb dX4_signsAhead_4 rfl hl (by decide) rfl (fun ls hl => ?_)
  have key5 := blocks (fun n => ∀ (v5_1 : Int32) (H : Heap) (lo : List Loc) (ls : Array Slot), (401 - v5_1.toInt).toNat = n → ((0) ≤ v5_1.toInt ∧ v5_1.toInt ≤ 400) → z1.toInt ≤ v5_1.toInt → (∀ k, (I p0 2).toInt ≤ k → k < v5_1.toInt → pS ((tb tx.2.2 (I p0 1).toInt) k) = true) → va_P (dC, dI) vwCl (Wd cs L K I J Q) H → va_S (fun _ => False) s.heap H lo → lv_has ls 2 [(0, .ref p0), (1, .int v5_1)] → W p l e R s m (([.ref p0] : List Value).toArray) below meth c H lo 0 0 Qz (F0 m 5 ls [])) (by
    intro n ih5
    intro v5_1 H lo ls hmu5 bv5_1 hs hu hP hS hl
    refine lv_iload_n hx hb dX4_signsAhead_5 rfl (lv_at hl 1 rfl) ?_
    refine lv_aload_n hx hb dX4_signsAhead_6 rfl (lv_at hl 0 rfl) ?_
    refine p_get hx hb hts inX4 hown hK hP hLp0 hKp0 rfl rfl 1 (by decide) (hts _ pq248) rfl dX4_signsAhead_7 ?_
    refine lv_topi (fun z7 ez7 => ?_)
    have bz7 := oI_4_1 (Iv_at hI hLp0 hKp0)
    rw [← ez7] at bz7
    refine lv_icmp_ge (tgt := 41) hx hb dX4_signsAhead_10 (by decide) (fun c10 => ?_) (fun c10 => ?_)
    · have t10 := tq_le (k := z7.toInt) (q := v5_1.toInt) c10 rfl rfl
      refine lv_iload_n hx hb dX4_signsAhead_41 rfl (lv_at hl 1 rfl) ?_
      refine lv_aload_n hx hb dX4_signsAhead_42 rfl (lv_at hl 0 rfl) ?_
      refine p_get hx hb hts inX4 hown hK hP hLp0 hKp0 rfl rfl 2 (by decide) (hts _ pq249) rfl dX4_signsAhead_43 ?_
      refine lv_topi (fun z43 ez43 => ?_)
      obtain rfl : z1 = z43 := ez1.trans ez43.symm
      refine lv_isub hx hb dX4_signsAhead_46 ?_
      refine lv_topi (fun z46 ez46 => ?_)
      have bz46 := tq_sub (k := v5_1.toInt) (q := z1.toInt) ez46 rfl rfl (by omega) (by omega)
      subst hR; subst hQz
      exact W.iret (v := z46) hx hb hr (fun t ht hW => ⟨⟨z46, (), rfl, ⟨⟨by omega, by omega⟩, (by have e : v5_1.toInt = sr (tb tx.2.2 (I p0 1).toInt) (I p0 2).toInt := (by first | exact rn_out (by decide) (by omega) (by omega) hu (by rw [← ez7]; omega) | exact rn_hit (by omega) (by omega) hu (by omega) (by rw [← ez7]; omega) tz18 (decide_eq_false (fun h => h.elim t21 t32))); have e1 := cgz1; exact ⟨by omega, by omega⟩)⟩, trivial⟩, hS.F ht⟩) hS.2.2 dX4_signsAhead_47
    · have t10 := tq_nle (k := z7.toInt) (q := v5_1.toInt) c10 rfl rfl
      refine lv_aload_n hx hb dX4_signsAhead_13 rfl (lv_at hl 0 rfl) ?_
      obtain ⟨y14, ey14, hLy14, hKy14⟩ := oQ_4_0 (Sv_at hQ hLp0 hKp0)
      refine p_get (v := .ref y14) hx hb hts inX4 hown hK hP hLp0 hKp0 rfl rfl 0 (by decide) (hts _ pq247) (congrArg (fun q => some (va_rf q)) ey14) dX4_signsAhead_14 ?_
      refine lv_iload_n hx hb dX4_signsAhead_17 rfl (lv_at hl 1 rfl) ?_
      refine p_bald hx hb hK hP 0 hLy14 hKy14 rfl rfl (in_of (by omega) (by omega)) dX4_signsAhead_18 ?_
      refine lv_topi (fun z18 ez18 => ?_)
      have tz18 : z18 = tx.2.2 (v5_1).toInt.toNat := ez18.trans (congrFun (hI.2.2.2.2.2.1 y14 hLy14 hKy14).2.1 _)
      refine lv_bipush (v := 35) hx hb dX4_signsAhead_19 (by decide +kernel) ?_
      have j35 : ∀ (H : Heap) (lo : List Loc) (ls : Array Slot), (z18.toInt = 35 ∨ z18.toInt = 46) → va_P (dC, dI) vwCl (Wd cs L K I J Q) H → va_S (fun _ => False) s.heap H lo → lv_has ls 2 [(0, .ref p0), (1, .int v5_1)] → W p l e R s m (([.ref p0] : List Value).toArray) below meth c H lo 0 0 Qz (F0 m 35 ls []) := by
        intro H lo ls h35 hP hS hl
        obtain ⟨z35, ez35⟩ : ∃ y : Int32, y = v5_1 + 1 := ⟨_, rfl⟩
        refine lv_iinc (v := z35) (lv' := [(1, .int z35), (0, .ref p0)]) hx hb dX4_signsAhead_35 hl (k := 1) rfl (by rw [ez35]; rfl) (by decide) rfl (fun ls hl => ?_)
        have bz35 := tq_add (k := v5_1.toInt) (q := 1) ez35 rfl (by decide +kernel) (by omega) (by omega)
        refine lv_goto (tgt := 5) hx hb dX4_signsAhead_38 (by decide) ?_
        exact ih5 _ (by omega) z35 _ _ _ rfl ⟨by omega, by omega⟩ (by omega) (rn_step hu (by omega) (by rw [← ez7]; omega) tz18 (decide_eq_true h35) (by omega)) hP hS (lv_sub hl [1, 0] rfl)
      refine lv_icmp_eq (tgt := 35) hx hb dX4_signsAhead_21 (by decide) (fun c21 => ?_) (fun c21 => ?_)
      · have t21 := tq_eq (k := z18.toInt) (q := (35)) c21 rfl (by decide +kernel)
        exact j35  _ _ _ (Or.inl t21) hP hS (lv_sub hl [0, 1] rfl)
      · have t21 := tq_ne (k := z18.toInt) (q := (35)) c21 rfl (by decide +kernel)
        refine lv_aload_n hx hb dX4_signsAhead_24 rfl (lv_at hl 0 rfl) ?_
        refine p_get (v := .ref y14) hx hb hts inX4 hown hK hP hLp0 hKp0 rfl rfl 0 (by decide) (hts _ pq247) (congrArg (fun q => some (va_rf q)) ey14) dX4_signsAhead_25 ?_
        refine lv_iload_n hx hb dX4_signsAhead_28 rfl (lv_at hl 1 rfl) ?_
        refine p_bald hx hb hK hP 0 hLy14 hKy14 rfl rfl (in_of (by omega) (by omega)) dX4_signsAhead_29 ?_
        refine lv_topi (fun z29 ez29 => ?_)
        obtain rfl : z18 = z29 := ez18.trans ez29.symm
        refine lv_bipush (v := 46) hx hb dX4_signsAhead_30 (by decide +kernel) ?_
        refine lv_icmp_ne (tgt := 41) hx hb dX4_signsAhead_32 (by decide) (fun c32 => ?_) (fun c32 => ?_)
        · have t32 := tq_ne (k := z18.toInt) (q := (46)) c32 rfl (by decide +kernel)
          refine lv_iload_n hx hb dX4_signsAhead_41 rfl (lv_at hl 1 rfl) ?_
          refine lv_aload_n hx hb dX4_signsAhead_42 rfl (lv_at hl 0 rfl) ?_
          refine p_get hx hb hts inX4 hown hK hP hLp0 hKp0 rfl rfl 2 (by decide) (hts _ pq249) rfl dX4_signsAhead_43 ?_
          refine lv_topi (fun z43 ez43 => ?_)
          obtain rfl : z1 = z43 := ez1.trans ez43.symm
          refine lv_isub hx hb dX4_signsAhead_46 ?_
          refine lv_topi (fun z46 ez46 => ?_)
          have bz46 := tq_sub (k := v5_1.toInt) (q := z1.toInt) ez46 rfl rfl (by omega) (by omega)
          subst hR; subst hQz
          exact W.iret (v := z46) hx hb hr (fun t ht hW => ⟨⟨z46, (), rfl, ⟨⟨by omega, by omega⟩, (by have e : v5_1.toInt = sr (tb tx.2.2 (I p0 1).toInt) (I p0 2).toInt := (by first | exact rn_out (by decide) (by omega) (by omega) hu (by rw [← ez7]; omega) | exact rn_hit (by omega) (by omega) hu (by omega) (by rw [← ez7]; omega) tz18 (decide_eq_false (fun h => h.elim t21 t32))); have e1 := cgz1; exact ⟨by omega, by omega⟩)⟩, trivial⟩, hS.F ht⟩) hS.2.2 dX4_signsAhead_47
        · have t32 := tq_eq (k := z18.toInt) (q := (46)) c32 rfl (by decide +kernel)
          exact j35  _ _ _ (Or.inr t32) hP hS (lv_sub hl [0, 1] rfl))
  exact key5 _ z1 _ _ _ rfl ⟨by omega, by omega⟩ (by omega) (rn_nil (by omega)) hP hS (lv_sub hl [1, 0] rfl)

set_option maxHeartbeats 4000000 in
set_option maxRecDepth 100000 in
theorem s_X4_takeRow (l : Launch) (dC : Nat → ClassId) (dI : Nat → Nat → Nat) (cs : Nat → ClassId) (L : List Nat) (K G : Nat → Nat) (Q : Nat → Nat → Option Nat) (hQ : Sv L K G Q) (x0 m0 : Nat) (tx : GT) (tm : GT × Int) (sz : Nat) (I : Nat → Nat → Int32) (J : Nat → Nat → Int64) (hI : Iv L K x0 m0 tx tm I) (p0 : Nat) (hLp0 : p0 ∈ L) (hKp0 : K p0 = 4) (p1 : Nat) (hLp1 : p1 ∈ L) (hKp1 : K p1 = 3) (p2 : Int32) (p3 : Int32) (bp3 : (0) ≤ p3.toInt ∧ p3.toInt ≤ 1000) : Met l yX4_takeRow (.code yX4_takeRow cX4_takeRow 5 none :: pw) ({ frames := 2, cells := 0, slots := 0, locals := 44 }) (sP (dC, dI) cs [.ref p0, .ref p1, .int p2, .int p3] sz L K I J Q) (va_Qv (fun (_ : Unit) => True) (fun _ t => sB (dC, dI) cs L K Q (fun I1 J1 => Iv L K x0 m0 tx tm I1 ∧ (∀ b, ¬ (b = p0) → I1 b = I b) ∧ ((I p0 2).toInt + p3.toInt ≤ (I p0 1).toInt → rdA I I1 p0 ((I p0 2).toInt + p3.toInt)) ∧ (∀ D : Int → Int → Bool, (I p0 2).toInt + p3.toInt ≤ (I p0 1).toInt → (p3.toInt ≤ (I p1 0).toInt ∧ 0 ≤ p2.toInt ∧ p2.toInt < (I p1 1).toInt) → (∀ x : Int, 0 ≤ x → x < p3.toInt → D x p2.toInt = decide ((tb tx.2.2 (I p0 1).toInt) ((I p0 2).toInt + x) = 35)) → rowI D (J (wo Q p1)) p2.toInt 0 → rowI D (J1 (wo Q p1)) p2.toInt p3.toInt) ∧ (∀ b, ¬ (K b = 12 ∧ (G b = G p1)) → J1 b = J b)) t) (fun q => q ∈ L ∨ sz ≤ q)) 0 0 (fun q => q ∈ L ∨ sz ≤ q) := by
  refine Met.ofW (cc := cX4_takeRow) (maxL := 5) (ret := none) (by decide +kernel) rfl ?_
  intro p e s m args below meth c s₁ B hml hv
  obtain ⟨rfl, hsz, hP, hK, hD0, hN⟩ := hv
  have hx := B.exec
  have hb := B.bytes
  have hr := B.returns
  have hts := fun w (h : w ∈ pw) => atoms_spec (ws := Cond.code yX4_takeRow cX4_takeRow 5 none :: pw) B.pre w (List.mem_cons_of_mem _ h)
  have hown : s.vm.findClass RX4 = some m.cls := findClass_of_methodNamed B.named
  have hlocks := B.notSynchronized
  subst hsz
  have hBB : 999 ≤ tm.2 ∧ tm.2 ≤ 6000000 := hI.2.2.2.2.1
  have dj_J : (∀ b, ¬ (K b = 12 ∧ (G b = G p1)) → J b = J b) := fun _ _ => rfl
  have fr_I : ∀ b, ¬ (b = p0) → I b = I b := fun _ _ => rfl
  obtain ⟨A, hAe⟩ : ∃ A : Nat → Prop, A = (fun q => q ∈ L ∨ s.heap.size ≤ q) := ⟨_, rfl⟩
  rw [← hAe]
  have hAL : ∀ q, q ∈ L → A q := fun q h => by rw [hAe]; exact Or.inl h
  have hA : ∀ q, s.heap.size ≤ q → A q := fun q h => by rw [hAe]; exact Or.inr h
  have hD : ∀ F, va_D A (va_pl L F) := fun F => (hD0 F).weaken (fun k q hk _ => hAL _ (pl_mem hk))
  obtain ⟨H, hHe⟩ : ∃ H : Heap, H = s.heap := ⟨_, rfl⟩
  have hS : va_S A s.heap H [] := by rw [hHe]; exact va_S.rf
  rw [← hHe] at hP
  have hl := lv_entry ([.ref p0, .ref p1, .int p2, .int p3]) (n := 5) (Nat.le_of_ble_eq_true rfl)
  rw [lg_entry_eq]
  generalize (lg_sl ([.ref p0, .ref p1, .int p2, .int p3]) ++ List.replicate (5 - (lg_sl ([.ref p0, .ref p1, .int p2, .int p3])).length) Slot.unset).toArray = ls at hl ⊢
  have hl : lv_has ls 5 [(0, .ref p0), (1, .ref p1), (2, .int p2), (3, .int p3)] := hl
  rw [← hHe]
  refine namedW (fun R Qz hR hQz => ?_)
  refine lv_iconst (v := 0) hx hb dX4_takeRow_0 (by decide +kernel) ?_
  refine lv_istore (lv' := [(4, .int 0), (0, .ref p0), (1, .ref p1), (2, .int p2), (3, .int p3)]) hx hb dX4_takeRow_1 hl (by decide) rfl (fun ls hl => ?_)
  have key3 := blocks (fun n => ∀ (v3_4 : Int32) (I3 : Nat → Nat → Int32) (J3 : Nat → Nat → Int64) (H : Heap) (lo : List Loc) (ls : Array Slot), (1001 - v3_4.toInt).toNat = n → ((0) ≤ v3_4.toInt ∧ v3_4.toInt ≤ 1000) → Iv L K x0 m0 tx tm I3 → (∀ b, ¬ (b = p0) → I3 b = I b) → (∀ b, ¬ (K b = 12 ∧ (G b = G p1)) → J3 b = J b) → (∀ D : Int → Int → Bool, (I p0 2).toInt + p3.toInt ≤ (I p0 1).toInt → (p3.toInt ≤ (I p1 0).toInt ∧ 0 ≤ p2.toInt ∧ p2.toInt < (I p1 1).toInt) → (∀ x : Int, 0 ≤ x → x < p3.toInt → D x p2.toInt = decide ((tb tx.2.2 (I p0 1).toInt) ((I p0 2).toInt + x) = 35)) → rowI D (J (wo Q p1)) p2.toInt 0 → rowI D (J3 (wo Q p1)) p2.toInt v3_4.toInt) → (((I p0 2).toInt + p3.toInt ≤ (I p0 1).toInt → (I3 p0 2).toInt = (I p0 2).toInt + v3_4.toInt) ∧ I3 p0 1 = I p0 1 ∧ I3 p0 5 = I p0 5) → v3_4.toInt ≤ p3.toInt → va_P (dC, dI) vwCl (Wd cs L K I3 J3 Q) H → va_S A s.heap H lo → lv_has ls 5 [(0, .ref p0), (1, .ref p1), (2, .int p2), (3, .int p3), (4, .int v3_4)] → W p l e R s m (([.ref p0, .ref p1, .int p2, .int p3] : List Value).toArray) below meth c H lo 0 0 Qz (F0 m 3 ls [])) (by
    intro n ih3
    intro v3_4 I3 J3 H lo ls hmu3 bv3_4 hI3 fr_I3 dj_J3 h3 hu hu2 hP hS hl
    refine lv_iload hx hb dX4_takeRow_3 (lv_at hl 4 rfl) ?_
    refine lv_iload_n hx hb dX4_takeRow_5 rfl (lv_at hl 3 rfl) ?_
    refine lv_icmp_ge (tgt := 57) hx hb dX4_takeRow_6 (by decide) (fun c6 => ?_) (fun c6 => ?_)
    · have t6 := tq_le (k := p3.toInt) (q := v3_4.toInt) c6 rfl rfl
      subst hR; subst hQz
      exact W.vret hx hb hr (fun t ht hW => ⟨⟨(), rfl, trivial, ⟨I3, J3, ⟨hI3, fr_I3, (fun h => ⟨by have := hu.1 h; omega, hu.2⟩), (fun D a b c h => ri_eq (h3 D a b c h) rfl rfl (by omega)), dj_J3⟩, by rw [ht]; exact hP⟩⟩, hS.F ht⟩) hS.2.2 dX4_takeRow_57
    · have t6 := tq_nle (k := p3.toInt) (q := v3_4.toInt) c6 rfl rfl
      refine lv_aload_n hx hb dX4_takeRow_9 rfl (lv_at hl 0 rfl) ?_
      refine p_get hx hb hts inX4 hown hK hP hLp0 hKp0 rfl rfl 2 (by decide) (hts _ pq249) rfl dX4_takeRow_10 ?_
      refine lv_topi (fun z10 ez10 => ?_)
      have cgz10 := congrArg Int32.toInt ez10
      have bz10 := oI_4_2 (Iv_at hI3 hLp0 hKp0)
      rw [← ez10] at bz10
      refine lv_aload_n hx hb dX4_takeRow_13 rfl (lv_at hl 0 rfl) ?_
      refine p_get hx hb hts inX4 hown hK hP hLp0 hKp0 rfl rfl 1 (by decide) (hts _ pq248) rfl dX4_takeRow_14 ?_
      refine lv_topi (fun z14 ez14 => ?_)
      have bz14 := oI_4_1 (Iv_at hI3 hLp0 hKp0)
      rw [← ez14] at bz14
      refine lv_icmp_ge (tgt := 57) hx hb dX4_takeRow_17 (by decide) (fun c17 => ?_) (fun c17 => ?_)
      · have t17 := tq_le (k := z14.toInt) (q := z10.toInt) c17 rfl rfl
        subst hR; subst hQz
        exact W.vret hx hb hr (fun t ht hW => ⟨⟨(), rfl, trivial, ⟨I3, J3, ⟨hI3, fr_I3, (fun h => ⟨by have := hu.1 h; have := congrArg Int32.toInt hu.2.1; rw [← ez14] at this; omega, hu.2⟩), (fun D a b c h => by have e := hu.1 a; have e3 := congrArg Int32.toInt (ez14.trans hu.2.1); omega), dj_J3⟩, by rw [ht]; exact hP⟩⟩, hS.F ht⟩) hS.2.2 dX4_takeRow_57
      · have t17 := tq_nle (k := z14.toInt) (q := z10.toInt) c17 rfl rfl
        refine lv_aload_n hx hb dX4_takeRow_20 rfl (lv_at hl 0 rfl) ?_
        obtain ⟨y21, ey21, hLy21, hKy21⟩ := oQ_4_0 (Sv_at hQ hLp0 hKp0)
        refine p_get (v := .ref y21) hx hb hts inX4 hown hK hP hLp0 hKp0 rfl rfl 0 (by decide) (hts _ pq247) (congrArg (fun q => some (va_rf q)) ey21) dX4_takeRow_21 ?_
        refine lv_aload_n hx hb dX4_takeRow_24 rfl (lv_at hl 0 rfl) ?_
        refine p_get hx hb hts inX4 hown hK hP hLp0 hKp0 rfl rfl 2 (by decide) (hts _ pq249) rfl dX4_takeRow_25 ?_
        refine lv_topi (fun z25 ez25 => ?_)
        obtain rfl : z10 = z25 := ez10.trans ez25.symm
        refine p_bald hx hb hK hP 0 hLy21 hKy21 rfl rfl (in_of (by omega) (by omega)) dX4_takeRow_28 ?_
        refine lv_topi (fun z28 ez28 => ?_)
        have tz28 : z28 = tx.2.2 (z10).toInt.toNat := ez28.trans (congrFun (hI3.2.2.2.2.2.1 y21 hLy21 hKy21).2.1 _)
        refine lv_bipush (v := 35) hx hb dX4_takeRow_29 (by decide +kernel) ?_
        have T28 : (I p0 2).toInt + p3.toInt ≤ (I p0 1).toInt → (tb tx.2.2 (I p0 1).toInt) ((I p0 2).toInt + v3_4.toInt) = z28.toInt := fun a => by have e := hu.1 a; have e2 : (I p0 2).toInt + v3_4.toInt = z10.toInt := (by omega); have e3 := congrArg Int32.toInt (ez14.trans hu.2.1); rw [e2]; exact tb_at (by omega) (by omega) tz28
        have j41 : ∀ (J41 : Nat → Nat → Int64) (H : Heap) (lo : List Loc) (ls : Array Slot), (∀ b, ¬ (K b = 12 ∧ (G b = G p1)) → J41 b = J b) → (∀ D : Int → Int → Bool, (I p0 2).toInt + p3.toInt ≤ (I p0 1).toInt → (p3.toInt ≤ (I p1 0).toInt ∧ 0 ≤ p2.toInt ∧ p2.toInt < (I p1 1).toInt) → (∀ x : Int, 0 ≤ x → x < p3.toInt → D x p2.toInt = decide ((tb tx.2.2 (I p0 1).toInt) ((I p0 2).toInt + x) = 35)) → rowI D (J (wo Q p1)) p2.toInt 0 → rowI D (J41 (wo Q p1)) p2.toInt (v3_4.toInt + 1)) → va_P (dC, dI) vwCl (Wd cs L K I3 J41 Q) H → va_S A s.heap H lo → lv_has ls 5 [(0, .ref p0), (1, .ref p1), (2, .int p2), (3, .int p3), (4, .int v3_4)] → W p l e R s m (([.ref p0, .ref p1, .int p2, .int p3] : List Value).toArray) below meth c H lo 0 0 Qz (F0 m 41 ls []) := by
          intro J41 H lo ls dj_J41 h41 hP hS hl
          refine lv_aload_n hx hb dX4_takeRow_41 rfl (lv_at hl 0 rfl) ?_
          refine lv_dup hx hb dX4_takeRow_42 rfl ?_
          refine p_get hx hb hts inX4 hown hK hP hLp0 hKp0 rfl rfl 2 (by decide) (hts _ pq249) rfl dX4_takeRow_43 ?_
          refine lv_topi (fun z43 ez43 => ?_)
          obtain rfl : z10 = z43 := ez10.trans ez43.symm
          refine lv_iconst (v := 1) hx hb dX4_takeRow_46 (by decide +kernel) ?_
          refine lv_iadd hx hb dX4_takeRow_47 ?_
          refine lv_topi (fun z47 ez47 => ?_)
          have bz47 := tq_add (k := z10.toInt) (q := (1)) ez47 rfl (by decide +kernel) (by omega) (by omega)
          refine p_put hx hb hts inX4 tyX4 tyX4_ok nmX4 hown hK hP hD hS hLp0 hKp0 rfl rfl 2 (by decide) (hts _ pq249) rfl (by decide +kernel) (Nat.le_of_ble_eq_true rfl) (oS_4_2 cs _ _ _ _) dX4_takeRow_48 (fun H locs hP hS => ?_)
          obtain ⟨Iz48, hP, hIz48, qIz48⟩ : ∃ Iz48, va_P (dC, dI) vwCl (Wd cs L K Iz48 J41 Q) H ∧ Iv L K x0 m0 tx tm Iz48 ∧ Iz48 = va_up I3 p0 (upd (I3 p0) 2 z47) := ⟨_, hP, Iv_put hI3 hKp0 (oP_4_2 (Iv_at hI3 hLp0 hKp0) ⟨by omega, by omega⟩) (by decide) (by decide), rfl⟩
          have fr_Iz48 : ∀ b, ¬ (b = p0) → Iz48 b = I b := fun b q => (congrFun qIz48 b).trans ((va_up_ne _ _ (fun z => q z)).trans (fr_I3 b q))
          obtain ⟨z51, ez51⟩ : ∃ y : Int32, y = v3_4 + 1 := ⟨_, rfl⟩
          refine lv_iinc (v := z51) (lv' := [(4, .int z51), (0, .ref p0), (1, .ref p1), (2, .int p2), (3, .int p3)]) hx hb dX4_takeRow_51 hl (k := 4) rfl (by rw [ez51]; rfl) (by decide) rfl (fun ls hl => ?_)
          have bz51 := tq_add (k := v3_4.toInt) (q := 1) ez51 rfl (by decide +kernel) (by omega) (by omega)
          refine lv_goto (tgt := 3) hx hb dX4_takeRow_54 (by decide) ?_
          exact ih3 _ (by omega) z51 Iz48 J41 _ _ _ rfl ⟨by omega, by omega⟩ hIz48 fr_Iz48 dj_J41 (fun D a b c h => ri_eq (h41 D a b c h) rfl rfl (by omega)) ⟨fun h => by rw [qIz48, rz_at]; have := hu.1 h; omega, by rw [qIz48, rz_fr _ _ _ _ (by decide)]; exact hu.2.1, by rw [qIz48, rz_fr _ _ _ _ (by decide)]; exact hu.2.2⟩ (by omega) hP hS (lv_sub hl [1, 2, 3, 4, 0] rfl)
        refine lv_icmp_ne (tgt := 41) hx hb dX4_takeRow_31 (by decide) (fun c31 => ?_) (fun c31 => ?_)
        · have t31 := tq_ne (k := z28.toInt) (q := (35)) c31 rfl (by decide +kernel)
          exact j41 J3 _ _ _ dj_J3 (fun D a b c h => ri_skip (h3 D a b c h) (by rw [c _ (by omega) (by omega), T28 a]; exact decide_eq_false t31) rfl) hP hS (lv_sub hl [0, 1, 2, 3, 4] rfl)
        · have t31 := tq_eq (k := z28.toInt) (q := (35)) c31 rfl (by decide +kernel)
          refine lv_aload_n hx hb dX4_takeRow_34 rfl (lv_at hl 1 rfl) ?_
          refine lv_iload hx hb dX4_takeRow_35 (lv_at hl 4 rfl) ?_
          refine lv_iload_n hx hb dX4_takeRow_37 rfl (lv_at hl 2 rfl) ?_
          refine sw_v (Z := (fun I1 J1 => Iv L K x0 m0 tx tm I1 ∧ I1 = I3 ∧ (∀ x y : Int, md (J1 (wo Q p1)) x y = (md (J3 (wo Q p1)) x y ^^ decide ((0 ≤ v3_4.toInt ∧ v3_4.toInt < (I3 p1 0).toInt ∧ 0 ≤ p2.toInt ∧ p2.toInt < (I3 p1 1).toInt) ∧ x = v3_4.toInt ∧ y = p2.toInt))) ∧ (∀ b, ¬ (K b = 12 ∧ (G b = G p1)) → J1 b = J3 b))) (va_runV (As := [.int v3_4, .int p2]) (rest := []) ⟨hx, hb, hml, hown, hts⟩ (s_X3_toggle l dC dI cs L K G Q hQ x0 m0 tx tm H.size I3 J3 hI3 p1 hLp1 hKp1 v3_4 p2) (cwV 2 hts (gV pq513 pq514 pq515 pq76 pq516) rfl rfl rfl (by decide +kernel) ⟨(by rw [hR]; exact (Nat.le_of_ble_eq_true rfl)), (by rw [hR]; exact (Nat.le_of_ble_eq_true rfl))⟩) (sP_V hP hD hK hN hLp1 hKp1 rfl rfl) rfl rfl hl.1 rfl (lv_room (Nat.le_of_ble_eq_true rfl)) dX4_takeRow_38 ⟨(by rw [hR]; exact (Nat.le_of_ble_eq_true rfl)), (by rw [hR]; exact (Nat.le_of_ble_eq_true rfl))⟩) hS hAL hA (fun Iz38 Jz38 H locs hz38 hIz38 hP hS => ?_)
          obtain ⟨hIz38, sm38, jz38, djc38⟩ := hIz38
          have dj_Jz38 : (∀ b, ¬ (K b = 12 ∧ (G b = G p1)) → Jz38 b = J b) := fun b hc => (djc38 b (fun z => hc (by exact ⟨z.1, by have z2 := z.2; omega⟩))).trans (dj_J3 b hc)
          obtain rfl : I3 = Iz38 := sm38.symm
          exact j41 Jz38 _ _ _ dj_Jz38 (fun D a b c h => ri_put (h3 D a b c h) (by rw [c _ (by omega) (by omega), T28 a]; exact decide_eq_true t31) jz38 (by rw [fr_I3 p1 (ne_k hKp1 hKp0 (by decide))]; exact ⟨by omega, by omega, by omega, by omega⟩) rfl rfl rfl) hP hS (lv_sub hl [0, 1, 2, 3, 4] rfl))
  exact key3 _ 0 I J _ _ _ rfl ⟨by decide +kernel, by decide +kernel⟩ hI fr_I dj_J (fun D a b c h => ri_eq h rfl rfl (by decide +kernel)) ⟨fun _ => by rw [show (0 : Int32).toInt = 0 from by decide +kernel]; omega, rfl, rfl⟩ (by rw [show (0 : Int32).toInt = 0 from by decide +kernel]; omega) hP hS (lv_sub hl [1, 2, 3, 4, 0] rfl)

set_option maxHeartbeats 4000000 in
set_option maxRecDepth 100000 in
theorem s_X4_fillBox (l : Launch) (dC : Nat → ClassId) (dI : Nat → Nat → Nat) (cs : Nat → ClassId) (L : List Nat) (K G : Nat → Nat) (Q : Nat → Nat → Option Nat) (hQ : Sv L K G Q) (x0 m0 : Nat) (tx : GT) (tm : GT × Int) (sz : Nat) (I : Nat → Nat → Int32) (J : Nat → Nat → Int64) (hI : Iv L K x0 m0 tx tm I) (p0 : Nat) (hLp0 : p0 ∈ L) (hKp0 : K p0 = 3) : Met l yX4_fillBox (.code yX4_fillBox cX4_fillBox 2 (some .boolean) :: pw) ({ frames := 1, cells := 0, slots := 0, locals := 20 }) (sP (dC, dI) cs [.ref p0] sz L K I J Q) (va_Qi (fun (r : Int32) (_ : Unit) => ((1) ≤ r.toInt ∧ r.toInt ≤ 1)) (fun _ t => sB (dC, dI) cs L K Q (fun I1 J1 => Iv L K x0 m0 tx tm I1 ∧ I1 = I ∧ ((∀ k, k < 80 → (J (wo Q p0)) k = 0) → 0 ≤ (I p0 0).toInt ∧ (I p0 0).toInt ≤ 100 → ∀ x y : Int, md (J1 (wo Q p0)) x y = boxD (I p0 0).toInt (I p0 1).toInt x y) ∧ (∀ b, ¬ (K b = 12 ∧ (G b = G p0)) → J1 b = J b)) t) (fun q => q ∈ L ∨ sz ≤ q)) 0 0 (fun q => q ∈ L ∨ sz ≤ q) := by
  refine Met.ofW (cc := cX4_fillBox) (maxL := 2) (ret := (some .boolean)) (by decide +kernel) rfl ?_
  intro p e s m args below meth c s₁ B hml hv
  obtain ⟨rfl, hsz, hP, hK, hD0, hN⟩ := hv
  have hx := B.exec
  have hb := B.bytes
  have hr := B.returns
  have hts := fun w (h : w ∈ pw) => atoms_spec (ws := Cond.code yX4_fillBox cX4_fillBox 2 (some .boolean) :: pw) B.pre w (List.mem_cons_of_mem _ h)
  have hown : s.vm.findClass RX4 = some m.cls := findClass_of_methodNamed B.named
  have hlocks := B.notSynchronized
  subst hsz
  have hBB : 999 ≤ tm.2 ∧ tm.2 ≤ 6000000 := hI.2.2.2.2.1
  have dj_J : (∀ b, ¬ (K b = 12 ∧ (G b = G p0)) → J b = J b) := fun _ _ => rfl
  obtain ⟨A, hAe⟩ : ∃ A : Nat → Prop, A = (fun q => q ∈ L ∨ s.heap.size ≤ q) := ⟨_, rfl⟩
  rw [← hAe]
  have hAL : ∀ q, q ∈ L → A q := fun q h => by rw [hAe]; exact Or.inl h
  have hA : ∀ q, s.heap.size ≤ q → A q := fun q h => by rw [hAe]; exact Or.inr h
  have hD : ∀ F, va_D A (va_pl L F) := fun F => (hD0 F).weaken (fun k q hk _ => hAL _ (pl_mem hk))
  obtain ⟨H, hHe⟩ : ∃ H : Heap, H = s.heap := ⟨_, rfl⟩
  have hS : va_S A s.heap H [] := by rw [hHe]; exact va_S.rf
  rw [← hHe] at hP
  have hl := lv_entry ([.ref p0]) (n := 2) (Nat.le_of_ble_eq_true rfl)
  rw [lg_entry_eq]
  generalize (lg_sl ([.ref p0]) ++ List.replicate (2 - (lg_sl ([.ref p0])).length) Slot.unset).toArray = ls at hl ⊢
  have hl : lv_has ls 2 [(0, .ref p0)] := hl
  rw [← hHe]
  refine namedW (fun R Qz hR hQz => ?_)
  refine lv_iconst (v := 0) hx hb dX4_fillBox_0 (by decide +kernel) ?_
  refine lv_istore_n (lv' := [(1, .int 0), (0, .ref p0)]) hx hb dX4_fillBox_1 rfl hl (by decide) rfl (fun ls hl => ?_)
  have key2 := blocks (fun n => ∀ (v2_1 : Int32) (J2 : Nat → Nat → Int64) (H : Heap) (lo : List Loc) (ls : Array Slot), (41 - v2_1.toInt).toNat = n → ((0) ≤ v2_1.toInt ∧ v2_1.toInt ≤ 40) → (∀ b, ¬ (K b = 12 ∧ (G b = G p0)) → J2 b = J b) → ((∀ k, k < 80 → (J (wo Q p0)) k = 0) → 0 ≤ (I p0 0).toInt ∧ (I p0 0).toInt ≤ 100 → rws (J2 (wo Q p0)) (boxD (I p0 0).toInt (I p0 1).toInt) v2_1.toInt) → va_P (dC, dI) vwCl (Wd cs L K I J2 Q) H → va_S A s.heap H lo → lv_has ls 2 [(0, .ref p0), (1, .int v2_1)] → W p l e R s m (([.ref p0] : List Value).toArray) below meth c H lo 0 0 Qz (F0 m 2 ls [])) (by
    intro n ih2
    intro v2_1 J2 H lo ls hmu2 bv2_1 dj_J2 hrw hP hS hl
    refine lv_iload_n hx hb dX4_fillBox_2 rfl (lv_at hl 1 rfl) ?_
    refine lv_aload_n hx hb dX4_fillBox_3 rfl (lv_at hl 0 rfl) ?_
    refine p_get hx hb hts inX3 hown hK hP hLp0 hKp0 rfl rfl 1 (by decide) (hts _ pq122) rfl dX4_fillBox_4 ?_
    refine lv_topi (fun z4 ez4 => ?_)
    have bz4 := oI_3_1 (Iv_at hI hLp0 hKp0)
    rw [← ez4] at bz4
    have w4 := congrArg Int32.toInt ez4
    refine lv_icmp_ge (tgt := 48) hx hb dX4_fillBox_7 (by decide) (fun c7 => ?_) (fun c7 => ?_)
    · have t7 := tq_le (k := z4.toInt) (q := v2_1.toInt) c7 rfl rfl
      refine lv_iconst (v := 1) hx hb dX4_fillBox_48 (by decide +kernel) ?_
      subst hR; subst hQz
      exact W.zret (v := 1) hx hb hr (by decide +kernel) (fun t ht hW => ⟨⟨1, (), rfl, ⟨by decide +kernel, by decide +kernel⟩, ⟨I, J2, ⟨hI, rfl, (fun hz hw => rws_fin (hrw hz hw) (fun x y q => by have := boxD_in q; omega)), dj_J2⟩, by rw [ht]; exact hP⟩⟩, hS.F ht⟩) hS.2.2 dX4_fillBox_49
    · have t7 := tq_nle (k := z4.toInt) (q := v2_1.toInt) c7 rfl rfl
      refine lv_aload_n hx hb dX4_fillBox_10 rfl (lv_at hl 0 rfl) ?_
      obtain ⟨y11, ey11, hLy11, hKy11, hGy11⟩ := oQ_3_2 (Sv_at hQ hLp0 hKp0)
      refine p_get (v := .ref y11) hx hb hts inX3 hown hK hP hLp0 hKp0 rfl rfl 2 (by decide) (hts _ pq126) (congrArg (fun q => some (va_rf q)) ey11) dX4_fillBox_11 ?_
      refine lv_iconst (v := 2) hx hb dX4_fillBox_14 (by decide +kernel) ?_
      refine lv_iload_n hx hb dX4_fillBox_15 rfl (lv_at hl 1 rfl) ?_
      refine lv_imul hx hb dX4_fillBox_16 ?_
      refine lv_topi (fun z16 ez16 => ?_)
      have bz16 := tq_mul (k := (2)) (q := v2_1.toInt) ez16 (by decide +kernel) rfl (by omega) (by omega)
      refine lv_aload_n hx hb dX4_fillBox_17 rfl (lv_at hl 0 rfl) ?_
      refine p_get hx hb hts inX3 hown hK hP hLp0 hKp0 rfl rfl 0 (by decide) (hts _ pq118) rfl dX4_fillBox_18 ?_
      refine lv_topi (fun z18 ez18 => ?_)
      have bz18 := oI_3_0 (Iv_at hI hLp0 hKp0)
      rw [← ez18] at bz18
      have w18 := congrArg Int32.toInt ez18
      refine ro_l (va_runS (As := [.int z18]) (rest := [.int z16, .ref y11]) ⟨hx, hb, hml, hown, hts⟩ (s_X3_lowOnes l dC dI cs L K G Q hQ x0 m0 tx tm H.size I J2 hI z18) (va_cwS 1 hts (gS pq502 pq503 pq76 pq504) rfl rfl rfl (by decide +kernel) ⟨(by rw [hR]; exact (Nat.le_of_ble_eq_true rfl)), (by rw [hR]; exact (Nat.le_of_ble_eq_true rfl))⟩) (sP_S hP hD hK hN) rfl rfl hl.1 rfl (lv_room (Nat.le_of_ble_eq_true rfl)) dX4_fillBox_21 ⟨(by rw [hR]; exact (Nat.le_of_ble_eq_true rfl)), (by rw [hR]; exact (Nat.le_of_ble_eq_true rfl))⟩) hS hP (fun z21 H locs hz21 hP hS => ?_)
      have xpz21 := hz21
      refine p_last hx hb hK hP hD hS 2 hLy11 hKy11 rfl (fun _ => rfl) rfl (in_of (by omega) (by omega)) dX4_fillBox_24 (fun H locs hP hS => ?_)
      obtain ⟨Jz24, hP, qJz24⟩ : ∃ Jz24, va_P (dC, dI) vwCl (Wd cs L K I Jz24 Q) H ∧ Jz24 = va_up J2 y11 (vp_updL (J2 y11) z16.toNatClampNeg z21) := ⟨_, hP, rfl⟩
      have dj_Jz24 : (∀ b, ¬ (K b = 12 ∧ (G b = G p0)) → Jz24 b = J b) := fun b hc => (congrFun qJz24 b).trans ((va_up_ne _ _ (fun z => hc (by rw [z]; exact ⟨hKy11, by omega⟩))).trans (dj_J2 b hc))
      refine lv_aload_n hx hb dX4_fillBox_25 rfl (lv_at hl 0 rfl) ?_
      refine p_get (v := .ref y11) hx hb hts inX3 hown hK hP hLp0 hKp0 rfl rfl 2 (by decide) (hts _ pq126) (congrArg (fun q => some (va_rf q)) ey11) dX4_fillBox_26 ?_
      refine lv_iconst (v := 2) hx hb dX4_fillBox_29 (by decide +kernel) ?_
      refine lv_iload_n hx hb dX4_fillBox_30 rfl (lv_at hl 1 rfl) ?_
      refine lv_imul hx hb dX4_fillBox_31 ?_
      refine lv_topi (fun z31 ez31 => ?_)
      have bz31 := tq_mul (k := (2)) (q := v2_1.toInt) ez31 (by decide +kernel) rfl (by omega) (by omega)
      refine lv_iconst (v := 1) hx hb dX4_fillBox_32 (by decide +kernel) ?_
      refine lv_iadd hx hb dX4_fillBox_33 ?_
      refine lv_topi (fun z33 ez33 => ?_)
      have bz33 := tq_add (k := z31.toInt) (q := (1)) ez33 rfl (by decide +kernel) (by omega) (by omega)
      refine lv_aload_n hx hb dX4_fillBox_34 rfl (lv_at hl 0 rfl) ?_
      refine p_get hx hb hts inX3 hown hK hP hLp0 hKp0 rfl rfl 0 (by decide) (hts _ pq118) rfl dX4_fillBox_35 ?_
      refine lv_topi (fun z35 ez35 => ?_)
      obtain rfl : z18 = z35 := ez18.trans ez35.symm
      refine ro_l (va_runS (As := [.int z18]) (rest := [.int z33, .ref y11]) ⟨hx, hb, hml, hown, hts⟩ (s_X3_highOnes l dC dI cs L K G Q hQ x0 m0 tx tm H.size I Jz24 hI z18) (va_cwS 1 hts (gS pq506 pq507 pq76 pq508) rfl rfl rfl (by decide +kernel) ⟨(by rw [hR]; exact (Nat.le_of_ble_eq_true rfl)), (by rw [hR]; exact (Nat.le_of_ble_eq_true rfl))⟩) (sP_S hP hD hK hN) rfl rfl hl.1 rfl (lv_room (Nat.le_of_ble_eq_true rfl)) dX4_fillBox_38 ⟨(by rw [hR]; exact (Nat.le_of_ble_eq_true rfl)), (by rw [hR]; exact (Nat.le_of_ble_eq_true rfl))⟩) hS hP (fun z38 H locs hz38 hP hS => ?_)
      have xpz38 := hz38
      refine p_last hx hb hK hP hD hS 2 hLy11 hKy11 rfl (fun _ => rfl) rfl (in_of (by omega) (by omega)) dX4_fillBox_41 (fun H locs hP hS => ?_)
      obtain ⟨Jz41, hP, qJz41⟩ : ∃ Jz41, va_P (dC, dI) vwCl (Wd cs L K I Jz41 Q) H ∧ Jz41 = va_up Jz24 y11 (vp_updL (Jz24 y11) z33.toNatClampNeg z38) := ⟨_, hP, rfl⟩
      have dj_Jz41 : (∀ b, ¬ (K b = 12 ∧ (G b = G p0)) → Jz41 b = J b) := fun b hc => (congrFun qJz41 b).trans ((va_up_ne _ _ (fun z => hc (by rw [z]; exact ⟨hKy11, by omega⟩))).trans (dj_Jz24 b hc))
      obtain ⟨z42, ez42⟩ : ∃ y : Int32, y = v2_1 + 1 := ⟨_, rfl⟩
      refine lv_iinc (v := z42) (lv' := [(1, .int z42), (0, .ref p0)]) hx hb dX4_fillBox_42 hl (k := 1) rfl (by rw [ez42]; rfl) (by decide) rfl (fun ls hl => ?_)
      have bz42 := tq_add (k := v2_1.toInt) (q := 1) ez42 rfl (by decide +kernel) (by omega) (by omega)
      refine lv_goto (tgt := 2) hx hb dX4_fillBox_45 (by decide) ?_
      exact ih2 _ (by omega) z42 Jz41 _ _ _ rfl ⟨by omega, by omega⟩ dj_Jz41 (fun hz hw => rws_step (r := v2_1.toInt.toNat) (hrw hz hw) (f1 := Jz24 (wo Q p0)) (a := z21) (b := z38) (fun j => by rw [qJz24, wo_of ey11, va_up_self]; unfold vp_updL; rw [show z16.toNatClampNeg = 2 * v2_1.toInt.toNat from (by show z16.toInt.toNat = _; omega)]) (fun j => by rw [qJz41, wo_of ey11, va_up_self]; unfold vp_updL; rw [show z33.toNatClampNeg = 2 * v2_1.toInt.toNat + 1 from (by show z33.toInt.toNat = _; omega)]) (by omega) (by omega) (by omega) (fun x => box_row (by omega) (by omega) (fun i hi => by have q := xpz21 (by omega) i hi; rw [w18] at q; exact q) (fun i hi => by have q := xpz38 (by omega) i hi; rw [w18] at q; exact q))) hP hS (lv_sub hl [1, 0] rfl))
  exact key2 _ 0 J _ _ _ rfl ⟨by decide +kernel, by decide +kernel⟩ dj_J (fun hz hw => rws_0 hz (fun x y a b => absurd b (by rw [show (0 : Int32).toInt = 0 from by decide +kernel]; omega))) hP hS (lv_sub hl [1, 0] rfl)

set_option maxHeartbeats 4000000 in
set_option maxRecDepth 100000 in
theorem s_X4_fillFrame (l : Launch) (dC : Nat → ClassId) (dI : Nat → Nat → Nat) (cs : Nat → ClassId) (L : List Nat) (K G : Nat → Nat) (Q : Nat → Nat → Option Nat) (hQ : Sv L K G Q) (x0 m0 : Nat) (tx : GT) (tm : GT × Int) (sz : Nat) (I : Nat → Nat → Int32) (J : Nat → Nat → Int64) (hI : Iv L K x0 m0 tx tm I) (p0 : Nat) (hLp0 : p0 ∈ L) (hKp0 : K p0 = 3) : Met l yX4_fillFrame (.code yX4_fillFrame cX4_fillFrame 3 (some .boolean) :: pw) ({ frames := 2, cells := 0, slots := 0, locals := 44 }) (sP (dC, dI) cs [.ref p0] sz L K I J Q) (va_Qi (fun (r : Int32) (_ : Unit) => ((1) ≤ r.toInt ∧ r.toInt ≤ 1)) (fun _ t => sB (dC, dI) cs L K Q (fun I1 J1 => Iv L K x0 m0 tx tm I1 ∧ I1 = I ∧ ((∀ k, k < 80 → (J (wo Q p0)) k = 0) → ∀ x y : Int, md (J1 (wo Q p0)) x y = frmD (I p0 0).toInt (I p0 1).toInt x y) ∧ (∀ b, ¬ (K b = 12 ∧ (G b = G p0)) → J1 b = J b)) t) (fun q => q ∈ L ∨ sz ≤ q)) 0 0 (fun q => q ∈ L ∨ sz ≤ q) := by
  refine Met.ofW (cc := cX4_fillFrame) (maxL := 3) (ret := (some .boolean)) (by decide +kernel) rfl ?_
  intro p e s m args below meth c s₁ B hml hv
  obtain ⟨rfl, hsz, hP, hK, hD0, hN⟩ := hv
  have hx := B.exec
  have hb := B.bytes
  have hr := B.returns
  have hts := fun w (h : w ∈ pw) => atoms_spec (ws := Cond.code yX4_fillFrame cX4_fillFrame 3 (some .boolean) :: pw) B.pre w (List.mem_cons_of_mem _ h)
  have hown : s.vm.findClass RX4 = some m.cls := findClass_of_methodNamed B.named
  have hlocks := B.notSynchronized
  subst hsz
  have hBB : 999 ≤ tm.2 ∧ tm.2 ≤ 6000000 := hI.2.2.2.2.1
  have dj_J : (∀ b, ¬ (K b = 12 ∧ (G b = G p0)) → J b = J b) := fun _ _ => rfl
  obtain ⟨A, hAe⟩ : ∃ A : Nat → Prop, A = (fun q => q ∈ L ∨ s.heap.size ≤ q) := ⟨_, rfl⟩
  rw [← hAe]
  have hAL : ∀ q, q ∈ L → A q := fun q h => by rw [hAe]; exact Or.inl h
  have hA : ∀ q, s.heap.size ≤ q → A q := fun q h => by rw [hAe]; exact Or.inr h
  have hD : ∀ F, va_D A (va_pl L F) := fun F => (hD0 F).weaken (fun k q hk _ => hAL _ (pl_mem hk))
  obtain ⟨H, hHe⟩ : ∃ H : Heap, H = s.heap := ⟨_, rfl⟩
  have hS : va_S A s.heap H [] := by rw [hHe]; exact va_S.rf
  rw [← hHe] at hP
  have hl := lv_entry ([.ref p0]) (n := 3) (Nat.le_of_ble_eq_true rfl)
  rw [lg_entry_eq]
  generalize (lg_sl ([.ref p0]) ++ List.replicate (3 - (lg_sl ([.ref p0])).length) Slot.unset).toArray = ls at hl ⊢
  have hl : lv_has ls 3 [(0, .ref p0)] := hl
  rw [← hHe]
  refine namedW (fun R Qz hR hQz => ?_)
  refine lv_iconst (v := 0) hx hb dX4_fillFrame_0 (by decide +kernel) ?_
  refine lv_istore_n (lv' := [(1, .int 0), (0, .ref p0)]) hx hb dX4_fillFrame_1 rfl hl (by decide) rfl (fun ls hl => ?_)
  have key2 := blocks (fun n => ∀ (v2_1 : Int32) (J2 : Nat → Nat → Int64) (H : Heap) (lo : List Loc) (ls : Array Slot), (41 - v2_1.toInt).toNat = n → ((0) ≤ v2_1.toInt ∧ v2_1.toInt ≤ 40) → (∀ b, ¬ (K b = 12 ∧ (G b = G p0)) → J2 b = J b) → ((∀ k, k < 80 → (J (wo Q p0)) k = 0) → rowI (frmD (I p0 0).toInt (I p0 1).toInt) (J2 (wo Q p0)) v2_1.toInt 0) → va_P (dC, dI) vwCl (Wd cs L K I J2 Q) H → va_S A s.heap H lo → lv_has ls 3 [(0, .ref p0), (1, .int v2_1)] → W p l e R s m (([.ref p0] : List Value).toArray) below meth c H lo 0 0 Qz (F0 m 2 ls [])) (by
    intro n ih2
    intro v2_1 J2 H lo ls hmu2 bv2_1 dj_J2 h2 hP hS hl
    refine lv_iload_n hx hb dX4_fillFrame_2 rfl (lv_at hl 1 rfl) ?_
    refine lv_aload_n hx hb dX4_fillFrame_3 rfl (lv_at hl 0 rfl) ?_
    refine p_get hx hb hts inX3 hown hK hP hLp0 hKp0 rfl rfl 1 (by decide) (hts _ pq122) rfl dX4_fillFrame_4 ?_
    refine lv_topi (fun z4 ez4 => ?_)
    have bz4 := oI_3_1 (Iv_at hI hLp0 hKp0)
    rw [← ez4] at bz4
    have w4 := congrArg Int32.toInt ez4
    refine lv_icmp_ge (tgt := 66) hx hb dX4_fillFrame_7 (by decide) (fun c7 => ?_) (fun c7 => ?_)
    · have t7 := tq_le (k := z4.toInt) (q := v2_1.toInt) c7 rfl rfl
      refine lv_iconst (v := 1) hx hb dX4_fillFrame_66 (by decide +kernel) ?_
      subst hR; subst hQz
      exact W.zret (v := 1) hx hb hr (by decide +kernel) (fun t ht hW => ⟨⟨1, (), rfl, ⟨by decide +kernel, by decide +kernel⟩, ⟨I, J2, ⟨hI, rfl, (fun hz => ri_fin (h2 hz) (fun x y q => by have := frmD_in q; omega)), dj_J2⟩, by rw [ht]; exact hP⟩⟩, hS.F ht⟩) hS.2.2 dX4_fillFrame_67
    · have t7 := tq_nle (k := z4.toInt) (q := v2_1.toInt) c7 rfl rfl
      refine lv_iconst (v := 0) hx hb dX4_fillFrame_10 (by decide +kernel) ?_
      refine lv_istore_n (lv' := [(2, .int 0), (0, .ref p0), (1, .int v2_1)]) hx hb dX4_fillFrame_11 rfl hl (by decide) rfl (fun ls hl => ?_)
      have key12 := blocks (fun n => ∀ (v12_2 : Int32) (J12 : Nat → Nat → Int64) (H : Heap) (lo : List Loc) (ls : Array Slot), (129 - v12_2.toInt).toNat = n → ((0) ≤ v12_2.toInt ∧ v12_2.toInt ≤ 128) → (∀ b, ¬ (K b = 12 ∧ (G b = G p0)) → J12 b = J b) → ((∀ k, k < 80 → (J (wo Q p0)) k = 0) → rowI (frmD (I p0 0).toInt (I p0 1).toInt) (J12 (wo Q p0)) v2_1.toInt v12_2.toInt) → va_P (dC, dI) vwCl (Wd cs L K I J12 Q) H → va_S A s.heap H lo → lv_has ls 3 [(0, .ref p0), (1, .int v2_1), (2, .int v12_2)] → W p l e R s m (([.ref p0] : List Value).toArray) below meth c H lo 0 0 Qz (F0 m 12 ls [])) (by
        intro n ih12
        intro v12_2 J12 H lo ls hmu12 bv12_2 dj_J12 h12 hP hS hl
        refine lv_iload_n hx hb dX4_fillFrame_12 rfl (lv_at hl 2 rfl) ?_
        refine lv_aload_n hx hb dX4_fillFrame_13 rfl (lv_at hl 0 rfl) ?_
        refine p_get hx hb hts inX3 hown hK hP hLp0 hKp0 rfl rfl 0 (by decide) (hts _ pq118) rfl dX4_fillFrame_14 ?_
        refine lv_topi (fun z14 ez14 => ?_)
        have bz14 := oI_3_0 (Iv_at hI hLp0 hKp0)
        rw [← ez14] at bz14
        have w14 := congrArg Int32.toInt ez14
        refine lv_icmp_ge (tgt := 60) hx hb dX4_fillFrame_17 (by decide) (fun c17 => ?_) (fun c17 => ?_)
        · have t17 := tq_le (k := z14.toInt) (q := v12_2.toInt) c17 rfl rfl
          obtain ⟨z60, ez60⟩ : ∃ y : Int32, y = v2_1 + 1 := ⟨_, rfl⟩
          refine lv_iinc (v := z60) (lv' := [(1, .int z60), (0, .ref p0), (2, .int v12_2)]) hx hb dX4_fillFrame_60 hl (k := 1) rfl (by rw [ez60]; rfl) (by decide) rfl (fun ls hl => ?_)
          have bz60 := tq_add (k := v2_1.toInt) (q := 1) ez60 rfl (by decide +kernel) (by omega) (by omega)
          refine lv_goto (tgt := 2) hx hb dX4_fillFrame_63 (by decide) ?_
          exact ih2 _ (by omega) z60 J12 _ _ _ rfl ⟨by omega, by omega⟩ dj_J12 (fun hz => ri_nl (fun x y q => by have := frmD_in q; omega) (h12 hz) (fun x q => by have := frmD_in q; omega) (by omega) rfl) hP hS (lv_sub hl [1, 0] rfl)
        · have t17 := tq_nle (k := z14.toInt) (q := v12_2.toInt) c17 rfl rfl
          refine lv_iload_n hx hb dX4_fillFrame_20 rfl (lv_at hl 2 rfl) ?_
          have j54 : ∀ (J54 : Nat → Nat → Int64) (H : Heap) (lo : List Loc) (ls : Array Slot), (∀ b, ¬ (K b = 12 ∧ (G b = G p0)) → J54 b = J b) → ((∀ k, k < 80 → (J (wo Q p0)) k = 0) → rowI (frmD (I p0 0).toInt (I p0 1).toInt) (J54 (wo Q p0)) v2_1.toInt (v12_2.toInt + 1)) → va_P (dC, dI) vwCl (Wd cs L K I J54 Q) H → va_S A s.heap H lo → lv_has ls 3 [(0, .ref p0), (1, .int v2_1), (2, .int v12_2)] → W p l e R s m (([.ref p0] : List Value).toArray) below meth c H lo 0 0 Qz (F0 m 54 ls []) := by
            intro J54 H lo ls dj_J54 h54 hP hS hl
            obtain ⟨z54, ez54⟩ : ∃ y : Int32, y = v12_2 + 1 := ⟨_, rfl⟩
            refine lv_iinc (v := z54) (lv' := [(2, .int z54), (0, .ref p0), (1, .int v2_1)]) hx hb dX4_fillFrame_54 hl (k := 2) rfl (by rw [ez54]; rfl) (by decide) rfl (fun ls hl => ?_)
            have bz54 := tq_add (k := v12_2.toInt) (q := 1) ez54 rfl (by decide +kernel) (by omega) (by omega)
            refine lv_goto (tgt := 12) hx hb dX4_fillFrame_57 (by decide) ?_
            exact ih12 _ (by omega) z54 J54 _ _ _ rfl ⟨by omega, by omega⟩ dj_J54 (fun hz => ri_eq (h54 hz) rfl rfl (by omega)) hP hS (lv_sub hl [1, 2, 0] rfl)
          have j48 : ∀ (H : Heap) (lo : List Loc) (ls : Array Slot), (v12_2.toInt = 0 ∨ v2_1.toInt = 0 ∨ v12_2.toInt = (I p0 0).toInt - 1 ∨ v2_1.toInt = (I p0 1).toInt - 1) → va_P (dC, dI) vwCl (Wd cs L K I J12 Q) H → va_S A s.heap H lo → lv_has ls 3 [(0, .ref p0), (1, .int v2_1), (2, .int v12_2)] → W p l e R s m (([.ref p0] : List Value).toArray) below meth c H lo 0 0 Qz (F0 m 48 ls []) := by
            intro H lo ls h48 hP hS hl
            refine lv_aload_n hx hb dX4_fillFrame_48 rfl (lv_at hl 0 rfl) ?_
            refine lv_iload_n hx hb dX4_fillFrame_49 rfl (lv_at hl 2 rfl) ?_
            refine lv_iload_n hx hb dX4_fillFrame_50 rfl (lv_at hl 1 rfl) ?_
            refine sw_v (Z := (fun I1 J1 => Iv L K x0 m0 tx tm I1 ∧ I1 = I ∧ (∀ x y : Int, md (J1 (wo Q p0)) x y = (md (J12 (wo Q p0)) x y ^^ decide ((0 ≤ v12_2.toInt ∧ v12_2.toInt < (I p0 0).toInt ∧ 0 ≤ v2_1.toInt ∧ v2_1.toInt < (I p0 1).toInt) ∧ x = v12_2.toInt ∧ y = v2_1.toInt))) ∧ (∀ b, ¬ (K b = 12 ∧ (G b = G p0)) → J1 b = J12 b))) (va_runV (As := [.int v12_2, .int v2_1]) (rest := []) ⟨hx, hb, hml, hown, hts⟩ (s_X3_toggle l dC dI cs L K G Q hQ x0 m0 tx tm H.size I J12 hI p0 hLp0 hKp0 v12_2 v2_1) (cwV 2 hts (gV pq513 pq514 pq515 pq76 pq516) rfl rfl rfl (by decide +kernel) ⟨(by rw [hR]; exact (Nat.le_of_ble_eq_true rfl)), (by rw [hR]; exact (Nat.le_of_ble_eq_true rfl))⟩) (sP_V hP hD hK hN hLp0 hKp0 rfl rfl) rfl rfl hl.1 rfl (lv_room (Nat.le_of_ble_eq_true rfl)) dX4_fillFrame_51 ⟨(by rw [hR]; exact (Nat.le_of_ble_eq_true rfl)), (by rw [hR]; exact (Nat.le_of_ble_eq_true rfl))⟩) hS hAL hA (fun Iz51 Jz51 H locs hz51 hIz51 hP hS => ?_)
            obtain ⟨hIz51, sm51, jz51, djc51⟩ := hIz51
            have dj_Jz51 : (∀ b, ¬ (K b = 12 ∧ (G b = G p0)) → Jz51 b = J b) := fun b hc => (djc51 b (fun z => hc (by exact ⟨z.1, by have z2 := z.2; omega⟩))).trans (dj_J12 b hc)
            obtain rfl : I = Iz51 := sm51.symm
            exact j54 Jz51 _ _ _ dj_Jz51 (fun hz => ri_put (h12 hz) (decide_eq_true (by omega)) jz51 ⟨by omega, by omega, by omega, by omega⟩ rfl rfl rfl) hP hS (lv_sub hl [0, 1, 2] rfl)
          refine lv_if_eq (tgt := 48) hx hb dX4_fillFrame_21 (by decide) (fun c21 => ?_) (fun c21 => ?_)
          · have t21 := tq_eq (k := v12_2.toInt) (q := (0)) c21 rfl (by decide +kernel)
            exact j48  _ _ _ (by omega) hP hS (lv_sub hl [0, 1, 2] rfl)
          · have t21 := tq_ne (k := v12_2.toInt) (q := (0)) c21 rfl (by decide +kernel)
            refine lv_iload_n hx hb dX4_fillFrame_24 rfl (lv_at hl 1 rfl) ?_
            refine lv_if_eq (tgt := 48) hx hb dX4_fillFrame_25 (by decide) (fun c25 => ?_) (fun c25 => ?_)
            · have t25 := tq_eq (k := v2_1.toInt) (q := (0)) c25 rfl (by decide +kernel)
              exact j48  _ _ _ (by omega) hP hS (lv_sub hl [0, 1, 2] rfl)
            · have t25 := tq_ne (k := v2_1.toInt) (q := (0)) c25 rfl (by decide +kernel)
              refine lv_iload_n hx hb dX4_fillFrame_28 rfl (lv_at hl 2 rfl) ?_
              refine lv_aload_n hx hb dX4_fillFrame_29 rfl (lv_at hl 0 rfl) ?_
              refine p_get hx hb hts inX3 hown hK hP hLp0 hKp0 rfl rfl 0 (by decide) (hts _ pq118) rfl dX4_fillFrame_30 ?_
              refine lv_topi (fun z30 ez30 => ?_)
              obtain rfl : z14 = z30 := ez14.trans ez30.symm
              refine lv_iconst (v := 1) hx hb dX4_fillFrame_33 (by decide +kernel) ?_
              refine lv_isub hx hb dX4_fillFrame_34 ?_
              refine lv_topi (fun z34 ez34 => ?_)
              have bz34 := tq_sub (k := z14.toInt) (q := (1)) ez34 rfl (by decide +kernel) (by omega) (by omega)
              refine lv_icmp_eq (tgt := 48) hx hb dX4_fillFrame_35 (by decide) (fun c35 => ?_) (fun c35 => ?_)
              · have t35 := tq_eq (k := v12_2.toInt) (q := z34.toInt) c35 rfl rfl
                exact j48  _ _ _ (by omega) hP hS (lv_sub hl [0, 1, 2] rfl)
              · have t35 := tq_ne (k := v12_2.toInt) (q := z34.toInt) c35 rfl rfl
                refine lv_iload_n hx hb dX4_fillFrame_38 rfl (lv_at hl 1 rfl) ?_
                refine lv_aload_n hx hb dX4_fillFrame_39 rfl (lv_at hl 0 rfl) ?_
                refine p_get hx hb hts inX3 hown hK hP hLp0 hKp0 rfl rfl 1 (by decide) (hts _ pq122) rfl dX4_fillFrame_40 ?_
                refine lv_topi (fun z40 ez40 => ?_)
                obtain rfl : z4 = z40 := ez4.trans ez40.symm
                refine lv_iconst (v := 1) hx hb dX4_fillFrame_43 (by decide +kernel) ?_
                refine lv_isub hx hb dX4_fillFrame_44 ?_
                refine lv_topi (fun z44 ez44 => ?_)
                have bz44 := tq_sub (k := z4.toInt) (q := (1)) ez44 rfl (by decide +kernel) (by omega) (by omega)
                refine lv_icmp_ne (tgt := 54) hx hb dX4_fillFrame_45 (by decide) (fun c45 => ?_) (fun c45 => ?_)
                · have t45 := tq_ne (k := v2_1.toInt) (q := z44.toInt) c45 rfl rfl
                  exact j54 J12 _ _ _ dj_J12 (fun hz => ri_skip (h12 hz) (decide_eq_false (by omega)) rfl) hP hS (lv_sub hl [0, 1, 2] rfl)
                · have t45 := tq_eq (k := v2_1.toInt) (q := z44.toInt) c45 rfl rfl
                  exact j48  _ _ _ (by omega) hP hS (lv_sub hl [0, 1, 2] rfl))
      exact key12 _ 0 J2 _ _ _ rfl ⟨by decide +kernel, by decide +kernel⟩ dj_J2 (fun hz => ri_eq (h2 hz) rfl rfl (by decide +kernel)) hP hS (lv_sub hl [1, 2, 0] rfl))
  exact key2 _ 0 J _ _ _ rfl ⟨by decide +kernel, by decide +kernel⟩ dj_J (fun hz => ri_0 (fun x y q => by have := frmD_in q; omega) hz (by decide +kernel) rfl) hP hS (lv_sub hl [1, 0] rfl)

set_option maxHeartbeats 4000000 in
set_option maxRecDepth 100000 in
theorem s_X4_fillDisk (l : Launch) (dC : Nat → ClassId) (dI : Nat → Nat → Nat) (cs : Nat → ClassId) (L : List Nat) (K G : Nat → Nat) (Q : Nat → Nat → Option Nat) (hQ : Sv L K G Q) (x0 m0 : Nat) (tx : GT) (tm : GT × Int) (sz : Nat) (I : Nat → Nat → Int32) (J : Nat → Nat → Int64) (hI : Iv L K x0 m0 tx tm I) (p0 : Nat) (hLp0 : p0 ∈ L) (hKp0 : K p0 = 3) (p1 : Int32) (bp1 : (0) ≤ p1.toInt ∧ p1.toInt ≤ 19) : Met l yX4_fillDisk (.code yX4_fillDisk cX4_fillDisk 4 (some .boolean) :: pw) ({ frames := 2, cells := 0, slots := 0, locals := 46 }) (sP (dC, dI) cs [.ref p0, .int p1] sz L K I J Q) (va_Qi (fun (r : Int32) (_ : Unit) => ((1) ≤ r.toInt ∧ r.toInt ≤ 1)) (fun _ t => sB (dC, dI) cs L K Q (fun I1 J1 => Iv L K x0 m0 tx tm I1 ∧ (∀ b, ¬ (b = p0) → I1 b = I b) ∧ ((I1 p0 0).toInt = 2 * p1.toInt + 1 ∧ (I1 p0 1).toInt = 2 * p1.toInt + 1 ∧ ∀ x y : Int, md (J1 (wo Q p0)) x y = dskD p1.toInt x y) ∧ (∀ b, ¬ (K b = 12 ∧ (G b = G p0)) → J1 b = J b)) t) (fun q => q ∈ L ∨ sz ≤ q)) 0 0 (fun q => q ∈ L ∨ sz ≤ q) := by
  refine Met.ofW (cc := cX4_fillDisk) (maxL := 4) (ret := (some .boolean)) (by decide +kernel) rfl ?_
  intro p e s m args below meth c s₁ B hml hv
  obtain ⟨rfl, hsz, hP, hK, hD0, hN⟩ := hv
  have hx := B.exec
  have hb := B.bytes
  have hr := B.returns
  have hts := fun w (h : w ∈ pw) => atoms_spec (ws := Cond.code yX4_fillDisk cX4_fillDisk 4 (some .boolean) :: pw) B.pre w (List.mem_cons_of_mem _ h)
  have hown : s.vm.findClass RX4 = some m.cls := findClass_of_methodNamed B.named
  have hlocks := B.notSynchronized
  subst hsz
  have hBB : 999 ≤ tm.2 ∧ tm.2 ≤ 6000000 := hI.2.2.2.2.1
  have dj_J : (∀ b, ¬ (K b = 12 ∧ (G b = G p0)) → J b = J b) := fun _ _ => rfl
  have fr_I : ∀ b, ¬ (b = p0) → I b = I b := fun _ _ => rfl
  obtain ⟨A, hAe⟩ : ∃ A : Nat → Prop, A = (fun q => q ∈ L ∨ s.heap.size ≤ q) := ⟨_, rfl⟩
  rw [← hAe]
  have hAL : ∀ q, q ∈ L → A q := fun q h => by rw [hAe]; exact Or.inl h
  have hA : ∀ q, s.heap.size ≤ q → A q := fun q h => by rw [hAe]; exact Or.inr h
  have hD : ∀ F, va_D A (va_pl L F) := fun F => (hD0 F).weaken (fun k q hk _ => hAL _ (pl_mem hk))
  obtain ⟨H, hHe⟩ : ∃ H : Heap, H = s.heap := ⟨_, rfl⟩
  have hS : va_S A s.heap H [] := by rw [hHe]; exact va_S.rf
  rw [← hHe] at hP
  have hl := lv_entry ([.ref p0, .int p1]) (n := 4) (Nat.le_of_ble_eq_true rfl)
  rw [lg_entry_eq]
  generalize (lg_sl ([.ref p0, .int p1]) ++ List.replicate (4 - (lg_sl ([.ref p0, .int p1])).length) Slot.unset).toArray = ls at hl ⊢
  have hl : lv_has ls 4 [(0, .ref p0), (1, .int p1)] := hl
  rw [← hHe]
  refine namedW (fun R Qz hR hQz => ?_)
  refine lv_aload_n hx hb dX4_fillDisk_0 rfl (lv_at hl 0 rfl) ?_
  refine lv_iconst (v := 2) hx hb dX4_fillDisk_1 (by decide +kernel) ?_
  refine lv_iload_n hx hb dX4_fillDisk_2 rfl (lv_at hl 1 rfl) ?_
  refine lv_imul hx hb dX4_fillDisk_3 ?_
  refine lv_topi (fun z3 ez3 => ?_)
  have bz3 := tq_mul (k := (2)) (q := p1.toInt) ez3 (by decide +kernel) rfl (by omega) (by omega)
  refine lv_iconst (v := 1) hx hb dX4_fillDisk_4 (by decide +kernel) ?_
  refine lv_iadd hx hb dX4_fillDisk_5 ?_
  refine lv_topi (fun z5 ez5 => ?_)
  have bz5 := tq_add (k := z3.toInt) (q := (1)) ez5 rfl (by decide +kernel) (by omega) (by omega)
  refine lv_iconst (v := 2) hx hb dX4_fillDisk_6 (by decide +kernel) ?_
  refine lv_iload_n hx hb dX4_fillDisk_7 rfl (lv_at hl 1 rfl) ?_
  refine lv_imul hx hb dX4_fillDisk_8 ?_
  refine lv_topi (fun z8 ez8 => ?_)
  have bz8 := tq_mul (k := (2)) (q := p1.toInt) ez8 (by decide +kernel) rfl (by omega) (by omega)
  refine lv_iconst (v := 1) hx hb dX4_fillDisk_9 (by decide +kernel) ?_
  refine lv_iadd hx hb dX4_fillDisk_10 ?_
  refine lv_topi (fun z10 ez10 => ?_)
  have bz10 := tq_add (k := z8.toInt) (q := (1)) ez10 rfl (by decide +kernel) (by omega) (by omega)
  refine sw_v (Z := (fun I1 J1 => Iv L K x0 m0 tx tm I1 ∧ (∀ b, ¬ (b = p0) → I1 b = I b) ∧ ((I1 p0 1 = z10 ∧ I1 p0 0 = z5 ∧ ∀ b k, ¬ k = 0 → ¬ k = 1 → ¬ k = 3 → I1 b k = I b k)) ∧ (∀ k, k < 80 → J1 (wo Q p0) k = 0) ∧ (∀ b, ¬ (K b = 12 ∧ (G b = G p0)) → J1 b = J b))) (va_runV (As := [.int z5, .int z10]) (rest := []) ⟨hx, hb, hml, hown, hts⟩ (s_X3_resize l dC dI cs L K G Q hQ x0 m0 tx tm H.size I J hI p0 hLp0 hKp0 z5 ⟨by omega, by omega⟩ z10 ⟨by omega, by omega⟩) (cwV 2 hts (gV pq492 pq493 pq494 pq76 pq495) rfl rfl rfl (by decide +kernel) ⟨(by rw [hR]; exact (Nat.le_of_ble_eq_true rfl)), (by rw [hR]; exact (Nat.le_of_ble_eq_true rfl))⟩) (sP_V hP hD hK hN hLp0 hKp0 rfl rfl) rfl rfl hl.1 rfl (lv_room (Nat.le_of_ble_eq_true rfl)) dX4_fillDisk_11 ⟨(by rw [hR]; exact (Nat.le_of_ble_eq_true rfl)), (by rw [hR]; exact (Nat.le_of_ble_eq_true rfl))⟩) hS hAL hA (fun Iz11 Jz11 H locs hz11 hIz11 hP hS => ?_)
  obtain ⟨hIz11, frc11, zp11, jz11, djc11⟩ := hIz11
  have dj_Jz11 : (∀ b, ¬ (K b = 12 ∧ (G b = G p0)) → Jz11 b = J b) := fun b hc => (djc11 b (fun z => hc (by exact ⟨z.1, by have z2 := z.2; omega⟩))).trans (dj_J b hc)
  have fr_Iz11 : ∀ b, ¬ (b = p0) → Iz11 b = I b := fun b q => (frc11 b (fun z => q (z))).trans (fr_I b q)
  have w0 : (Iz11 p0 0).toInt = 2 * p1.toInt + 1 := by rw [zp11.2.1]; omega
  have w1 : (Iz11 p0 1).toInt = 2 * p1.toInt + 1 := by rw [zp11.1]; omega
  refine lv_iconst (v := 0) hx hb dX4_fillDisk_14 (by decide +kernel) ?_
  refine lv_istore_n (lv' := [(2, .int 0), (0, .ref p0), (1, .int p1)]) hx hb dX4_fillDisk_15 rfl hl (by decide) rfl (fun ls hl => ?_)
  have key16 := blocks (fun n => ∀ (v16_2 : Int32) (J16 : Nat → Nat → Int64) (H : Heap) (lo : List Loc) (ls : Array Slot), (41 - v16_2.toInt).toNat = n → ((0) ≤ v16_2.toInt ∧ v16_2.toInt ≤ 40) → (∀ b, ¬ (K b = 12 ∧ (G b = G p0)) → J16 b = J b) → (rowI (dskD p1.toInt) (J16 (wo Q p0)) v16_2.toInt 0) → va_P (dC, dI) vwCl (Wd cs L K Iz11 J16 Q) H → va_S A s.heap H lo → lv_has ls 4 [(0, .ref p0), (1, .int p1), (2, .int v16_2)] → W p l e R s m (([.ref p0, .int p1] : List Value).toArray) below meth c H lo 0 0 Qz (F0 m 16 ls [])) (by
    intro n ih16
    intro v16_2 J16 H lo ls hmu16 bv16_2 dj_J16 h16 hP hS hl
    refine lv_iload_n hx hb dX4_fillDisk_16 rfl (lv_at hl 2 rfl) ?_
    refine lv_aload_n hx hb dX4_fillDisk_17 rfl (lv_at hl 0 rfl) ?_
    refine p_get hx hb hts inX3 hown hK hP hLp0 hKp0 rfl rfl 1 (by decide) (hts _ pq122) rfl dX4_fillDisk_18 ?_
    refine lv_topi (fun z18 ez18 => ?_)
    have bz18 := oI_3_1 (Iv_at hIz11 hLp0 hKp0)
    rw [← ez18] at bz18
    have w18 := congrArg Int32.toInt ez18
    refine lv_icmp_ge (tgt := 73) hx hb dX4_fillDisk_21 (by decide) (fun c21 => ?_) (fun c21 => ?_)
    · have t21 := tq_le (k := z18.toInt) (q := v16_2.toInt) c21 rfl rfl
      refine lv_iconst (v := 1) hx hb dX4_fillDisk_73 (by decide +kernel) ?_
      subst hR; subst hQz
      exact W.zret (v := 1) hx hb hr (by decide +kernel) (fun t ht hW => ⟨⟨1, (), rfl, ⟨by decide +kernel, by decide +kernel⟩, ⟨Iz11, J16, ⟨hIz11, fr_Iz11, ⟨w0, w1, ri_fin h16 (fun x y q => by have := dskD_in q; omega)⟩, dj_J16⟩, by rw [ht]; exact hP⟩⟩, hS.F ht⟩) hS.2.2 dX4_fillDisk_74
    · have t21 := tq_nle (k := z18.toInt) (q := v16_2.toInt) c21 rfl rfl
      refine lv_iconst (v := 0) hx hb dX4_fillDisk_24 (by decide +kernel) ?_
      refine lv_istore_n (lv' := [(3, .int 0), (0, .ref p0), (1, .int p1), (2, .int v16_2)]) hx hb dX4_fillDisk_25 rfl hl (by decide) rfl (fun ls hl => ?_)
      have key26 := blocks (fun n => ∀ (v26_3 : Int32) (J26 : Nat → Nat → Int64) (H : Heap) (lo : List Loc) (ls : Array Slot), (129 - v26_3.toInt).toNat = n → ((0) ≤ v26_3.toInt ∧ v26_3.toInt ≤ 128) → (∀ b, ¬ (K b = 12 ∧ (G b = G p0)) → J26 b = J b) → (rowI (dskD p1.toInt) (J26 (wo Q p0)) v16_2.toInt v26_3.toInt) → va_P (dC, dI) vwCl (Wd cs L K Iz11 J26 Q) H → va_S A s.heap H lo → lv_has ls 4 [(0, .ref p0), (1, .int p1), (2, .int v16_2), (3, .int v26_3)] → W p l e R s m (([.ref p0, .int p1] : List Value).toArray) below meth c H lo 0 0 Qz (F0 m 26 ls [])) (by
        intro n ih26
        intro v26_3 J26 H lo ls hmu26 bv26_3 dj_J26 h26 hP hS hl
        refine lv_iload_n hx hb dX4_fillDisk_26 rfl (lv_at hl 3 rfl) ?_
        refine lv_aload_n hx hb dX4_fillDisk_27 rfl (lv_at hl 0 rfl) ?_
        refine p_get hx hb hts inX3 hown hK hP hLp0 hKp0 rfl rfl 0 (by decide) (hts _ pq118) rfl dX4_fillDisk_28 ?_
        refine lv_topi (fun z28 ez28 => ?_)
        have bz28 := oI_3_0 (Iv_at hIz11 hLp0 hKp0)
        rw [← ez28] at bz28
        have w28 := congrArg Int32.toInt ez28
        refine lv_icmp_ge (tgt := 67) hx hb dX4_fillDisk_31 (by decide) (fun c31 => ?_) (fun c31 => ?_)
        · have t31 := tq_le (k := z28.toInt) (q := v26_3.toInt) c31 rfl rfl
          obtain ⟨z67, ez67⟩ : ∃ y : Int32, y = v16_2 + 1 := ⟨_, rfl⟩
          refine lv_iinc (v := z67) (lv' := [(2, .int z67), (0, .ref p0), (1, .int p1), (3, .int v26_3)]) hx hb dX4_fillDisk_67 hl (k := 2) rfl (by rw [ez67]; rfl) (by decide) rfl (fun ls hl => ?_)
          have bz67 := tq_add (k := v16_2.toInt) (q := 1) ez67 rfl (by decide +kernel) (by omega) (by omega)
          refine lv_goto (tgt := 16) hx hb dX4_fillDisk_70 (by decide) ?_
          exact ih16 _ (by omega) z67 J26 _ _ _ rfl ⟨by omega, by omega⟩ dj_J26 (ri_nl (fun x y q => by have := dskD_in q; omega) h26 (fun x q => by have := dskD_in q; omega) (by omega) rfl) hP hS (lv_sub hl [1, 2, 0] rfl)
        · have t31 := tq_nle (k := z28.toInt) (q := v26_3.toInt) c31 rfl rfl
          refine lv_iload_n hx hb dX4_fillDisk_34 rfl (lv_at hl 3 rfl) ?_
          refine lv_iload_n hx hb dX4_fillDisk_35 rfl (lv_at hl 1 rfl) ?_
          refine lv_isub hx hb dX4_fillDisk_36 ?_
          refine lv_topi (fun z36 ez36 => ?_)
          have bz36 := tq_sub (k := v26_3.toInt) (q := p1.toInt) ez36 rfl rfl (by omega) (by omega)
          refine lv_iload_n hx hb dX4_fillDisk_37 rfl (lv_at hl 3 rfl) ?_
          refine lv_iload_n hx hb dX4_fillDisk_38 rfl (lv_at hl 1 rfl) ?_
          refine lv_isub hx hb dX4_fillDisk_39 ?_
          refine lv_topi (fun z39 ez39 => ?_)
          have bz39 := tq_sub (k := v26_3.toInt) (q := p1.toInt) ez39 rfl rfl (by omega) (by omega)
          refine lv_imul hx hb dX4_fillDisk_40 ?_
          refine lv_topi (fun z40 ez40 => ?_)
          refine lv_iload_n hx hb dX4_fillDisk_41 rfl (lv_at hl 2 rfl) ?_
          refine lv_iload_n hx hb dX4_fillDisk_42 rfl (lv_at hl 1 rfl) ?_
          refine lv_isub hx hb dX4_fillDisk_43 ?_
          refine lv_topi (fun z43 ez43 => ?_)
          have bz43 := tq_sub (k := v16_2.toInt) (q := p1.toInt) ez43 rfl rfl (by omega) (by omega)
          refine lv_iload_n hx hb dX4_fillDisk_44 rfl (lv_at hl 2 rfl) ?_
          refine lv_iload_n hx hb dX4_fillDisk_45 rfl (lv_at hl 1 rfl) ?_
          refine lv_isub hx hb dX4_fillDisk_46 ?_
          refine lv_topi (fun z46 ez46 => ?_)
          have bz46 := tq_sub (k := v16_2.toInt) (q := p1.toInt) ez46 rfl rfl (by omega) (by omega)
          refine lv_imul hx hb dX4_fillDisk_47 ?_
          refine lv_topi (fun z47 ez47 => ?_)
          refine lv_iadd hx hb dX4_fillDisk_48 ?_
          refine lv_topi (fun z48 ez48 => ?_)
          refine lv_iload_n hx hb dX4_fillDisk_49 rfl (lv_at hl 1 rfl) ?_
          refine lv_iload_n hx hb dX4_fillDisk_50 rfl (lv_at hl 1 rfl) ?_
          refine lv_imul hx hb dX4_fillDisk_51 ?_
          refine lv_topi (fun z51 ez51 => ?_)
          have Q52 := dsk_q ez40 ez47 ez48 ez51 bz36 bz39 bz43 bz46 rfl (by omega) (by omega) (by omega)
          have j61 : ∀ (J61 : Nat → Nat → Int64) (H : Heap) (lo : List Loc) (ls : Array Slot), (∀ b, ¬ (K b = 12 ∧ (G b = G p0)) → J61 b = J b) → (rowI (dskD p1.toInt) (J61 (wo Q p0)) v16_2.toInt (v26_3.toInt + 1)) → va_P (dC, dI) vwCl (Wd cs L K Iz11 J61 Q) H → va_S A s.heap H lo → lv_has ls 4 [(0, .ref p0), (1, .int p1), (2, .int v16_2), (3, .int v26_3)] → W p l e R s m (([.ref p0, .int p1] : List Value).toArray) below meth c H lo 0 0 Qz (F0 m 61 ls []) := by
            intro J61 H lo ls dj_J61 h61 hP hS hl
            obtain ⟨z61, ez61⟩ : ∃ y : Int32, y = v26_3 + 1 := ⟨_, rfl⟩
            refine lv_iinc (v := z61) (lv' := [(3, .int z61), (0, .ref p0), (1, .int p1), (2, .int v16_2)]) hx hb dX4_fillDisk_61 hl (k := 3) rfl (by rw [ez61]; rfl) (by decide) rfl (fun ls hl => ?_)
            have bz61 := tq_add (k := v26_3.toInt) (q := 1) ez61 rfl (by decide +kernel) (by omega) (by omega)
            refine lv_goto (tgt := 26) hx hb dX4_fillDisk_64 (by decide) ?_
            exact ih26 _ (by omega) z61 J61 _ _ _ rfl ⟨by omega, by omega⟩ dj_J61 (ri_eq h61 rfl rfl (by omega)) hP hS (lv_sub hl [1, 2, 3, 0] rfl)
          refine lv_icmp_gt (tgt := 61) hx hb dX4_fillDisk_52 (by decide) (fun c52 => ?_) (fun c52 => ?_)
          · have t52 := tq_lt (k := z51.toInt) (q := z48.toInt) c52 rfl rfl
            exact j61 J26 _ _ _ dj_J26 (ri_skip h26 (decide_eq_false (fun w => by have w2 := w.2; have q1 := Q52.1; have q2 := Q52.2; omega)) rfl) hP hS (lv_sub hl [0, 1, 2, 3] rfl)
          · have t52 := tq_nlt (k := z51.toInt) (q := z48.toInt) c52 rfl rfl
            refine lv_aload_n hx hb dX4_fillDisk_55 rfl (lv_at hl 0 rfl) ?_
            refine lv_iload_n hx hb dX4_fillDisk_56 rfl (lv_at hl 3 rfl) ?_
            refine lv_iload_n hx hb dX4_fillDisk_57 rfl (lv_at hl 2 rfl) ?_
            refine sw_v (Z := (fun I1 J1 => Iv L K x0 m0 tx tm I1 ∧ I1 = Iz11 ∧ (∀ x y : Int, md (J1 (wo Q p0)) x y = (md (J26 (wo Q p0)) x y ^^ decide ((0 ≤ v26_3.toInt ∧ v26_3.toInt < (Iz11 p0 0).toInt ∧ 0 ≤ v16_2.toInt ∧ v16_2.toInt < (Iz11 p0 1).toInt) ∧ x = v26_3.toInt ∧ y = v16_2.toInt))) ∧ (∀ b, ¬ (K b = 12 ∧ (G b = G p0)) → J1 b = J26 b))) (va_runV (As := [.int v26_3, .int v16_2]) (rest := []) ⟨hx, hb, hml, hown, hts⟩ (s_X3_toggle l dC dI cs L K G Q hQ x0 m0 tx tm H.size Iz11 J26 hIz11 p0 hLp0 hKp0 v26_3 v16_2) (cwV 2 hts (gV pq513 pq514 pq515 pq76 pq516) rfl rfl rfl (by decide +kernel) ⟨(by rw [hR]; exact (Nat.le_of_ble_eq_true rfl)), (by rw [hR]; exact (Nat.le_of_ble_eq_true rfl))⟩) (sP_V hP hD hK hN hLp0 hKp0 rfl rfl) rfl rfl hl.1 rfl (lv_room (Nat.le_of_ble_eq_true rfl)) dX4_fillDisk_58 ⟨(by rw [hR]; exact (Nat.le_of_ble_eq_true rfl)), (by rw [hR]; exact (Nat.le_of_ble_eq_true rfl))⟩) hS hAL hA (fun Iz58 Jz58 H locs hz58 hIz58 hP hS => ?_)
            obtain ⟨hIz58, sm58, jz58, djc58⟩ := hIz58
            have dj_Jz58 : (∀ b, ¬ (K b = 12 ∧ (G b = G p0)) → Jz58 b = J b) := fun b hc => (djc58 b (fun z => hc (by exact ⟨z.1, by have z2 := z.2; omega⟩))).trans (dj_J26 b hc)
            obtain rfl : Iz11 = Iz58 := sm58.symm
            exact j61 Jz58 _ _ _ dj_Jz58 (ri_put h26 (decide_eq_true ⟨⟨⟨by omega, by omega⟩, ⟨by omega, by omega⟩⟩, by have q1 := Q52.1; have q2 := Q52.2; omega⟩) jz58 ⟨by omega, by omega, by omega, by omega⟩ rfl rfl rfl) hP hS (lv_sub hl [0, 1, 2, 3] rfl))
      exact key26 _ 0 J16 _ _ _ rfl ⟨by decide +kernel, by decide +kernel⟩ dj_J16 (ri_eq h16 rfl rfl (by decide +kernel)) hP hS (lv_sub hl [1, 2, 3, 0] rfl))
  exact key16 _ 0 Jz11 _ _ _ rfl ⟨by decide +kernel, by decide +kernel⟩ dj_Jz11 (ri_0 (fun x y q => by have := dskD_in q; omega) jz11 (by decide +kernel) rfl) hP hS (lv_sub hl [1, 2, 0] rfl)

def cl6 (c v w : Int) : Prop := (v = w ∧ w ≤ c) ∨ (v = c ∧ c ≤ w)
theorem cl6_step {c v w b m : Int} (h : cl6 c v w) (hb : 48 ≤ b ∧ b ≤ 57) (h0 : 0 ≤ v) (hc : 1000 ≤ c) (h1 : m ≤ 10 * v + b - 48) (h2 : m ≤ c) (h3 : m = 10 * v + b - 48 ∨ m = c) : cl6 c m (10 * w + (b - 48)) := by
  unfold cl6 at h ⊢; omega
theorem cl6_lt {c v w : Int} (h : cl6 c v w) (hv : v < c) : v = w := by unfold cl6 at h; omega
theorem vl_step {f : Nat → Int32} {n j s s2 : Int} {z : Int32} (h : j ≤ s) (h0 : 0 ≤ s) (hs : s < n) (e : z = f s.toNat) (h2 : s2 = s + 1) : vl (tb f n) j (s2 - j).toNat = 10 * vl (tb f n) j (s - j).toNat + (z.toInt - 48) := by
  rw [show (s2 - j).toNat = (s - j).toNat + 1 by omega]
  show 10 * vl (tb f n) j (s - j).toNat + (tb f n (j + ((s - j).toNat : Nat)) - 48) = _
  rw [show j + (((s - j).toNat : Nat) : Int) = s by omega, tb_at h0 hs e]
theorem pn_none {t : Int → Int} {lo hi i : Int} (h : dg t (sk t i) = sk t i) : pn t lo hi i = (8 * sk t i + 1, sk t i) := if_pos h
theorem pn_ok {t : Int → Int} {lo hi i c v : Int} (h : ¬ dg t (sk t i) = sk t i) (hv : cl6 c v (vl t (sk t i) (dg t (sk t i) - sk t i).toNat)) (h1 : lo ≤ v ∧ v ≤ hi) (hh : hi < c) : pn t lo hi i = (0, dg t (sk t i)) := by
  unfold pn; unfold cl6 at hv; rw [if_neg h, if_pos (by omega)]
theorem pn_bad {t : Int → Int} {lo hi i c v : Int} (h : ¬ dg t (sk t i) = sk t i) (hv : cl6 c v (vl t (sk t i) (dg t (sk t i) - sk t i).toNat)) (h1 : ¬ (lo ≤ v ∧ v ≤ hi)) (hl : lo < c) (hh : hi < c) : pn t lo hi i = (8 * sk t i + 2, dg t (sk t i)) := by
  unfold pn; unfold cl6 at hv; rw [if_neg h, if_neg (by omega)]

set_option maxHeartbeats 4000000 in
set_option maxRecDepth 100000 in
theorem s_X4_readNumber (l : Launch) (dC : Nat → ClassId) (dI : Nat → Nat → Nat) (cs : Nat → ClassId) (L : List Nat) (K G : Nat → Nat) (Q : Nat → Nat → Option Nat) (hQ : Sv L K G Q) (x0 m0 : Nat) (tx : GT) (tm : GT × Int) (sz : Nat) (I : Nat → Nat → Int32) (J : Nat → Nat → Int64) (hI : Iv L K x0 m0 tx tm I) (p0 : Nat) (hLp0 : p0 ∈ L) (hKp0 : K p0 = 4) (p1 : Int32) (bp1 : (0) ≤ p1.toInt ∧ p1.toInt ≤ 1) (p2 : Int32) (bp2 : (-1) ≤ p2.toInt ∧ p2.toInt ≤ 1000) : Met l yX4_readNumber (.code yX4_readNumber cX4_readNumber 4 (some .boolean) :: pw) ({ frames := 1, cells := 0, slots := 0, locals := 22 }) (sP (dC, dI) cs [.ref p0, .int p1, .int p2] sz L K I J Q) (va_Qi (fun (r : Int32) (u : Int32) => u = r ∧ ((0) ≤ r.toInt ∧ r.toInt ≤ 1)) (fun u t => sB (dC, dI) cs L K Q (fun I1 J1 => Iv L K x0 m0 tx tm I1 ∧ (∀ b, ¬ (b = p0) → I1 b = I b) ∧ (¬ u.toInt = 0 → p1.toInt ≤ (I1 p0 4).toInt ∧ (I1 p0 4).toInt ≤ p2.toInt) ∧ rdP I I1 p0 u (pn (tb tx.2.2 (I p0 1).toInt) p1.toInt p2.toInt (I p0 2).toInt) ∧ (¬ u.toInt = 0 → (I1 p0 4).toInt = nv (tb tx.2.2 (I p0 1).toInt) (I p0 2).toInt) ∧ J1 = J) t) (fun q => q ∈ L ∨ sz ≤ q)) 0 0 (fun q => q ∈ L ∨ sz ≤ q) := by
  refine Met.ofW (cc := cX4_readNumber) (maxL := 4) (ret := (some .boolean)) (by decide +kernel) rfl ?_
  intro p e s m args below meth c s₁ B hml hv
  obtain ⟨rfl, hsz, hP, hK, hD0, hN⟩ := hv
  have hx := B.exec
  have hb := B.bytes
  have hr := B.returns
  have hts := fun w (h : w ∈ pw) => atoms_spec (ws := Cond.code yX4_readNumber cX4_readNumber 4 (some .boolean) :: pw) B.pre w (List.mem_cons_of_mem _ h)
  have hown : s.vm.findClass RX4 = some m.cls := findClass_of_methodNamed B.named
  have hlocks := B.notSynchronized
  subst hsz
  have hBB : 999 ≤ tm.2 ∧ tm.2 ≤ 6000000 := hI.2.2.2.2.1
  have dj_J : J = J := rfl
  have fr_I : ∀ b, ¬ (b = p0) → I b = I b := fun _ _ => rfl
  obtain ⟨A, hAe⟩ : ∃ A : Nat → Prop, A = (fun q => q ∈ L ∨ s.heap.size ≤ q) := ⟨_, rfl⟩
  rw [← hAe]
  have hAL : ∀ q, q ∈ L → A q := fun q h => by rw [hAe]; exact Or.inl h
  have hA : ∀ q, s.heap.size ≤ q → A q := fun q h => by rw [hAe]; exact Or.inr h
  have hD : ∀ F, va_D A (va_pl L F) := fun F => (hD0 F).weaken (fun k q hk _ => hAL _ (pl_mem hk))
  obtain ⟨H, hHe⟩ : ∃ H : Heap, H = s.heap := ⟨_, rfl⟩
  have hS : va_S A s.heap H [] := by rw [hHe]; exact va_S.rf
  rw [← hHe] at hP
  have hl := lv_entry ([.ref p0, .int p1, .int p2]) (n := 4) (Nat.le_of_ble_eq_true rfl)
  rw [lg_entry_eq]
  generalize (lg_sl ([.ref p0, .int p1, .int p2]) ++ List.replicate (4 - (lg_sl ([.ref p0, .int p1, .int p2])).length) Slot.unset).toArray = ls at hl ⊢
  have hl : lv_has ls 4 [(0, .ref p0), (1, .int p1), (2, .int p2)] := hl
  rw [← hHe]
  refine namedW (fun R Qz hR hQz => ?_)
  refine lv_aload_n hx hb dX4_readNumber_0 rfl (lv_at hl 0 rfl) ?_
  refine sw_v (Z := (fun I1 J1 => Iv L K x0 m0 tx tm I1 ∧ (∀ b, ¬ (b = p0) → I1 b = I b) ∧ I1 p0 1 = I p0 1 ∧ I1 p0 4 = I p0 4 ∧ rdA I I1 p0 (sk (tb tx.2.2 (I p0 1).toInt) (I p0 2).toInt) ∧ J1 = J)) (va_runV (As := []) (rest := []) ⟨hx, hb, hml, hown, hts⟩ (s_X4_skipBlanks l dC dI cs L K G Q hQ x0 m0 tx tm H.size I J hI p0 hLp0 hKp0) (cwV 0 hts (gV pq417 pq418 pq419 pq78 pq420) rfl rfl rfl (by decide +kernel) ⟨(by rw [hR]; exact (Nat.le_of_ble_eq_true rfl)), (by rw [hR]; exact (Nat.le_of_ble_eq_true rfl))⟩) (sP_V hP hD hK hN hLp0 hKp0 rfl rfl) rfl rfl hl.1 rfl (lv_room (Nat.le_of_ble_eq_true rfl)) dX4_readNumber_1 ⟨(by rw [hR]; exact (Nat.le_of_ble_eq_true rfl)), (by rw [hR]; exact (Nat.le_of_ble_eq_true rfl))⟩) hS hAL hA (fun Iz1 Jz1 H locs hz1 hIz1 hP hS => ?_)
  obtain ⟨hIz1, frc1, kc1_0_1, kc1_0_4, fz1, djc1⟩ := hIz1
  obtain rfl : J = Jz1 := djc1.symm
  have fr_Iz1 : ∀ b, ¬ (b = p0) → Iz1 b = I b := fun b q => (frc1 b (fun z => q (z))).trans (fr_I b q)
  refine lv_aload_n hx hb dX4_readNumber_4 rfl (lv_at hl 0 rfl) ?_
  refine p_get hx hb hts inX4 hown hK hP hLp0 hKp0 rfl rfl 2 (by decide) (hts _ pq249) rfl dX4_readNumber_5 ?_
  refine lv_topi (fun z5 ez5 => ?_)
  have cgz5 := congrArg Int32.toInt ez5
  have bz5 := oI_4_2 (Iv_at hIz1 hLp0 hKp0)
  rw [← ez5] at bz5
  have e5 : z5.toInt = (sk (tb tx.2.2 (I p0 1).toInt) (I p0 2).toInt) := cgz5.trans fz1.1
  refine lv_istore_n (lv' := [(3, .int z5), (0, .ref p0), (1, .int p1), (2, .int p2)]) hx hb dX4_readNumber_8 rfl hl (by decide) rfl (fun ls hl => ?_)
  refine lv_aload_n hx hb dX4_readNumber_9 rfl (lv_at hl 1 rfl) ?_
  refine lv_iconst (v := 0) hx hb dX4_readNumber_10 (by decide +kernel) ?_
  refine p_put hx hb hts inX4 tyX4 tyX4_ok nmX4 hown hK hP hD hS hLp0 hKp0 rfl rfl 4 (by decide) (hts _ pq251) rfl (by decide +kernel) (Nat.le_of_ble_eq_true rfl) (oS_4_4 cs _ _ _ _) dX4_readNumber_11 (fun H locs hP hS => ?_)
  obtain ⟨Iz11, hP, hIz11, qIz11⟩ : ∃ Iz11, va_P (dC, dI) vwCl (Wd cs L K Iz11 J Q) H ∧ Iv L K x0 m0 tx tm Iz11 ∧ Iz11 = va_up Iz1 p0 (upd (Iz1 p0) 4 (0 : Int32)) := ⟨_, hP, Iv_put hIz1 hKp0 (oP_4_4 (Iv_at hIz1 hLp0 hKp0) ⟨by decide +kernel, by decide +kernel⟩) (by decide) (by decide), rfl⟩
  have fr_Iz11 : ∀ b, ¬ (b = p0) → Iz11 b = I b := fun b q => (congrFun qIz11 b).trans ((va_up_ne _ _ (fun z => q z)).trans (fr_Iz1 b q))
  have key14 := blocks (fun n => ∀ (I14 : Nat → Nat → Int32) (H : Heap) (lo : List Loc) (ls : Array Slot), (401 - (I14 p0 2).toInt).toNat = n → Iv L K x0 m0 tx tm I14 → (∀ b, ¬ (b = p0) → I14 b = I b) → 0 ≤ (I14 p0 4).toInt → (z5.toInt ≤ (I14 p0 2).toInt ∧ (I14 p0 1 = I p0 1 ∧ I14 p0 5 = I p0 5) ∧ (∀ k, z5.toInt ≤ k → k < (I14 p0 2).toInt → pD ((tb tx.2.2 (I p0 1).toInt) k) = true) ∧ cl6 1000000 (I14 p0 4).toInt (vl (tb tx.2.2 (I p0 1).toInt) z5.toInt ((I14 p0 2).toInt - z5.toInt).toNat)) → va_P (dC, dI) vwCl (Wd cs L K I14 J Q) H → va_S A s.heap H lo → lv_has ls 4 [(0, .ref p0), (1, .int p1), (2, .int p2), (3, .int z5)] → W p l e R s m (([.ref p0, .int p1, .int p2] : List Value).toArray) below meth c H lo 0 0 Qz (F0 m 14 ls [])) (by
    intro n ih14
    intro I14 H lo ls hmu14 hI14 fr_I14 hn hv hP hS hl
    refine lv_aload_n hx hb dX4_readNumber_14 rfl (lv_at hl 0 rfl) ?_
    refine p_get hx hb hts inX4 hown hK hP hLp0 hKp0 rfl rfl 2 (by decide) (hts _ pq249) rfl dX4_readNumber_15 ?_
    refine lv_topi (fun z15 ez15 => ?_)
    have cgz15 := congrArg Int32.toInt ez15
    have bz15 := oI_4_2 (Iv_at hI14 hLp0 hKp0)
    rw [← ez15] at bz15
    refine lv_aload_n hx hb dX4_readNumber_18 rfl (lv_at hl 0 rfl) ?_
    refine p_get hx hb hts inX4 hown hK hP hLp0 hKp0 rfl rfl 1 (by decide) (hts _ pq248) rfl dX4_readNumber_19 ?_
    refine lv_topi (fun z19 ez19 => ?_)
    have bz19 := oI_4_1 (Iv_at hI14 hLp0 hKp0)
    rw [← ez19] at bz19
    have j95 : ∀ (H : Heap) (lo : List Loc) (ls : Array Slot), (I14 p0 2).toInt = dg (tb tx.2.2 (I p0 1).toInt) z5.toInt → va_P (dC, dI) vwCl (Wd cs L K I14 J Q) H → va_S A s.heap H lo → lv_has ls 4 [(0, .ref p0), (1, .int p1), (2, .int p2), (3, .int z5)] → W p l e R s m (([.ref p0, .int p1, .int p2] : List Value).toArray) below meth c H lo 0 0 Qz (F0 m 95 ls []) := by
      intro H lo ls h95 hP hS hl
      refine lv_aload_n hx hb dX4_readNumber_95 rfl (lv_at hl 0 rfl) ?_
      refine p_get hx hb hts inX4 hown hK hP hLp0 hKp0 rfl rfl 2 (by decide) (hts _ pq249) rfl dX4_readNumber_96 ?_
      refine lv_topi (fun z96 ez96 => ?_)
      obtain rfl : z15 = z96 := ez15.trans ez96.symm
      refine lv_iload_n hx hb dX4_readNumber_99 rfl (lv_at hl 3 rfl) ?_
      refine lv_icmp_ne (tgt := 110) hx hb dX4_readNumber_100 (by decide) (fun c100 => ?_) (fun c100 => ?_)
      · have t100 := tq_ne (k := z15.toInt) (q := z5.toInt) c100 rfl rfl
        refine lv_aload_n hx hb dX4_readNumber_110 rfl (lv_at hl 0 rfl) ?_
        refine p_get hx hb hts inX4 hown hK hP hLp0 hKp0 rfl rfl 4 (by decide) (hts _ pq251) rfl dX4_readNumber_111 ?_
        refine lv_topi (fun z111 ez111 => ?_)
        have cgz111 := congrArg Int32.toInt ez111
        have bz111 := oI_4_4 (Iv_at hI14 hLp0 hKp0)
        rw [← ez111] at bz111
        refine lv_iload_n hx hb dX4_readNumber_114 rfl (lv_at hl 1 rfl) ?_
        have j126 : ∀ (H : Heap) (lo : List Loc) (ls : Array Slot), ¬ (p1.toInt ≤ z111.toInt ∧ z111.toInt ≤ p2.toInt) → va_P (dC, dI) vwCl (Wd cs L K I14 J Q) H → va_S A s.heap H lo → lv_has ls 4 [(0, .ref p0), (1, .int p1), (2, .int p2), (3, .int z5)] → W p l e R s m (([.ref p0, .int p1, .int p2] : List Value).toArray) below meth c H lo 0 0 Qz (F0 m 126 ls []) := by
          intro H lo ls h126 hP hS hl
          refine lv_aload_n hx hb dX4_readNumber_126 rfl (lv_at hl 0 rfl) ?_
          refine lv_iload_n hx hb dX4_readNumber_127 rfl (lv_at hl 3 rfl) ?_
          refine lv_iconst (v := 2) hx hb dX4_readNumber_128 (by decide +kernel) ?_
          refine sw_ir (Z := (fun u => (fun I1 J1 => Iv L K x0 m0 tx tm I1 ∧ (∀ b, ¬ (b = p0) → I1 b = I14 b) ∧ rdF I14 I1 p0 (8 * z5.toInt + (2 : Int32).toInt) ∧ J1 = J))) (va_runV (As := [.int z5, .int 2]) (rest := []) ⟨hx, hb, hml, hown, hts⟩ (s_X4_failAt l dC dI cs L K G Q hQ x0 m0 tx tm H.size I14 J hI14 p0 hLp0 hKp0 z5 ⟨by omega, by omega⟩ 2 ⟨by decide +kernel, by decide +kernel⟩) (cwV 2 hts (gV pq478 pq479 pq480 pq78 pq481) rfl rfl rfl (by decide +kernel) ⟨(by rw [hR]; exact (Nat.le_of_ble_eq_true rfl)), (by rw [hR]; exact (Nat.le_of_ble_eq_true rfl))⟩) (sP_V hP hD hK hN hLp0 hKp0 rfl rfl) rfl rfl hl.1 rfl (lv_room (Nat.le_of_ble_eq_true rfl)) dX4_readNumber_129 ⟨(by rw [hR]; exact (Nat.le_of_ble_eq_true rfl)), (by rw [hR]; exact (Nat.le_of_ble_eq_true rfl))⟩) hS hAL hA (fun z129 Iz129 Jz129 H locs hz129 hIz129 hP hS => ?_)
          obtain ⟨hIz129, frc129, fz129, djc129⟩ := hIz129
          obtain rfl : J = Jz129 := djc129.symm
          have fr_Iz129 : ∀ b, ¬ (b = p0) → Iz129 b = I b := fun b q => (frc129 b (fun z => q (z))).trans (fr_I14 b q)
          have cst129_2 : (2 : Int32).toInt = 2 := by decide +kernel
          have bz129 := hz129
          refine lv_if_eq (tgt := 139) hx hb dX4_readNumber_132 (by decide) (fun c132 => ?_) (fun c132 => by have t132 := tq_ne (k := z129.toInt) (q := (0)) c132 rfl (by decide +kernel); omega)
          have t132 := tq_eq (k := z129.toInt) (q := (0)) c132 rfl (by decide +kernel)
          refine lv_iconst (v := 0) hx hb dX4_readNumber_139 (by decide +kernel) ?_
          subst hR; subst hQz
          exact W.zret (v := 0) hx hb hr (by decide +kernel) (fun t ht hW => ⟨⟨0, 0, rfl, ⟨rfl, ⟨by decide +kernel, by decide +kernel⟩⟩, ⟨Iz129, J, ⟨hIz129, fr_Iz129, fun h => absurd (by decide +kernel) h, (by rw [pn_bad (by rw [← e5, ← h95]; omega) (by rw [← e5, ← h95]; exact hv.2.2.2) (by rw [← cgz111]; exact h126) (by omega) (by omega)]; exact rdP_bad (by omega) (by first | omega | decide +kernel) (rdA_F (show rdA I I14 p0 (I14 p0 2).toInt from ⟨rfl, hv.2.1⟩) (by have q := fz129; rw [cst129_2, e5] at q; exact q))), (fun h => absurd (by decide +kernel) h), dj_J⟩, by rw [ht]; exact hP⟩⟩, hS.F ht⟩) hS.2.2 dX4_readNumber_140
        refine lv_icmp_lt (tgt := 126) hx hb dX4_readNumber_115 (by decide) (fun c115 => ?_) (fun c115 => ?_)
        · have t115 := tq_lt (k := z111.toInt) (q := p1.toInt) c115 rfl rfl
          exact j126  _ _ _ (fun h => by omega) hP hS (lv_sub hl [0, 1, 2, 3] rfl)
        · have t115 := tq_nlt (k := z111.toInt) (q := p1.toInt) c115 rfl rfl
          refine lv_aload_n hx hb dX4_readNumber_118 rfl (lv_at hl 0 rfl) ?_
          refine p_get hx hb hts inX4 hown hK hP hLp0 hKp0 rfl rfl 4 (by decide) (hts _ pq251) rfl dX4_readNumber_119 ?_
          refine lv_topi (fun z119 ez119 => ?_)
          obtain rfl : z111 = z119 := ez111.trans ez119.symm
          refine lv_iload_n hx hb dX4_readNumber_122 rfl (lv_at hl 2 rfl) ?_
          refine lv_icmp_le (tgt := 135) hx hb dX4_readNumber_123 (by decide) (fun c123 => ?_) (fun c123 => ?_)
          · have t123 := tq_le (k := z111.toInt) (q := p2.toInt) c123 rfl rfl
            refine lv_iconst (v := 1) hx hb dX4_readNumber_135 (by decide +kernel) ?_
            refine lv_goto (tgt := 140) hx hb dX4_readNumber_136 (by decide) ?_
            subst hR; subst hQz
            exact W.zret (v := 1) hx hb hr (by decide +kernel) (fun t ht hW => ⟨⟨1, 1, rfl, ⟨rfl, ⟨by decide +kernel, by decide +kernel⟩⟩, ⟨I14, J, ⟨hI14, fr_I14, fun _ => ⟨by omega, by omega⟩, (by rw [pn_ok (by rw [← e5, ← h95]; omega) (by rw [← e5, ← h95]; exact hv.2.2.2) ⟨by omega, by omega⟩ (by omega)]; exact rdP_yes (by decide +kernel) ⟨by rw [← e5]; exact h95, hv.2.1⟩), (fun _ => by unfold nv; rw [← e5, ← h95]; exact cl6_lt hv.2.2.2 (by omega)), dj_J⟩, by rw [ht]; exact hP⟩⟩, hS.F ht⟩) hS.2.2 dX4_readNumber_140
          · have t123 := tq_nle (k := z111.toInt) (q := p2.toInt) c123 rfl rfl
            exact j126  _ _ _ (fun h => by omega) hP hS (lv_sub hl [0, 1, 2, 3] rfl)
      · have t100 := tq_eq (k := z15.toInt) (q := z5.toInt) c100 rfl rfl
        refine lv_aload_n hx hb dX4_readNumber_103 rfl (lv_at hl 0 rfl) ?_
        refine lv_iload_n hx hb dX4_readNumber_104 rfl (lv_at hl 3 rfl) ?_
        refine lv_iconst (v := 1) hx hb dX4_readNumber_105 (by decide +kernel) ?_
        refine sw_ir (Z := (fun u => (fun I1 J1 => Iv L K x0 m0 tx tm I1 ∧ (∀ b, ¬ (b = p0) → I1 b = I14 b) ∧ rdF I14 I1 p0 (8 * z5.toInt + (1 : Int32).toInt) ∧ J1 = J))) (va_runV (As := [.int z5, .int 1]) (rest := []) ⟨hx, hb, hml, hown, hts⟩ (s_X4_failAt l dC dI cs L K G Q hQ x0 m0 tx tm H.size I14 J hI14 p0 hLp0 hKp0 z5 ⟨by omega, by omega⟩ 1 ⟨by decide +kernel, by decide +kernel⟩) (cwV 2 hts (gV pq478 pq479 pq480 pq78 pq481) rfl rfl rfl (by decide +kernel) ⟨(by rw [hR]; exact (Nat.le_of_ble_eq_true rfl)), (by rw [hR]; exact (Nat.le_of_ble_eq_true rfl))⟩) (sP_V hP hD hK hN hLp0 hKp0 rfl rfl) rfl rfl hl.1 rfl (lv_room (Nat.le_of_ble_eq_true rfl)) dX4_readNumber_106 ⟨(by rw [hR]; exact (Nat.le_of_ble_eq_true rfl)), (by rw [hR]; exact (Nat.le_of_ble_eq_true rfl))⟩) hS hAL hA (fun z106 Iz106 Jz106 H locs hz106 hIz106 hP hS => ?_)
        obtain ⟨hIz106, frc106, fz106, djc106⟩ := hIz106
        obtain rfl : J = Jz106 := djc106.symm
        have fr_Iz106 : ∀ b, ¬ (b = p0) → Iz106 b = I b := fun b q => (frc106 b (fun z => q (z))).trans (fr_I14 b q)
        have cst106_1 : (1 : Int32).toInt = 1 := by decide +kernel
        have bz106 := hz106
        subst hR; subst hQz
        exact W.zret (v := z106) hx hb hr (nar01 (by omega) (by omega)) (fun t ht hW => ⟨⟨z106, z106, rfl, ⟨rfl, ⟨by omega, by omega⟩⟩, ⟨Iz106, J, ⟨hIz106, fr_Iz106, fun h => absurd (by omega) h, (by rw [pn_none (by rw [← e5, ← h95]; omega)]; exact rdP_bad (by omega) (by omega) (rdA_F (show rdA I I14 p0 (I14 p0 2).toInt from ⟨rfl, hv.2.1⟩) (by have q := fz106; rw [cst106_1, e5] at q; exact q))), (fun h => absurd (by omega) h), dj_J⟩, by rw [ht]; exact hP⟩⟩, hS.F ht⟩) hS.2.2 dX4_readNumber_109
    refine lv_icmp_ge (tgt := 95) hx hb dX4_readNumber_22 (by decide) (fun c22 => ?_) (fun c22 => ?_)
    · have t22 := tq_le (k := z19.toInt) (q := z15.toInt) c22 rfl rfl
      exact j95  _ _ _ (rn_out (by decide) hv.1 (by omega) hv.2.2.1 (by rw [← hv.2.1.1, ← ez19, ← cgz15]; omega)) hP hS (lv_sub hl [0, 1, 2, 3] rfl)
    · have t22 := tq_nle (k := z19.toInt) (q := z15.toInt) c22 rfl rfl
      refine lv_aload_n hx hb dX4_readNumber_25 rfl (lv_at hl 0 rfl) ?_
      obtain ⟨y26, ey26, hLy26, hKy26⟩ := oQ_4_0 (Sv_at hQ hLp0 hKp0)
      refine p_get (v := .ref y26) hx hb hts inX4 hown hK hP hLp0 hKp0 rfl rfl 0 (by decide) (hts _ pq247) (congrArg (fun q => some (va_rf q)) ey26) dX4_readNumber_26 ?_
      refine lv_aload_n hx hb dX4_readNumber_29 rfl (lv_at hl 0 rfl) ?_
      refine p_get hx hb hts inX4 hown hK hP hLp0 hKp0 rfl rfl 2 (by decide) (hts _ pq249) rfl dX4_readNumber_30 ?_
      refine lv_topi (fun z30 ez30 => ?_)
      obtain rfl : z15 = z30 := ez15.trans ez30.symm
      refine p_bald hx hb hK hP 0 hLy26 hKy26 rfl rfl (in_of (by omega) (by omega)) dX4_readNumber_33 ?_
      refine lv_topi (fun z33 ez33 => ?_)
      have tz33 : z33 = tx.2.2 (z15).toInt.toNat := ez33.trans (congrFun (hI14.2.2.2.2.2.1 y26 hLy26 hKy26).2.1 _)
      refine lv_bipush (v := 48) hx hb dX4_readNumber_34 (by decide +kernel) ?_
      refine lv_icmp_lt (tgt := 95) hx hb dX4_readNumber_36 (by decide) (fun c36 => ?_) (fun c36 => ?_)
      · have t36 := tq_lt (k := z33.toInt) (q := (48)) c36 rfl (by decide +kernel)
        exact j95  _ _ _ (rn_hit (z := z33) hv.1 (by omega) hv.2.2.1 (by omega) (by rw [← hv.2.1.1, ← ez19, ← cgz15]; omega) (by rw [← cgz15]; exact tz33) (decide_eq_false (fun h => by omega))) hP hS (lv_sub hl [0, 1, 2, 3] rfl)
      · have t36 := tq_nlt (k := z33.toInt) (q := (48)) c36 rfl (by decide +kernel)
        refine lv_aload_n hx hb dX4_readNumber_39 rfl (lv_at hl 0 rfl) ?_
        refine p_get (v := .ref y26) hx hb hts inX4 hown hK hP hLp0 hKp0 rfl rfl 0 (by decide) (hts _ pq247) (congrArg (fun q => some (va_rf q)) ey26) dX4_readNumber_40 ?_
        refine lv_aload_n hx hb dX4_readNumber_43 rfl (lv_at hl 0 rfl) ?_
        refine p_get hx hb hts inX4 hown hK hP hLp0 hKp0 rfl rfl 2 (by decide) (hts _ pq249) rfl dX4_readNumber_44 ?_
        refine lv_topi (fun z44 ez44 => ?_)
        obtain rfl : z15 = z44 := ez15.trans ez44.symm
        refine p_bald hx hb hK hP 0 hLy26 hKy26 rfl rfl (in_of (by omega) (by omega)) dX4_readNumber_47 ?_
        refine lv_topi (fun z47 ez47 => ?_)
        obtain rfl : z33 = z47 := ez33.trans ez47.symm
        refine lv_bipush (v := 57) hx hb dX4_readNumber_48 (by decide +kernel) ?_
        refine lv_icmp_gt (tgt := 95) hx hb dX4_readNumber_50 (by decide) (fun c50 => ?_) (fun c50 => ?_)
        · have t50 := tq_lt (k := (57)) (q := z33.toInt) c50 (by decide +kernel) rfl
          exact j95  _ _ _ (rn_hit (z := z33) hv.1 (by omega) hv.2.2.1 (by omega) (by rw [← hv.2.1.1, ← ez19, ← cgz15]; omega) (by rw [← cgz15]; exact tz33) (decide_eq_false (fun h => by omega))) hP hS (lv_sub hl [0, 1, 2, 3] rfl)
        · have t50 := tq_nlt (k := (57)) (q := z33.toInt) c50 (by decide +kernel) rfl
          refine lv_aload_n hx hb dX4_readNumber_53 rfl (lv_at hl 0 rfl) ?_
          refine lv_bipush (v := 10) hx hb dX4_readNumber_54 (by decide +kernel) ?_
          refine lv_aload_n hx hb dX4_readNumber_56 rfl (lv_at hl 0 rfl) ?_
          refine p_get hx hb hts inX4 hown hK hP hLp0 hKp0 rfl rfl 4 (by decide) (hts _ pq251) rfl dX4_readNumber_57 ?_
          refine lv_topi (fun z57 ez57 => ?_)
          have cgz57 := congrArg Int32.toInt ez57
          have bz57 := oI_4_4 (Iv_at hI14 hLp0 hKp0)
          rw [← ez57] at bz57
          refine lv_imul hx hb dX4_readNumber_60 ?_
          refine lv_topi (fun z60 ez60 => ?_)
          have bz60 := tq_mul (k := (10)) (q := z57.toInt) ez60 (by decide +kernel) rfl (by omega) (by omega)
          refine lv_aload_n hx hb dX4_readNumber_61 rfl (lv_at hl 0 rfl) ?_
          refine p_get (v := .ref y26) hx hb hts inX4 hown hK hP hLp0 hKp0 rfl rfl 0 (by decide) (hts _ pq247) (congrArg (fun q => some (va_rf q)) ey26) dX4_readNumber_62 ?_
          refine lv_aload_n hx hb dX4_readNumber_65 rfl (lv_at hl 0 rfl) ?_
          refine p_get hx hb hts inX4 hown hK hP hLp0 hKp0 rfl rfl 2 (by decide) (hts _ pq249) rfl dX4_readNumber_66 ?_
          refine lv_topi (fun z66 ez66 => ?_)
          obtain rfl : z15 = z66 := ez15.trans ez66.symm
          refine p_bald hx hb hK hP 0 hLy26 hKy26 rfl rfl (in_of (by omega) (by omega)) dX4_readNumber_69 ?_
          refine lv_topi (fun z69 ez69 => ?_)
          obtain rfl : z33 = z69 := ez33.trans ez69.symm
          refine lv_iadd hx hb dX4_readNumber_70 ?_
          refine lv_topi (fun z70 ez70 => ?_)
          have bz70 := tq_add (k := z60.toInt) (q := z33.toInt) ez70 rfl rfl (by omega) (by omega)
          refine lv_bipush (v := 48) hx hb dX4_readNumber_71 (by decide +kernel) ?_
          refine lv_isub hx hb dX4_readNumber_73 ?_
          refine lv_topi (fun z73 ez73 => ?_)
          have bz73 := tq_sub (k := z70.toInt) (q := (48)) ez73 rfl (by decide +kernel) (by omega) (by omega)
          refine lv_ldc hx hb hown (hts _ pq491) dX4_readNumber_74 ?_
          refine va_mmin hx hb (hml.trans hl.1.symm) hown (hts _ pq406) (hts _ pq407) (hts _ pq82) (hts _ pq408) (by rw [hR]; exact (Nat.le_of_ble_eq_true rfl)) (by rw [hR]; exact (Nat.le_of_ble_eq_true rfl)) (by rw [hR]; exact (Nat.le_of_ble_eq_true rfl)) (by rw [hR]; exact (Nat.le_of_ble_eq_true rfl)) dX4_readNumber_76 ?_
          refine lv_topi (fun z76 ez76 => ?_)
          have bz76 := tq_min ez76
          have bz76y : (1000000 : Int32).toInt = 1000000 := by decide +kernel
          refine p_put hx hb hts inX4 tyX4 tyX4_ok nmX4 hown hK hP hD hS hLp0 hKp0 rfl rfl 4 (by decide) (hts _ pq251) rfl (by decide +kernel) (Nat.le_of_ble_eq_true rfl) (oS_4_4 cs _ _ _ _) dX4_readNumber_79 (fun H locs hP hS => ?_)
          obtain ⟨Iz79, hP, hIz79, qIz79⟩ : ∃ Iz79, va_P (dC, dI) vwCl (Wd cs L K Iz79 J Q) H ∧ Iv L K x0 m0 tx tm Iz79 ∧ Iz79 = va_up I14 p0 (upd (I14 p0) 4 z76) := ⟨_, hP, Iv_put hI14 hKp0 (oP_4_4 (Iv_at hI14 hLp0 hKp0) ⟨by omega, by omega⟩) (by decide) (by decide), rfl⟩
          have fr_Iz79 : ∀ b, ¬ (b = p0) → Iz79 b = I b := fun b q => (congrFun qIz79 b).trans ((va_up_ne _ _ (fun z => q z)).trans (fr_I14 b q))
          refine lv_aload_n hx hb dX4_readNumber_82 rfl (lv_at hl 0 rfl) ?_
          refine lv_dup hx hb dX4_readNumber_83 rfl ?_
          refine p_get hx hb hts inX4 hown hK hP hLp0 hKp0 rfl rfl 2 (by decide) (hts _ pq249) rfl dX4_readNumber_84 ?_
          refine lv_topi (fun z84 ez84 => ?_)
          obtain rfl : z15 = z84 := by rw [ez84, qIz79, rz_fr _ _ _ _ (by decide)]; exact ez15
          have ez15x84 := ez84
          refine lv_iconst (v := 1) hx hb dX4_readNumber_87 (by decide +kernel) ?_
          refine lv_iadd hx hb dX4_readNumber_88 ?_
          refine lv_topi (fun z88 ez88 => ?_)
          have bz88 := tq_add (k := z15.toInt) (q := (1)) ez88 rfl (by decide +kernel) (by omega) (by omega)
          refine p_put hx hb hts inX4 tyX4 tyX4_ok nmX4 hown hK hP hD hS hLp0 hKp0 rfl rfl 2 (by decide) (hts _ pq249) rfl (by decide +kernel) (Nat.le_of_ble_eq_true rfl) (oS_4_2 cs _ _ _ _) dX4_readNumber_89 (fun H locs hP hS => ?_)
          obtain ⟨Iz89, hP, hIz89, qIz89⟩ : ∃ Iz89, va_P (dC, dI) vwCl (Wd cs L K Iz89 J Q) H ∧ Iv L K x0 m0 tx tm Iz89 ∧ Iz89 = va_up Iz79 p0 (upd (Iz79 p0) 2 z88) := ⟨_, hP, Iv_put hIz79 hKp0 (oP_4_2 (Iv_at hIz79 hLp0 hKp0) ⟨by omega, by omega⟩) (by decide) (by decide), rfl⟩
          have fr_Iz89 : ∀ b, ¬ (b = p0) → Iz89 b = I b := fun b q => (congrFun qIz89 b).trans ((va_up_ne _ _ (fun z => q z)).trans (fr_Iz79 b q))
          refine lv_goto (tgt := 14) hx hb dX4_readNumber_92 (by decide) ?_
          exact ih14 _ (by rw [qIz89, rz_at]; omega) Iz89 _ _ _ rfl hIz89 fr_Iz89 (by rw [qIz89, rz_fr _ _ _ _ (by decide), qIz79, rz_at]; omega) ⟨by rw [qIz89, rz_at]; omega, ⟨by rw [qIz89, rz_fr _ _ _ _ (by decide), qIz79, rz_fr _ _ _ _ (by decide)]; exact hv.2.1.1, by rw [qIz89, rz_fr _ _ _ _ (by decide), qIz79, rz_fr _ _ _ _ (by decide)]; exact hv.2.1.2⟩, rn_step (z := z33) hv.2.2.1 (by omega) (by rw [← hv.2.1.1, ← ez19, ← cgz15]; omega) (by rw [← cgz15]; exact tz33) (decide_eq_true ⟨by omega, by omega⟩) (by rw [qIz89, rz_at]; omega), by rw [vl_step (z := z33) hv.1 (by omega) (by rw [← hv.2.1.1, ← ez19, ← cgz15]; omega) (by rw [← cgz15]; exact tz33) (by rw [qIz89, rz_at]; omega), qIz89, rz_fr _ _ _ _ (by decide), qIz79, rz_at]; exact cl6_step hv.2.2.2 ⟨by omega, by omega⟩ hn (by decide) (by omega) (by omega) (by omega)⟩ hP hS (lv_sub hl [0, 1, 2, 3] rfl))
  exact key14 _ Iz11 _ _ _ rfl hIz11 fr_Iz11 (by rw [qIz11, rz_at]; decide +kernel) ⟨by rw [qIz11, rz_fr _ _ _ _ (by decide)]; omega, ⟨by rw [qIz11, rz_fr _ _ _ _ (by decide)]; exact fz1.2.1, by rw [qIz11, rz_fr _ _ _ _ (by decide)]; exact fz1.2.2⟩, rn_nil (by rw [qIz11, rz_fr _ _ _ _ (by decide)]; omega), by rw [qIz11, rz_at, rz_fr _ _ _ _ (by decide), ← cgz5, Int.sub_self]; exact Or.inl ⟨rfl, (show (0 : Int) ≤ 1000000 by decide)⟩⟩ hP hS (lv_sub hl [1, 2, 3, 0] rfl)

theorem rdP_sgn {I Ia I1 : Nat → Nat → Int32} {p : Nat} {u : Int32} {f : Nat → Int32} {m : Int} {b : Int32} (h : (tb f (I p 1).toInt (sk (tb f (I p 1).toInt) (I p 2).toInt) = 45 → b.toInt = 1 ∧ rdA I Ia p (sk (tb f (I p 1).toInt) (I p 2).toInt + 1)) ∧ (¬ tb f (I p 1).toInt (sk (tb f (I p 1).toInt) (I p 2).toInt) = 45 → b.toInt = 0 ∧ rdA I Ia p (sk (tb f (I p 1).toInt) (I p 2).toInt))) (h2 : rdP Ia I1 p u (pn (tb f (Ia p 1).toInt) 0 m (Ia p 2).toInt)) : rdP I I1 p u (ps (tb f (I p 1).toInt) m (I p 2).toInt) := by
  unfold ps
  by_cases q : tb f (I p 1).toInt (sk (tb f (I p 1).toInt) (I p 2).toInt) = 45
  · rw [if_pos q]
    have h3 := (h.1 q).2
    rw [h3.1, h3.2.1] at h2
    exact rdP_A h3 h2
  · rw [if_neg q]
    have h3 := (h.2 q).2
    rw [h3.1, h3.2.1] at h2
    exact rdP_A h3 h2

set_option maxHeartbeats 4000000 in
set_option maxRecDepth 100000 in
theorem s_X4_readSigned (l : Launch) (dC : Nat → ClassId) (dI : Nat → Nat → Nat) (cs : Nat → ClassId) (L : List Nat) (K G : Nat → Nat) (Q : Nat → Nat → Option Nat) (hQ : Sv L K G Q) (x0 m0 : Nat) (tx : GT) (tm : GT × Int) (sz : Nat) (I : Nat → Nat → Int32) (J : Nat → Nat → Int64) (hI : Iv L K x0 m0 tx tm I) (p0 : Nat) (hLp0 : p0 ∈ L) (hKp0 : K p0 = 4) (p1 : Int32) (bp1 : (0) ≤ p1.toInt ∧ p1.toInt ≤ 1000) : Met l yX4_readSigned (.code yX4_readSigned cX4_readSigned 3 (some .boolean) :: pw) ({ frames := 2, cells := 0, slots := 0, locals := 45 }) (sP (dC, dI) cs [.ref p0, .int p1] sz L K I J Q) (va_Qi (fun (r : Int32) (u : Int32) => u = r ∧ ((0) ≤ r.toInt ∧ r.toInt ≤ 1)) (fun u t => sB (dC, dI) cs L K Q (fun I1 J1 => Iv L K x0 m0 tx tm I1 ∧ (∀ b, ¬ (b = p0) → I1 b = I b) ∧ (¬ u.toInt = 0 → -p1.toInt ≤ (I1 p0 4).toInt ∧ (I1 p0 4).toInt ≤ p1.toInt) ∧ rdP I I1 p0 u (ps (tb tx.2.2 (I p0 1).toInt) p1.toInt (I p0 2).toInt) ∧ (¬ u.toInt = 0 → (I1 p0 4).toInt = sv (tb tx.2.2 (I p0 1).toInt) (I p0 2).toInt) ∧ J1 = J) t) (fun q => q ∈ L ∨ sz ≤ q)) 0 0 (fun q => q ∈ L ∨ sz ≤ q) := by
  refine Met.ofW (cc := cX4_readSigned) (maxL := 3) (ret := (some .boolean)) (by decide +kernel) rfl ?_
  intro p e s m args below meth c s₁ B hml hv
  obtain ⟨rfl, hsz, hP, hK, hD0, hN⟩ := hv
  have hx := B.exec
  have hb := B.bytes
  have hr := B.returns
  have hts := fun w (h : w ∈ pw) => atoms_spec (ws := Cond.code yX4_readSigned cX4_readSigned 3 (some .boolean) :: pw) B.pre w (List.mem_cons_of_mem _ h)
  have hown : s.vm.findClass RX4 = some m.cls := findClass_of_methodNamed B.named
  have hlocks := B.notSynchronized
  subst hsz
  have hBB : 999 ≤ tm.2 ∧ tm.2 ≤ 6000000 := hI.2.2.2.2.1
  have dj_J : J = J := rfl
  have fr_I : ∀ b, ¬ (b = p0) → I b = I b := fun _ _ => rfl
  obtain ⟨A, hAe⟩ : ∃ A : Nat → Prop, A = (fun q => q ∈ L ∨ s.heap.size ≤ q) := ⟨_, rfl⟩
  rw [← hAe]
  have hAL : ∀ q, q ∈ L → A q := fun q h => by rw [hAe]; exact Or.inl h
  have hA : ∀ q, s.heap.size ≤ q → A q := fun q h => by rw [hAe]; exact Or.inr h
  have hD : ∀ F, va_D A (va_pl L F) := fun F => (hD0 F).weaken (fun k q hk _ => hAL _ (pl_mem hk))
  obtain ⟨H, hHe⟩ : ∃ H : Heap, H = s.heap := ⟨_, rfl⟩
  have hS : va_S A s.heap H [] := by rw [hHe]; exact va_S.rf
  rw [← hHe] at hP
  have hl := lv_entry ([.ref p0, .int p1]) (n := 3) (Nat.le_of_ble_eq_true rfl)
  rw [lg_entry_eq]
  generalize (lg_sl ([.ref p0, .int p1]) ++ List.replicate (3 - (lg_sl ([.ref p0, .int p1])).length) Slot.unset).toArray = ls at hl ⊢
  have hl : lv_has ls 3 [(0, .ref p0), (1, .int p1)] := hl
  rw [← hHe]
  refine namedW (fun R Qz hR hQz => ?_)
  refine lv_aload_n hx hb dX4_readSigned_0 rfl (lv_at hl 0 rfl) ?_
  refine lv_bipush (v := 45) hx hb dX4_readSigned_1 (by decide +kernel) ?_
  refine sw_ir (Z := (fun u => (fun I1 J1 => Iv L K x0 m0 tx tm I1 ∧ (∀ b, ¬ (b = p0) → I1 b = I b) ∧ (((tb tx.2.2 (I p0 1).toInt) (sk (tb tx.2.2 (I p0 1).toInt) (I p0 2).toInt) = (45 : Int32).toInt → u.toInt = 1 ∧ rdA I I1 p0 ((sk (tb tx.2.2 (I p0 1).toInt) (I p0 2).toInt) + 1)) ∧ (¬ (tb tx.2.2 (I p0 1).toInt) (sk (tb tx.2.2 (I p0 1).toInt) (I p0 2).toInt) = (45 : Int32).toInt → u.toInt = 0 ∧ rdA I I1 p0 (sk (tb tx.2.2 (I p0 1).toInt) (I p0 2).toInt))) ∧ J1 = J))) (va_runV (As := [.int 45]) (rest := []) ⟨hx, hb, hml, hown, hts⟩ (s_X4_takeSign l dC dI cs L K G Q hQ x0 m0 tx tm H.size I J hI p0 hLp0 hKp0 45 ⟨by decide +kernel, by decide +kernel⟩) (cwV 1 hts (gV pq537 pq538 pq539 pq78 pq540) rfl rfl rfl (by decide +kernel) ⟨(by rw [hR]; exact (Nat.le_of_ble_eq_true rfl)), (by rw [hR]; exact (Nat.le_of_ble_eq_true rfl))⟩) (sP_V hP hD hK hN hLp0 hKp0 rfl rfl) rfl rfl hl.1 rfl (lv_room (Nat.le_of_ble_eq_true rfl)) dX4_readSigned_3 ⟨(by rw [hR]; exact (Nat.le_of_ble_eq_true rfl)), (by rw [hR]; exact (Nat.le_of_ble_eq_true rfl))⟩) hS hAL hA (fun z3 Iz3 Jz3 H locs hz3 hIz3 hP hS => ?_)
  obtain ⟨hIz3, frc3, fz3, djc3⟩ := hIz3
  obtain rfl : J = Jz3 := djc3.symm
  have fr_Iz3 : ∀ b, ¬ (b = p0) → Iz3 b = I b := fun b q => (frc3 b (fun z => q (z))).trans (fr_I b q)
  have cst3_45 : (45 : Int32).toInt = 45 := by decide +kernel
  have bz3 := hz3
  refine lv_istore_n (lv' := [(2, .int z3), (0, .ref p0), (1, .int p1)]) hx hb dX4_readSigned_6 rfl hl (by decide) rfl (fun ls hl => ?_)
  refine lv_aload_n hx hb dX4_readSigned_7 rfl (lv_at hl 1 rfl) ?_
  refine lv_iconst (v := 0) hx hb dX4_readSigned_8 (by decide +kernel) ?_
  refine lv_iload_n hx hb dX4_readSigned_9 rfl (lv_at hl 2 rfl) ?_
  refine sw_ir (Z := (fun u => (fun I1 J1 => Iv L K x0 m0 tx tm I1 ∧ (∀ b, ¬ (b = p0) → I1 b = Iz3 b) ∧ (¬ u.toInt = 0 → (0 : Int32).toInt ≤ (I1 p0 4).toInt ∧ (I1 p0 4).toInt ≤ p1.toInt) ∧ rdP Iz3 I1 p0 u (pn (tb tx.2.2 (Iz3 p0 1).toInt) (0 : Int32).toInt p1.toInt (Iz3 p0 2).toInt) ∧ (¬ u.toInt = 0 → (I1 p0 4).toInt = nv (tb tx.2.2 (Iz3 p0 1).toInt) (Iz3 p0 2).toInt) ∧ J1 = J))) (va_runV (As := [.int 0, .int p1]) (rest := []) ⟨hx, hb, hml, hown, hts⟩ (s_X4_readNumber l dC dI cs L K G Q hQ x0 m0 tx tm H.size Iz3 J hIz3 p0 hLp0 hKp0 0 ⟨by decide +kernel, by decide +kernel⟩ p1 ⟨by omega, by omega⟩) (cwV 2 hts (gV pq487 pq488 pq489 pq78 pq490) rfl rfl rfl (by decide +kernel) ⟨(by rw [hR]; exact (Nat.le_of_ble_eq_true rfl)), (by rw [hR]; exact (Nat.le_of_ble_eq_true rfl))⟩) (sP_V hP hD hK hN hLp0 hKp0 rfl rfl) rfl rfl hl.1 rfl (lv_room (Nat.le_of_ble_eq_true rfl)) dX4_readSigned_10 ⟨(by rw [hR]; exact (Nat.le_of_ble_eq_true rfl)), (by rw [hR]; exact (Nat.le_of_ble_eq_true rfl))⟩) hS hAL hA (fun z10 Iz10 Jz10 H locs hz10 hIz10 hP hS => ?_)
  obtain ⟨hIz10, frc10, zr10, fz10, jz10, djc10⟩ := hIz10
  obtain rfl : J = Jz10 := djc10.symm
  have fr_Iz10 : ∀ b, ¬ (b = p0) → Iz10 b = I b := fun b q => (frc10 b (fun z => q (z))).trans (fr_Iz3 b q)
  have cst10_0 : (0 : Int32).toInt = 0 := by decide +kernel
  have bz10 := hz10
  refine lv_if_ne (tgt := 18) hx hb dX4_readSigned_13 (by decide) (fun c13 => ?_) (fun c13 => ?_)
  · have t13 := tq_ne (k := z10.toInt) (q := (0)) c13 rfl (by decide +kernel)
    have iz13 := zr10 t13
    refine lv_aload_n hx hb dX4_readSigned_18 rfl (lv_at hl 1 rfl) ?_
    refine lv_iload_n hx hb dX4_readSigned_19 rfl (lv_at hl 0 rfl) ?_
    refine lv_if_eq (tgt := 31) hx hb dX4_readSigned_20 (by decide) (fun c20 => ?_) (fun c20 => ?_)
    · have t20 := tq_eq (k := z3.toInt) (q := (0)) c20 rfl (by decide +kernel)
      refine lv_aload_n hx hb dX4_readSigned_31 rfl (lv_at hl 1 rfl) ?_
      refine p_get hx hb hts inX4 hown hK hP hLp0 hKp0 rfl rfl 4 (by decide) (hts _ pq251) rfl dX4_readSigned_32 ?_
      refine lv_topi (fun z32 ez32 => ?_)
      have cgz32 := congrArg Int32.toInt ez32
      have bz32 := oI_4_4 (Iv_at hIz10 hLp0 hKp0)
      rw [← ez32] at bz32
      refine p_put hx hb hts inX4 tyX4 tyX4_ok nmX4 hown hK hP hD hS hLp0 hKp0 rfl rfl 4 (by decide) (hts _ pq251) rfl (by decide +kernel) (Nat.le_of_ble_eq_true rfl) (oS_4_4 cs _ _ _ _) dX4_readSigned_35 (fun H locs hP hS => ?_)
      obtain ⟨Iz35, hP, hIz35, qIz35⟩ : ∃ Iz35, va_P (dC, dI) vwCl (Wd cs L K Iz35 J Q) H ∧ Iv L K x0 m0 tx tm Iz35 ∧ Iz35 = va_up Iz10 p0 (upd (Iz10 p0) 4 z32) := ⟨_, hP, Iv_put hIz10 hKp0 (oP_4_4 (Iv_at hIz10 hLp0 hKp0) ⟨by omega, by omega⟩) (by decide) (by decide), rfl⟩
      have fr_Iz35 : ∀ b, ¬ (b = p0) → Iz35 b = I b := fun b q => (congrFun qIz35 b).trans ((va_up_ne _ _ (fun z => q z)).trans (fr_Iz10 b q))
      refine lv_iconst (v := 1) hx hb dX4_readSigned_38 (by decide +kernel) ?_
      subst hR; subst hQz
      exact W.zret (v := 1) hx hb hr (by decide +kernel) (fun t ht hW => ⟨⟨1, 1, rfl, ⟨rfl, ⟨by decide +kernel, by decide +kernel⟩⟩, ⟨Iz35, J, ⟨hIz35, fr_Iz35, fun _ => by rw [qIz35, rz_at]; exact ⟨by omega, by omega⟩, (by have q := rdP_S (rdP_sgn fz3 fz10) (show rdS Iz10 Iz35 p0 by rw [qIz35]; exact rd_put (by decide)); exact ⟨fun w => ⟨by decide +kernel, (q.1 w).2⟩, fun w => by have := (q.2 w).1; omega⟩), (fun _ => by rw [qIz35, rz_at]; exact sv_of fz3 (jz10 t13) ⟨fun q => by omega, fun q => by omega⟩), dj_J⟩, by rw [ht]; exact hP⟩⟩, hS.F ht⟩) hS.2.2 dX4_readSigned_39
    · have t20 := tq_ne (k := z3.toInt) (q := (0)) c20 rfl (by decide +kernel)
      refine lv_aload_n hx hb dX4_readSigned_23 rfl (lv_at hl 1 rfl) ?_
      refine p_get hx hb hts inX4 hown hK hP hLp0 hKp0 rfl rfl 4 (by decide) (hts _ pq251) rfl dX4_readSigned_24 ?_
      refine lv_topi (fun z24 ez24 => ?_)
      have cgz24 := congrArg Int32.toInt ez24
      have bz24 := oI_4_4 (Iv_at hIz10 hLp0 hKp0)
      rw [← ez24] at bz24
      refine lv_ineg hx hb dX4_readSigned_27 ?_
      refine lv_topi (fun z27 ez27 => ?_)
      have bz27 := tq_neg (k := z24.toInt) ez27 rfl (by omega) (by omega)
      refine lv_goto (tgt := 35) hx hb dX4_readSigned_28 (by decide) ?_
      refine p_put hx hb hts inX4 tyX4 tyX4_ok nmX4 hown hK hP hD hS hLp0 hKp0 rfl rfl 4 (by decide) (hts _ pq251) rfl (by decide +kernel) (Nat.le_of_ble_eq_true rfl) (oS_4_4 cs _ _ _ _) dX4_readSigned_35 (fun H locs hP hS => ?_)
      obtain ⟨Iz35, hP, hIz35, qIz35⟩ : ∃ Iz35, va_P (dC, dI) vwCl (Wd cs L K Iz35 J Q) H ∧ Iv L K x0 m0 tx tm Iz35 ∧ Iz35 = va_up Iz10 p0 (upd (Iz10 p0) 4 z27) := ⟨_, hP, Iv_put hIz10 hKp0 (oP_4_4 (Iv_at hIz10 hLp0 hKp0) ⟨by omega, by omega⟩) (by decide) (by decide), rfl⟩
      have fr_Iz35 : ∀ b, ¬ (b = p0) → Iz35 b = I b := fun b q => (congrFun qIz35 b).trans ((va_up_ne _ _ (fun z => q z)).trans (fr_Iz10 b q))
      refine lv_iconst (v := 1) hx hb dX4_readSigned_38 (by decide +kernel) ?_
      subst hR; subst hQz
      exact W.zret (v := 1) hx hb hr (by decide +kernel) (fun t ht hW => ⟨⟨1, 1, rfl, ⟨rfl, ⟨by decide +kernel, by decide +kernel⟩⟩, ⟨Iz35, J, ⟨hIz35, fr_Iz35, fun _ => by rw [qIz35, rz_at]; exact ⟨by omega, by omega⟩, (by have q := rdP_S (rdP_sgn fz3 fz10) (show rdS Iz10 Iz35 p0 by rw [qIz35]; exact rd_put (by decide)); exact ⟨fun w => ⟨by decide +kernel, (q.1 w).2⟩, fun w => by have := (q.2 w).1; omega⟩), (fun _ => by rw [qIz35, rz_at]; exact sv_of fz3 (jz10 t13) ⟨fun q => by omega, fun q => by omega⟩), dj_J⟩, by rw [ht]; exact hP⟩⟩, hS.F ht⟩) hS.2.2 dX4_readSigned_39
  · have t13 := tq_eq (k := z10.toInt) (q := (0)) c13 rfl (by decide +kernel)
    refine lv_iconst (v := 0) hx hb dX4_readSigned_16 (by decide +kernel) ?_
    subst hR; subst hQz
    exact W.zret (v := 0) hx hb hr (by decide +kernel) (fun t ht hW => ⟨⟨0, 0, rfl, ⟨rfl, ⟨by decide +kernel, by decide +kernel⟩⟩, ⟨Iz10, J, ⟨hIz10, fr_Iz10, fun h => absurd (by decide +kernel) h, (by have q := rdP_sgn fz3 fz10; exact ⟨fun w => by have := (q.1 w).1; omega, fun w => ⟨by decide +kernel, (q.2 w).2⟩⟩), (fun h => absurd (by decide +kernel) h), dj_J⟩, by rw [ht]; exact hP⟩⟩, hS.F ht⟩) hS.2.2 dX4_readSigned_17

set_option maxHeartbeats 4000000 in
set_option maxRecDepth 100000 in
theorem s_X4_readSize (l : Launch) (dC : Nat → ClassId) (dI : Nat → Nat → Nat) (cs : Nat → ClassId) (L : List Nat) (K G : Nat → Nat) (Q : Nat → Nat → Option Nat) (hQ : Sv L K G Q) (x0 m0 : Nat) (tx : GT) (tm : GT × Int) (sz : Nat) (I : Nat → Nat → Int32) (J : Nat → Nat → Int64) (hI : Iv L K x0 m0 tx tm I) (p0 : Nat) (hLp0 : p0 ∈ L) (hKp0 : K p0 = 4) (p1 : Nat) (hLp1 : p1 ∈ L) (hKp1 : K p1 = 3) : Met l yX4_readSize (.code yX4_readSize cX4_readSize 3 (some .boolean) :: pw) ({ frames := 2, cells := 0, slots := 0, locals := 46 }) (sP (dC, dI) cs [.ref p0, .ref p1] sz L K I J Q) (va_Qi (fun (r : Int32) (u : Int32) => u = r ∧ ((0) ≤ r.toInt ∧ r.toInt ≤ 1)) (fun u t => sB (dC, dI) cs L K Q (fun I1 J1 => Iv L K x0 m0 tx tm I1 ∧ (∀ b, ¬ (b = p0 ∨ b = p1) → I1 b = I b) ∧ rdP I I1 p0 u (psz (tb tx.2.2 (I p0 1).toInt) (I p0 2).toInt) ∧ (¬ u.toInt = 0 → (((I1 p1 0).toInt = nv (tb tx.2.2 (I p0 1).toInt) (I p0 2).toInt ∧ (I1 p1 1).toInt = nv (tb tx.2.2 (I p0 1).toInt) (pn (tb tx.2.2 (I p0 1).toInt) 1 100 (I p0 2).toInt).2) ∧ ∀ k, k < 80 → J1 (wo Q p1) k = 0) ∧ (1 ≤ (I1 p1 0).toInt ∧ (I1 p1 0).toInt ≤ 100) ∧ 1 ≤ (I1 p1 1).toInt ∧ (I1 p1 1).toInt ≤ 40) ∧ (∀ b, ¬ (K b = 12 ∧ (G b = G p1)) → J1 b = J b)) t) (fun q => q ∈ L ∨ sz ≤ q)) 0 0 (fun q => q ∈ L ∨ sz ≤ q) := by
  refine Met.ofW (cc := cX4_readSize) (maxL := 3) (ret := (some .boolean)) (by decide +kernel) rfl ?_
  intro p e s m args below meth c s₁ B hml hv
  obtain ⟨rfl, hsz, hP, hK, hD0, hN⟩ := hv
  have hx := B.exec
  have hb := B.bytes
  have hr := B.returns
  have hts := fun w (h : w ∈ pw) => atoms_spec (ws := Cond.code yX4_readSize cX4_readSize 3 (some .boolean) :: pw) B.pre w (List.mem_cons_of_mem _ h)
  have hown : s.vm.findClass RX4 = some m.cls := findClass_of_methodNamed B.named
  have hlocks := B.notSynchronized
  subst hsz
  have hBB : 999 ≤ tm.2 ∧ tm.2 ≤ 6000000 := hI.2.2.2.2.1
  have dj_J : (∀ b, ¬ (K b = 12 ∧ (G b = G p1)) → J b = J b) := fun _ _ => rfl
  have fr_I : ∀ b, ¬ (b = p0 ∨ b = p1) → I b = I b := fun _ _ => rfl
  obtain ⟨A, hAe⟩ : ∃ A : Nat → Prop, A = (fun q => q ∈ L ∨ s.heap.size ≤ q) := ⟨_, rfl⟩
  rw [← hAe]
  have hAL : ∀ q, q ∈ L → A q := fun q h => by rw [hAe]; exact Or.inl h
  have hA : ∀ q, s.heap.size ≤ q → A q := fun q h => by rw [hAe]; exact Or.inr h
  have hD : ∀ F, va_D A (va_pl L F) := fun F => (hD0 F).weaken (fun k q hk _ => hAL _ (pl_mem hk))
  obtain ⟨H, hHe⟩ : ∃ H : Heap, H = s.heap := ⟨_, rfl⟩
  have hS : va_S A s.heap H [] := by rw [hHe]; exact va_S.rf
  rw [← hHe] at hP
  have hl := lv_entry ([.ref p0, .ref p1]) (n := 3) (Nat.le_of_ble_eq_true rfl)
  rw [lg_entry_eq]
  generalize (lg_sl ([.ref p0, .ref p1]) ++ List.replicate (3 - (lg_sl ([.ref p0, .ref p1])).length) Slot.unset).toArray = ls at hl ⊢
  have hl : lv_has ls 3 [(0, .ref p0), (1, .ref p1)] := hl
  rw [← hHe]
  refine namedW (fun R Qz hR hQz => ?_)
  refine lv_aload_n hx hb dX4_readSize_0 rfl (lv_at hl 0 rfl) ?_
  refine lv_iconst (v := 1) hx hb dX4_readSize_1 (by decide +kernel) ?_
  refine lv_bipush (v := 100) hx hb dX4_readSize_2 (by decide +kernel) ?_
  refine sw_ir (Z := (fun u => (fun I1 J1 => Iv L K x0 m0 tx tm I1 ∧ (∀ b, ¬ (b = p0) → I1 b = I b) ∧ (¬ u.toInt = 0 → (1 : Int32).toInt ≤ (I1 p0 4).toInt ∧ (I1 p0 4).toInt ≤ (100 : Int32).toInt) ∧ rdP I I1 p0 u (pn (tb tx.2.2 (I p0 1).toInt) (1 : Int32).toInt (100 : Int32).toInt (I p0 2).toInt) ∧ (¬ u.toInt = 0 → (I1 p0 4).toInt = nv (tb tx.2.2 (I p0 1).toInt) (I p0 2).toInt) ∧ J1 = J))) (va_runV (As := [.int 1, .int 100]) (rest := []) ⟨hx, hb, hml, hown, hts⟩ (s_X4_readNumber l dC dI cs L K G Q hQ x0 m0 tx tm H.size I J hI p0 hLp0 hKp0 1 ⟨by decide +kernel, by decide +kernel⟩ 100 ⟨by decide +kernel, by decide +kernel⟩) (cwV 2 hts (gV pq487 pq488 pq489 pq78 pq490) rfl rfl rfl (by decide +kernel) ⟨(by rw [hR]; exact (Nat.le_of_ble_eq_true rfl)), (by rw [hR]; exact (Nat.le_of_ble_eq_true rfl))⟩) (sP_V hP hD hK hN hLp0 hKp0 rfl rfl) rfl rfl hl.1 rfl (lv_room (Nat.le_of_ble_eq_true rfl)) dX4_readSize_4 ⟨(by rw [hR]; exact (Nat.le_of_ble_eq_true rfl)), (by rw [hR]; exact (Nat.le_of_ble_eq_true rfl))⟩) hS hAL hA (fun z4 Iz4 Jz4 H locs hz4 hIz4 hP hS => ?_)
  obtain ⟨hIz4, frc4, zr4, fz4, jz4, djc4⟩ := hIz4
  obtain rfl : J = Jz4 := djc4.symm
  have fr_Iz4 : ∀ b, ¬ (b = p0 ∨ b = p1) → Iz4 b = I b := fun b q => (frc4 b (fun z => q (by omega))).trans (fr_I b q)
  have cst4_1 : (1 : Int32).toInt = 1 := by decide +kernel
  have cst4_100 : (100 : Int32).toInt = 100 := by decide +kernel
  have bz4 := hz4
  refine lv_if_ne (tgt := 12) hx hb dX4_readSize_7 (by decide) (fun c7 => ?_) (fun c7 => ?_)
  · have t7 := tq_ne (k := z4.toInt) (q := (0)) c7 rfl (by decide +kernel)
    have iz7 := zr4 t7
    refine lv_aload_n hx hb dX4_readSize_12 rfl (lv_at hl 0 rfl) ?_
    refine p_get hx hb hts inX4 hown hK hP hLp0 hKp0 rfl rfl 4 (by decide) (hts _ pq251) rfl dX4_readSize_13 ?_
    refine lv_topi (fun z13 ez13 => ?_)
    have cgz13 := congrArg Int32.toInt ez13
    have bz13 := oI_4_4 (Iv_at hIz4 hLp0 hKp0)
    rw [← ez13] at bz13
    refine lv_istore_n (lv' := [(2, .int z13), (0, .ref p0), (1, .ref p1)]) hx hb dX4_readSize_16 rfl hl (by decide) rfl (fun ls hl => ?_)
    refine lv_aload_n hx hb dX4_readSize_17 rfl (lv_at hl 1 rfl) ?_
    refine lv_iconst (v := 1) hx hb dX4_readSize_18 (by decide +kernel) ?_
    refine lv_bipush (v := 40) hx hb dX4_readSize_19 (by decide +kernel) ?_
    refine sw_ir (Z := (fun u => (fun I1 J1 => Iv L K x0 m0 tx tm I1 ∧ (∀ b, ¬ (b = p0) → I1 b = Iz4 b) ∧ (¬ u.toInt = 0 → (1 : Int32).toInt ≤ (I1 p0 4).toInt ∧ (I1 p0 4).toInt ≤ (40 : Int32).toInt) ∧ rdP Iz4 I1 p0 u (pn (tb tx.2.2 (Iz4 p0 1).toInt) (1 : Int32).toInt (40 : Int32).toInt (Iz4 p0 2).toInt) ∧ (¬ u.toInt = 0 → (I1 p0 4).toInt = nv (tb tx.2.2 (Iz4 p0 1).toInt) (Iz4 p0 2).toInt) ∧ J1 = J))) (va_runV (As := [.int 1, .int 40]) (rest := []) ⟨hx, hb, hml, hown, hts⟩ (s_X4_readNumber l dC dI cs L K G Q hQ x0 m0 tx tm H.size Iz4 J hIz4 p0 hLp0 hKp0 1 ⟨by decide +kernel, by decide +kernel⟩ 40 ⟨by decide +kernel, by decide +kernel⟩) (cwV 2 hts (gV pq487 pq488 pq489 pq78 pq490) rfl rfl rfl (by decide +kernel) ⟨(by rw [hR]; exact (Nat.le_of_ble_eq_true rfl)), (by rw [hR]; exact (Nat.le_of_ble_eq_true rfl))⟩) (sP_V hP hD hK hN hLp0 hKp0 rfl rfl) rfl rfl hl.1 rfl (lv_room (Nat.le_of_ble_eq_true rfl)) dX4_readSize_21 ⟨(by rw [hR]; exact (Nat.le_of_ble_eq_true rfl)), (by rw [hR]; exact (Nat.le_of_ble_eq_true rfl))⟩) hS hAL hA (fun z21 Iz21 Jz21 H locs hz21 hIz21 hP hS => ?_)
    obtain ⟨hIz21, frc21, zr21, fz21, jz21, djc21⟩ := hIz21
    obtain rfl : J = Jz21 := djc21.symm
    have fr_Iz21 : ∀ b, ¬ (b = p0 ∨ b = p1) → Iz21 b = I b := fun b q => (frc21 b (fun z => q (by omega))).trans (fr_Iz4 b q)
    have cst21_1 : (1 : Int32).toInt = 1 := by decide +kernel
    have cst21_40 : (40 : Int32).toInt = 40 := by decide +kernel
    have bz21 := hz21
    refine lv_if_ne (tgt := 29) hx hb dX4_readSize_24 (by decide) (fun c24 => ?_) (fun c24 => ?_)
    · have t24 := tq_ne (k := z21.toInt) (q := (0)) c24 rfl (by decide +kernel)
      have iz24 := zr21 t24
      refine lv_aload_n hx hb dX4_readSize_29 rfl (lv_at hl 2 rfl) ?_
      refine lv_iload_n hx hb dX4_readSize_30 rfl (lv_at hl 0 rfl) ?_
      refine lv_aload_n hx hb dX4_readSize_31 rfl (lv_at hl 1 rfl) ?_
      refine p_get hx hb hts inX4 hown hK hP hLp0 hKp0 rfl rfl 4 (by decide) (hts _ pq251) rfl dX4_readSize_32 ?_
      refine lv_topi (fun z32 ez32 => ?_)
      have cgz32 := congrArg Int32.toInt ez32
      have bz32 := oI_4_4 (Iv_at hIz21 hLp0 hKp0)
      rw [← ez32] at bz32
      refine sw_v (Z := (fun I1 J1 => Iv L K x0 m0 tx tm I1 ∧ (∀ b, ¬ (b = p1) → I1 b = Iz21 b) ∧ ((I1 p1 1 = z32 ∧ I1 p1 0 = z13 ∧ ∀ b k, ¬ k = 0 → ¬ k = 1 → ¬ k = 3 → I1 b k = Iz21 b k)) ∧ (∀ k, k < 80 → J1 (wo Q p1) k = 0) ∧ (∀ b, ¬ (K b = 12 ∧ (G b = G p1)) → J1 b = J b))) (va_runV (As := [.int z13, .int z32]) (rest := []) ⟨hx, hb, hml, hown, hts⟩ (s_X3_resize l dC dI cs L K G Q hQ x0 m0 tx tm H.size Iz21 J hIz21 p1 hLp1 hKp1 z13 ⟨by omega, by omega⟩ z32 ⟨by omega, by omega⟩) (cwV 2 hts (gV pq492 pq493 pq494 pq76 pq495) rfl rfl rfl (by decide +kernel) ⟨(by rw [hR]; exact (Nat.le_of_ble_eq_true rfl)), (by rw [hR]; exact (Nat.le_of_ble_eq_true rfl))⟩) (sP_V hP hD hK hN hLp1 hKp1 rfl rfl) rfl rfl hl.1 rfl (lv_room (Nat.le_of_ble_eq_true rfl)) dX4_readSize_35 ⟨(by rw [hR]; exact (Nat.le_of_ble_eq_true rfl)), (by rw [hR]; exact (Nat.le_of_ble_eq_true rfl))⟩) hS hAL hA (fun Iz35 Jz35 H locs hz35 hIz35 hP hS => ?_)
      obtain ⟨hIz35, frc35, zp35, jz35, djc35⟩ := hIz35
      have dj_Jz35 : (∀ b, ¬ (K b = 12 ∧ (G b = G p1)) → Jz35 b = J b) := fun b hc => (djc35 b (fun z => hc (by exact ⟨z.1, by have z2 := z.2; omega⟩))).trans (dj_J b hc)
      have fr_Iz35 : ∀ b, ¬ (b = p0 ∨ b = p1) → Iz35 b = I b := fun b q => (frc35 b (fun z => q (by omega))).trans (fr_Iz21 b q)
      refine lv_iconst (v := 1) hx hb dX4_readSize_38 (by decide +kernel) ?_
      subst hR; subst hQz
      exact W.zret (v := 1) hx hb hr (by decide +kernel) (fun t ht hW => ⟨⟨1, 1, rfl, ⟨rfl, ⟨by decide +kernel, by decide +kernel⟩⟩, ⟨Iz35, Jz35, ⟨hIz35, fr_Iz35, (by have q := rdP_S (rdP_bind (g := fun t => pn t 1 40) fz4 t7 fz21) (rd_fr (frc35 p0 (ne_k hKp0 hKp1 (by decide)))); exact ⟨fun w => ⟨by decide +kernel, (q.1 w).2⟩, fun w => by have := (q.2 w).1; omega⟩), (fun _ => by have q := fz4; rw [cst4_1, cst4_100] at q; have a := (rdP_go q t7).1; exact ⟨⟨⟨by rw [zp35.2.1, cgz13]; exact jz4 t7, by rw [zp35.1, cgz32]; have j := jz21 t24; rw [a.1, a.2.1] at j; exact j⟩, jz35⟩, by rw [zp35.2.1, zp35.1]; exact ⟨⟨by omega, by omega⟩, by omega, by omega⟩⟩), dj_Jz35⟩, by rw [ht]; exact hP⟩⟩, hS.F ht⟩) hS.2.2 dX4_readSize_39
    · have t24 := tq_eq (k := z21.toInt) (q := (0)) c24 rfl (by decide +kernel)
      refine lv_iconst (v := 0) hx hb dX4_readSize_27 (by decide +kernel) ?_
      subst hR; subst hQz
      exact W.zret (v := 0) hx hb hr (by decide +kernel) (fun t ht hW => ⟨⟨0, 0, rfl, ⟨rfl, ⟨by decide +kernel, by decide +kernel⟩⟩, ⟨Iz21, J, ⟨hIz21, fr_Iz21, (by have q := (rdP_bind (g := fun t => pn t 1 40) fz4 t7 fz21); exact ⟨fun w => by have := (q.1 w).1; omega, fun w => ⟨by decide +kernel, (q.2 w).2⟩⟩), (fun h => absurd (by decide +kernel) h), dj_J⟩, by rw [ht]; exact hP⟩⟩, hS.F ht⟩) hS.2.2 dX4_readSize_28
  · have t7 := tq_eq (k := z4.toInt) (q := (0)) c7 rfl (by decide +kernel)
    refine lv_iconst (v := 0) hx hb dX4_readSize_10 (by decide +kernel) ?_
    subst hR; subst hQz
    exact W.zret (v := 0) hx hb hr (by decide +kernel) (fun t ht hW => ⟨⟨0, 0, rfl, ⟨rfl, ⟨by decide +kernel, by decide +kernel⟩⟩, ⟨Iz4, J, ⟨hIz4, fr_Iz4, (rdP_fail fz4 t7 (by decide +kernel)), (fun h => absurd (by decide +kernel) h), dj_J⟩, by rw [ht]; exact hP⟩⟩, hS.F ht⟩) hS.2.2 dX4_readSize_11

section PRW
variable {t : Int → Int} {y w i : Int}
theorem prw_1 (hy : 0 ≤ y ∧ y ≤ 40) (h : sr t (sk t i) - sk t i = 0) : prw t (41 - y).toNat y w i = (8 * sk t i + 1, sk t i) := by
  rw [show (41 - y).toNat = (41 - (y + 1)).toNat + 1 by omega]; unfold prw; rw [if_pos (by omega)]
theorem prw_3 (hy : y = 40) (h : ¬ sr t (sk t i) - sk t i = 0) : prw t (41 - y).toNat y w i = (8 * sk t i + 3, sk t i) := by
  rw [show (41 - y).toNat = (41 - (y + 1)).toNat + 1 by omega]; unfold prw; rw [if_neg (by omega), if_pos hy]
theorem prw_4a (hy : y = 0) (h : ¬ sr t (sk t i) - sk t i = 0) (h2 : 100 < sr t (sk t i) - sk t i) : prw t (41 - y).toNat y w i = (8 * (sk t i + 100) + 4, sk t i) := by
  rw [show (41 - y).toNat = (41 - (y + 1)).toNat + 1 by omega]; unfold prw; rw [if_neg (by omega), if_neg (by omega), if_pos ⟨hy, h2⟩]
theorem prw_4b (hy : 0 < y ∧ y < 40) (h : ¬ sr t (sk t i) - sk t i = 0) (h2 : ¬ sr t (sk t i) - sk t i = w) : prw t (41 - y).toNat y w i = (8 * sk t i + 4, sk t i) := by
  rw [show (41 - y).toNat = (41 - (y + 1)).toNat + 1 by omega]; unfold prw; rw [if_neg (by omega), if_neg (by omega), if_neg (by omega), if_pos ⟨hy.1, h2⟩]
theorem prw_go (hy : 0 ≤ y ∧ y < 40) (h : ¬ sr t (sk t i) - sk t i = 0) (h2 : y = 0 → sr t (sk t i) - sk t i ≤ 100) (h3 : 0 < y → sr t (sk t i) - sk t i = w) (h4 : t (sk t (sr t (sk t i))) = 47) : prw t (41 - y).toNat y w i = prw t (41 - (y + 1)).toNat (y + 1) (sr t (sk t i) - sk t i) (sk t (sr t (sk t i)) + 1) := by
  rw [show (41 - y).toNat = (41 - (y + 1)).toNat + 1 by omega]; conv => lhs; unfold prw
  rw [if_neg (by omega), if_neg (by omega), if_neg (fun q => by have := h2 q.1; omega), if_neg (fun q => q.2 (h3 q.1)), if_pos h4]
theorem prw_end (hy : 0 ≤ y ∧ y < 40) (h : ¬ sr t (sk t i) - sk t i = 0) (h2 : y = 0 → sr t (sk t i) - sk t i ≤ 100) (h3 : 0 < y → sr t (sk t i) - sk t i = w) (h4 : ¬ t (sk t (sr t (sk t i))) = 47) : prw t (41 - y).toNat y w i = (0, sk t (sr t (sk t i))) := by
  rw [show (41 - y).toNat = (41 - (y + 1)).toNat + 1 by omega]; unfold prw
  rw [if_neg (by omega), if_neg (by omega), if_neg (fun q => by have := h2 q.1; omega), if_neg (fun q => q.2 (h3 q.1)), if_neg h4]
end PRW
theorem rn_len2 {p : Int → Bool} {f : Nat → Int32} {n i : Int} (hp : p (-1000) = false) (h : ¬ rn p (tb f n) i - i = 0) : rn p (tb f n) i ≤ n := by
  rcases Int.lt_or_le n i with q | q
  · have := rn_stay (p := p) (t := tb f n) (i := i) (by rw [tb_end (by omega)]; exact hp)
    omega
  · exact rn_len hp q
