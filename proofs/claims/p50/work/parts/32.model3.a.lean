def yX7_bodiesAt : MethodName := ⟨RX7, "bodiesAt", "(II)I"⟩
abbrev cX7_bodiesAt : ByteArray := prog_9_method_100_code
abbrev cX7_at : ByteArray := prog_9_method_101_code
abbrev cX7_body : ByteArray := prog_9_method_92_code
abbrev cX7_common : ByteArray := prog_9_method_93_code
abbrev cX7_contact : ByteArray := prog_9_method_95_code
abbrev cX7_dot : ByteArray := prog_9_method_90_code
abbrev cX7_edgeOf : ByteArray := prog_9_method_88_code
abbrev cX7_first : ByteArray := prog_9_method_102_code
abbrev cX7_gap : ByteArray := prog_9_method_104_code
abbrev cX7_meet : ByteArray := prog_9_method_94_code
abbrev cX7_row : ByteArray := prog_9_method_91_code
abbrev cX7_touching : ByteArray := prog_9_method_99_code
def yX7_at : MethodName := ⟨RX7, "at", "(II)I"⟩
def yX7_body : MethodName := ⟨RX7, "body", "(II)I"⟩
def yX7_common : MethodName := ⟨RX7, "common", "(II)I"⟩
def yX7_contact : MethodName := ⟨RX7, "contact", "(I)I"⟩
def yX7_dot : MethodName := ⟨RX7, "dot", "(III)I"⟩
def yX7_edgeOf : MethodName := ⟨RX7, "edgeOf", "(I)I"⟩
def yX7_first : MethodName := ⟨RX7, "first", "(III)I"⟩
def yX7_gap : MethodName := ⟨RX7, "gap", "(III)I"⟩
def yX7_meet : MethodName := ⟨RX7, "meet", "(III)I"⟩
def yX7_row : MethodName := ⟨RX7, "row", "(III)J"⟩
def yX7_touching : MethodName := ⟨RX7, "touching", "(I)I"⟩
theorem dX7_at_0 : decode cX7_at 0 = .ok (.aload_n 0, 1) := by decide +kernel
theorem dX7_at_1 : decode cX7_at 1 = .ok (.iload_n 1, 1) := by decide +kernel
theorem dX7_at_2 : decode cX7_at 2 = .ok (.iload_n 2, 1) := by decide +kernel
theorem dX7_at_3 : decode cX7_at 3 = .ok (.invokevirtual 399, 3) := by decide +kernel
theorem dX7_at_6 : decode cX7_at 6 = .ok (.ireturn, 1) := by decide +kernel
theorem dX7_bodiesAt_0 : decode cX7_bodiesAt 0 = .ok (.iconst 0, 1) := by decide +kernel
theorem dX7_bodiesAt_1 : decode cX7_bodiesAt 1 = .ok (.istore_n 3, 1) := by decide +kernel
theorem dX7_bodiesAt_2 : decode cX7_bodiesAt 2 = .ok (.iconst 0, 1) := by decide +kernel
theorem dX7_bodiesAt_3 : decode cX7_bodiesAt 3 = .ok (.istore 4, 2) := by decide +kernel
theorem dX7_bodiesAt_5 : decode cX7_bodiesAt 5 = .ok (.iload 4, 2) := by decide +kernel
theorem dX7_bodiesAt_7 : decode cX7_bodiesAt 7 = .ok (.aload_n 0, 1) := by decide +kernel
theorem dX7_bodiesAt_8 : decode cX7_bodiesAt 8 = .ok (.getfield 9, 3) := by decide +kernel
theorem dX7_bodiesAt_11 : decode cX7_bodiesAt 11 = .ok (.iconst 1, 1) := by decide +kernel
theorem dX7_bodiesAt_12 : decode cX7_bodiesAt 12 = .ok (.iaload, 1) := by decide +kernel
theorem dX7_bodiesAt_13 : decode cX7_bodiesAt 13 = .ok (.if_icmp .ge 31, 3) := by decide +kernel
theorem dX7_bodiesAt_16 : decode cX7_bodiesAt 16 = .ok (.iload_n 3, 1) := by decide +kernel
theorem dX7_bodiesAt_17 : decode cX7_bodiesAt 17 = .ok (.aload_n 0, 1) := by decide +kernel
theorem dX7_bodiesAt_18 : decode cX7_bodiesAt 18 = .ok (.iload 4, 2) := by decide +kernel
theorem dX7_bodiesAt_20 : decode cX7_bodiesAt 20 = .ok (.iload_n 1, 1) := by decide +kernel
theorem dX7_bodiesAt_21 : decode cX7_bodiesAt 21 = .ok (.iload_n 2, 1) := by decide +kernel
theorem dX7_bodiesAt_22 : decode cX7_bodiesAt 22 = .ok (.invokevirtual 388, 3) := by decide +kernel
theorem dX7_bodiesAt_25 : decode cX7_bodiesAt 25 = .ok (.ifCond .eq 10, 3) := by decide +kernel
theorem dX7_bodiesAt_28 : decode cX7_bodiesAt 28 = .ok (.iconst 1, 1) := by decide +kernel
theorem dX7_bodiesAt_29 : decode cX7_bodiesAt 29 = .ok (.iload 4, 2) := by decide +kernel
theorem dX7_bodiesAt_31 : decode cX7_bodiesAt 31 = .ok (.ishl, 1) := by decide +kernel
theorem dX7_bodiesAt_32 : decode cX7_bodiesAt 32 = .ok (.goto 4, 3) := by decide +kernel
theorem dX7_bodiesAt_35 : decode cX7_bodiesAt 35 = .ok (.iconst 0, 1) := by decide +kernel
theorem dX7_bodiesAt_36 : decode cX7_bodiesAt 36 = .ok (.ior, 1) := by decide +kernel
theorem dX7_bodiesAt_37 : decode cX7_bodiesAt 37 = .ok (.istore_n 3, 1) := by decide +kernel
theorem dX7_bodiesAt_38 : decode cX7_bodiesAt 38 = .ok (.iinc 4 1, 3) := by decide +kernel
theorem dX7_bodiesAt_41 : decode cX7_bodiesAt 41 = .ok (.goto (-36), 3) := by decide +kernel
theorem dX7_bodiesAt_44 : decode cX7_bodiesAt 44 = .ok (.iload_n 3, 1) := by decide +kernel
theorem dX7_bodiesAt_45 : decode cX7_bodiesAt 45 = .ok (.ireturn, 1) := by decide +kernel
theorem dX7_body_0 : decode cX7_body 0 = .ok (.aload_n 0, 1) := by decide +kernel
theorem dX7_body_1 : decode cX7_body 1 = .ok (.iload_n 1, 1) := by decide +kernel
theorem dX7_body_2 : decode cX7_body 2 = .ok (.invokevirtual 196, 3) := by decide +kernel
theorem dX7_body_5 : decode cX7_body 5 = .ok (.ifCond .eq 24, 3) := by decide +kernel
theorem dX7_body_8 : decode cX7_body 8 = .ok (.iload_n 2, 1) := by decide +kernel
theorem dX7_body_9 : decode cX7_body 9 = .ok (.i2l, 1) := by decide +kernel
theorem dX7_body_10 : decode cX7_body 10 = .ok (.lconst 0, 1) := by decide +kernel
theorem dX7_body_11 : decode cX7_body 11 = .ok (.ldc2_w 380, 3) := by decide +kernel
theorem dX7_body_14 : decode cX7_body 14 = .ok (.invokestatic 96, 3) := by decide +kernel
theorem dX7_body_17 : decode cX7_body 17 = .ok (.ifCond .eq 12, 3) := by decide +kernel
theorem dX7_body_20 : decode cX7_body 20 = .ok (.aload_n 0, 1) := by decide +kernel
theorem dX7_body_21 : decode cX7_body 21 = .ok (.iload_n 1, 1) := by decide +kernel
theorem dX7_body_22 : decode cX7_body 22 = .ok (.iload_n 2, 1) := by decide +kernel
theorem dX7_body_23 : decode cX7_body 23 = .ok (.invokevirtual 199, 3) := by decide +kernel
theorem dX7_body_26 : decode cX7_body 26 = .ok (.goto 6, 3) := by decide +kernel
theorem dX7_body_29 : decode cX7_body 29 = .ok (.sipush (-2000), 3) := by decide +kernel
theorem dX7_body_32 : decode cX7_body 32 = .ok (.ireturn, 1) := by decide +kernel
theorem dX7_common_0 : decode cX7_common 0 = .ok (.aload_n 0, 1) := by decide +kernel
theorem dX7_common_1 : decode cX7_common 1 = .ok (.iload_n 1, 1) := by decide +kernel
theorem dX7_common_2 : decode cX7_common 2 = .ok (.iload_n 2, 1) := by decide +kernel
theorem dX7_common_3 : decode cX7_common 3 = .ok (.invokevirtual 382, 3) := by decide +kernel
theorem dX7_common_6 : decode cX7_common 6 = .ok (.ifCond .ne 5, 3) := by decide +kernel
theorem dX7_common_9 : decode cX7_common 9 = .ok (.iconst (-1), 1) := by decide +kernel
theorem dX7_common_10 : decode cX7_common 10 = .ok (.ireturn, 1) := by decide +kernel
theorem dX7_common_11 : decode cX7_common 11 = .ok (.aload_n 0, 1) := by decide +kernel
theorem dX7_common_12 : decode cX7_common 12 = .ok (.invokevirtual 331, 3) := by decide +kernel
theorem dX7_common_15 : decode cX7_common 15 = .ok (.aload_n 0, 1) := by decide +kernel
theorem dX7_common_16 : decode cX7_common 16 = .ok (.iload_n 1, 1) := by decide +kernel
theorem dX7_common_17 : decode cX7_common 17 = .ok (.iload_n 2, 1) := by decide +kernel
theorem dX7_common_18 : decode cX7_common 18 = .ok (.iconst 0, 1) := by decide +kernel
theorem dX7_common_19 : decode cX7_common 19 = .ok (.iconst 0, 1) := by decide +kernel
theorem dX7_common_20 : decode cX7_common 20 = .ok (.invokevirtual 385, 3) := by decide +kernel
theorem dX7_common_23 : decode cX7_common 23 = .ok (.ireturn, 1) := by decide +kernel
theorem dX7_contact_0 : decode cX7_contact 0 = .ok (.iload_n 1, 1) := by decide +kernel
theorem dX7_contact_1 : decode cX7_contact 1 = .ok (.iconst (-1), 1) := by decide +kernel
theorem dX7_contact_2 : decode cX7_contact 2 = .ok (.if_icmp .ge 5, 3) := by decide +kernel
theorem dX7_contact_5 : decode cX7_contact 5 = .ok (.iconst (-1), 1) := by decide +kernel
theorem dX7_contact_6 : decode cX7_contact 6 = .ok (.ireturn, 1) := by decide +kernel
theorem dX7_contact_7 : decode cX7_contact 7 = .ok (.aload_n 0, 1) := by decide +kernel
theorem dX7_contact_8 : decode cX7_contact 8 = .ok (.invokevirtual 331, 3) := by decide +kernel
theorem dX7_contact_11 : decode cX7_contact 11 = .ok (.iconst 0, 1) := by decide +kernel
theorem dX7_contact_12 : decode cX7_contact 12 = .ok (.istore_n 2, 1) := by decide +kernel
theorem dX7_contact_13 : decode cX7_contact 13 = .ok (.iconst 0, 1) := by decide +kernel
theorem dX7_contact_14 : decode cX7_contact 14 = .ok (.istore_n 3, 1) := by decide +kernel
theorem dX7_contact_15 : decode cX7_contact 15 = .ok (.iload_n 3, 1) := by decide +kernel
theorem dX7_contact_16 : decode cX7_contact 16 = .ok (.aload_n 0, 1) := by decide +kernel
theorem dX7_contact_17 : decode cX7_contact 17 = .ok (.getfield 9, 3) := by decide +kernel
theorem dX7_contact_20 : decode cX7_contact 20 = .ok (.iconst 1, 1) := by decide +kernel
theorem dX7_contact_21 : decode cX7_contact 21 = .ok (.iaload, 1) := by decide +kernel
theorem dX7_contact_22 : decode cX7_contact 22 = .ok (.if_icmp .ge 62, 3) := by decide +kernel
theorem dX7_contact_25 : decode cX7_contact 25 = .ok (.iload_n 3, 1) := by decide +kernel
theorem dX7_contact_26 : decode cX7_contact 26 = .ok (.iconst 1, 1) := by decide +kernel
theorem dX7_contact_27 : decode cX7_contact 27 = .ok (.iadd, 1) := by decide +kernel
theorem dX7_contact_28 : decode cX7_contact 28 = .ok (.istore 4, 2) := by decide +kernel
theorem dX7_contact_30 : decode cX7_contact 30 = .ok (.iload 4, 2) := by decide +kernel
theorem dX7_contact_32 : decode cX7_contact 32 = .ok (.aload_n 0, 1) := by decide +kernel
theorem dX7_contact_33 : decode cX7_contact 33 = .ok (.getfield 9, 3) := by decide +kernel
theorem dX7_contact_36 : decode cX7_contact 36 = .ok (.iconst 1, 1) := by decide +kernel
theorem dX7_contact_37 : decode cX7_contact 37 = .ok (.iaload, 1) := by decide +kernel
theorem dX7_contact_38 : decode cX7_contact 38 = .ok (.if_icmp .ge 40, 3) := by decide +kernel
theorem dX7_contact_41 : decode cX7_contact 41 = .ok (.aload_n 0, 1) := by decide +kernel
theorem dX7_contact_42 : decode cX7_contact 42 = .ok (.iload_n 3, 1) := by decide +kernel
theorem dX7_contact_43 : decode cX7_contact 43 = .ok (.iload 4, 2) := by decide +kernel
theorem dX7_contact_45 : decode cX7_contact 45 = .ok (.iconst 0, 1) := by decide +kernel
theorem dX7_contact_46 : decode cX7_contact 46 = .ok (.iconst 0, 1) := by decide +kernel
theorem dX7_contact_47 : decode cX7_contact 47 = .ok (.invokevirtual 247, 3) := by decide +kernel
theorem dX7_contact_50 : decode cX7_contact 50 = .ok (.ifCond .ne 6, 3) := by decide +kernel
theorem dX7_contact_53 : decode cX7_contact 53 = .ok (.goto 19, 3) := by decide +kernel
theorem dX7_contact_56 : decode cX7_contact 56 = .ok (.iload_n 2, 1) := by decide +kernel
theorem dX7_contact_57 : decode cX7_contact 57 = .ok (.iload_n 1, 1) := by decide +kernel
theorem dX7_contact_58 : decode cX7_contact 58 = .ok (.if_icmp .ne 11, 3) := by decide +kernel
theorem dX7_contact_61 : decode cX7_contact 61 = .ok (.bipush 100, 2) := by decide +kernel
theorem dX7_contact_63 : decode cX7_contact 63 = .ok (.iload_n 3, 1) := by decide +kernel
theorem dX7_contact_64 : decode cX7_contact 64 = .ok (.imul, 1) := by decide +kernel
theorem dX7_contact_65 : decode cX7_contact 65 = .ok (.iload 4, 2) := by decide +kernel
theorem dX7_contact_67 : decode cX7_contact 67 = .ok (.iadd, 1) := by decide +kernel
theorem dX7_contact_68 : decode cX7_contact 68 = .ok (.ireturn, 1) := by decide +kernel
theorem dX7_contact_69 : decode cX7_contact 69 = .ok (.iinc 2 1, 3) := by decide +kernel
theorem dX7_contact_72 : decode cX7_contact 72 = .ok (.iinc 4 1, 3) := by decide +kernel
theorem dX7_contact_75 : decode cX7_contact 75 = .ok (.goto (-45), 3) := by decide +kernel
theorem dX7_contact_78 : decode cX7_contact 78 = .ok (.iinc 3 1, 3) := by decide +kernel
theorem dX7_contact_81 : decode cX7_contact 81 = .ok (.goto (-66), 3) := by decide +kernel
theorem dX7_contact_84 : decode cX7_contact 84 = .ok (.iload_n 1, 1) := by decide +kernel
theorem dX7_contact_85 : decode cX7_contact 85 = .ok (.iconst (-1), 1) := by decide +kernel
theorem dX7_contact_86 : decode cX7_contact 86 = .ok (.if_icmp .ne 7, 3) := by decide +kernel
theorem dX7_contact_89 : decode cX7_contact 89 = .ok (.iload_n 2, 1) := by decide +kernel
theorem dX7_contact_90 : decode cX7_contact 90 = .ok (.goto 5, 3) := by decide +kernel
theorem dX7_contact_93 : decode cX7_contact 93 = .ok (.bipush (-2), 2) := by decide +kernel
theorem dX7_contact_95 : decode cX7_contact 95 = .ok (.ireturn, 1) := by decide +kernel
theorem dX7_dot_0 : decode cX7_dot 0 = .ok (.aload_n 0, 1) := by decide +kernel
theorem dX7_dot_1 : decode cX7_dot 1 = .ok (.iload_n 1, 1) := by decide +kernel
theorem dX7_dot_2 : decode cX7_dot 2 = .ok (.invokevirtual 301, 3) := by decide +kernel
theorem dX7_dot_5 : decode cX7_dot 5 = .ok (.ifCond .eq 16, 3) := by decide +kernel
theorem dX7_dot_8 : decode cX7_dot 8 = .ok (.aload_n 0, 1) := by decide +kernel
theorem dX7_dot_9 : decode cX7_dot 9 = .ok (.iload_n 1, 1) := by decide +kernel
theorem dX7_dot_10 : decode cX7_dot 10 = .ok (.iload_n 2, 1) := by decide +kernel
theorem dX7_dot_11 : decode cX7_dot 11 = .ok (.iload_n 3, 1) := by decide +kernel
theorem dX7_dot_12 : decode cX7_dot 12 = .ok (.invokevirtual 215, 3) := by decide +kernel
theorem dX7_dot_15 : decode cX7_dot 15 = .ok (.invokestatic 127, 3) := by decide +kernel
theorem dX7_dot_18 : decode cX7_dot 18 = .ok (.goto 4, 3) := by decide +kernel
theorem dX7_dot_21 : decode cX7_dot 21 = .ok (.iconst (-1), 1) := by decide +kernel
theorem dX7_dot_22 : decode cX7_dot 22 = .ok (.ireturn, 1) := by decide +kernel
theorem dX7_edgeOf_0 : decode cX7_edgeOf 0 = .ok (.iconst 0, 1) := by decide +kernel
theorem dX7_edgeOf_1 : decode cX7_edgeOf 1 = .ok (.istore_n 2, 1) := by decide +kernel
theorem dX7_edgeOf_2 : decode cX7_edgeOf 2 = .ok (.iconst 0, 1) := by decide +kernel
theorem dX7_edgeOf_3 : decode cX7_edgeOf 3 = .ok (.istore_n 3, 1) := by decide +kernel
theorem dX7_edgeOf_4 : decode cX7_edgeOf 4 = .ok (.iload_n 3, 1) := by decide +kernel
theorem dX7_edgeOf_5 : decode cX7_edgeOf 5 = .ok (.aload_n 0, 1) := by decide +kernel
theorem dX7_edgeOf_6 : decode cX7_edgeOf 6 = .ok (.iload_n 1, 1) := by decide +kernel
theorem dX7_edgeOf_7 : decode cX7_edgeOf 7 = .ok (.invokevirtual 205, 3) := by decide +kernel
theorem dX7_edgeOf_10 : decode cX7_edgeOf 10 = .ok (.if_icmp .ge 56, 3) := by decide +kernel
theorem dX7_edgeOf_13 : decode cX7_edgeOf 13 = .ok (.iconst 0, 1) := by decide +kernel
theorem dX7_edgeOf_14 : decode cX7_edgeOf 14 = .ok (.istore 4, 2) := by decide +kernel
theorem dX7_edgeOf_16 : decode cX7_edgeOf 16 = .ok (.iload 4, 2) := by decide +kernel
theorem dX7_edgeOf_18 : decode cX7_edgeOf 18 = .ok (.aload_n 0, 1) := by decide +kernel
theorem dX7_edgeOf_19 : decode cX7_edgeOf 19 = .ok (.iload_n 1, 1) := by decide +kernel
theorem dX7_edgeOf_20 : decode cX7_edgeOf 20 = .ok (.invokevirtual 202, 3) := by decide +kernel
theorem dX7_edgeOf_23 : decode cX7_edgeOf 23 = .ok (.if_icmp .ge 37, 3) := by decide +kernel
theorem dX7_edgeOf_26 : decode cX7_edgeOf 26 = .ok (.iload_n 2, 1) := by decide +kernel
theorem dX7_edgeOf_27 : decode cX7_edgeOf 27 = .ok (.aload_n 0, 1) := by decide +kernel
theorem dX7_edgeOf_28 : decode cX7_edgeOf 28 = .ok (.iload_n 1, 1) := by decide +kernel
theorem dX7_edgeOf_29 : decode cX7_edgeOf 29 = .ok (.iload 4, 2) := by decide +kernel
theorem dX7_edgeOf_31 : decode cX7_edgeOf 31 = .ok (.iload_n 3, 1) := by decide +kernel
theorem dX7_edgeOf_32 : decode cX7_edgeOf 32 = .ok (.invokevirtual 215, 3) := by decide +kernel
theorem dX7_edgeOf_35 : decode cX7_edgeOf 35 = .ok (.ifCond .eq 16, 3) := by decide +kernel
theorem dX7_edgeOf_38 : decode cX7_edgeOf 38 = .ok (.iconst 4, 1) := by decide +kernel
theorem dX7_edgeOf_39 : decode cX7_edgeOf 39 = .ok (.aload_n 0, 1) := by decide +kernel
theorem dX7_edgeOf_40 : decode cX7_edgeOf 40 = .ok (.iload_n 1, 1) := by decide +kernel
theorem dX7_edgeOf_41 : decode cX7_edgeOf 41 = .ok (.iload 4, 2) := by decide +kernel
theorem dX7_edgeOf_43 : decode cX7_edgeOf 43 = .ok (.iload_n 3, 1) := by decide +kernel
theorem dX7_edgeOf_44 : decode cX7_edgeOf 44 = .ok (.invokevirtual 307, 3) := by decide +kernel
theorem dX7_edgeOf_47 : decode cX7_edgeOf 47 = .ok (.isub, 1) := by decide +kernel
theorem dX7_edgeOf_48 : decode cX7_edgeOf 48 = .ok (.goto 4, 3) := by decide +kernel
theorem dX7_edgeOf_51 : decode cX7_edgeOf 51 = .ok (.iconst 0, 1) := by decide +kernel
theorem dX7_edgeOf_52 : decode cX7_edgeOf 52 = .ok (.iadd, 1) := by decide +kernel
theorem dX7_edgeOf_53 : decode cX7_edgeOf 53 = .ok (.istore_n 2, 1) := by decide +kernel
theorem dX7_edgeOf_54 : decode cX7_edgeOf 54 = .ok (.iinc 4 1, 3) := by decide +kernel
theorem dX7_edgeOf_57 : decode cX7_edgeOf 57 = .ok (.goto (-41), 3) := by decide +kernel
theorem dX7_edgeOf_60 : decode cX7_edgeOf 60 = .ok (.iinc 3 1, 3) := by decide +kernel
theorem dX7_edgeOf_63 : decode cX7_edgeOf 63 = .ok (.goto (-59), 3) := by decide +kernel
theorem dX7_edgeOf_66 : decode cX7_edgeOf 66 = .ok (.iload_n 2, 1) := by decide +kernel
theorem dX7_edgeOf_67 : decode cX7_edgeOf 67 = .ok (.ireturn, 1) := by decide +kernel
theorem dX7_first_0 : decode cX7_first 0 = .ok (.aload_n 0, 1) := by decide +kernel
theorem dX7_first_1 : decode cX7_first 1 = .ok (.iload_n 1, 1) := by decide +kernel
theorem dX7_first_2 : decode cX7_first 2 = .ok (.iload_n 2, 1) := by decide +kernel
theorem dX7_first_3 : decode cX7_first 3 = .ok (.invokevirtual 382, 3) := by decide +kernel
theorem dX7_first_6 : decode cX7_first 6 = .ok (.ifCond .eq 15, 3) := by decide +kernel
theorem dX7_first_9 : decode cX7_first 9 = .ok (.iload_n 3, 1) := by decide +kernel
theorem dX7_first_10 : decode cX7_first 10 = .ok (.i2l, 1) := by decide +kernel
theorem dX7_first_11 : decode cX7_first 11 = .ok (.lconst 0, 1) := by decide +kernel
theorem dX7_first_12 : decode cX7_first 12 = .ok (.ldc2_w 402, 3) := by decide +kernel
theorem dX7_first_15 : decode cX7_first 15 = .ok (.invokestatic 96, 3) := by decide +kernel
theorem dX7_first_18 : decode cX7_first 18 = .ok (.ifCond .ne 5, 3) := by decide +kernel
theorem dX7_first_21 : decode cX7_first 21 = .ok (.iconst (-1), 1) := by decide +kernel
theorem dX7_first_22 : decode cX7_first 22 = .ok (.ireturn, 1) := by decide +kernel
theorem dX7_first_23 : decode cX7_first 23 = .ok (.aload_n 0, 1) := by decide +kernel
theorem dX7_first_24 : decode cX7_first 24 = .ok (.invokevirtual 331, 3) := by decide +kernel
theorem dX7_first_27 : decode cX7_first 27 = .ok (.aload_n 0, 1) := by decide +kernel
theorem dX7_first_28 : decode cX7_first 28 = .ok (.iload_n 1, 1) := by decide +kernel
theorem dX7_first_29 : decode cX7_first 29 = .ok (.bipush 6, 2) := by decide +kernel
theorem dX7_first_31 : decode cX7_first 31 = .ok (.invokevirtual 199, 3) := by decide +kernel
theorem dX7_first_34 : decode cX7_first 34 = .ok (.aload_n 0, 1) := by decide +kernel
theorem dX7_first_35 : decode cX7_first 35 = .ok (.iload_n 2, 1) := by decide +kernel
theorem dX7_first_36 : decode cX7_first 36 = .ok (.bipush 6, 2) := by decide +kernel
theorem dX7_first_38 : decode cX7_first 38 = .ok (.invokevirtual 199, 3) := by decide +kernel
theorem dX7_first_41 : decode cX7_first 41 = .ok (.isub, 1) := by decide +kernel
theorem dX7_first_42 : decode cX7_first 42 = .ok (.istore 4, 2) := by decide +kernel
theorem dX7_first_44 : decode cX7_first 44 = .ok (.aload_n 0, 1) := by decide +kernel
theorem dX7_first_45 : decode cX7_first 45 = .ok (.iload_n 1, 1) := by decide +kernel
theorem dX7_first_46 : decode cX7_first 46 = .ok (.bipush 7, 2) := by decide +kernel
theorem dX7_first_48 : decode cX7_first 48 = .ok (.invokevirtual 199, 3) := by decide +kernel
theorem dX7_first_51 : decode cX7_first 51 = .ok (.aload_n 0, 1) := by decide +kernel
theorem dX7_first_52 : decode cX7_first 52 = .ok (.iload_n 2, 1) := by decide +kernel
theorem dX7_first_53 : decode cX7_first 53 = .ok (.bipush 7, 2) := by decide +kernel
theorem dX7_first_55 : decode cX7_first 55 = .ok (.invokevirtual 199, 3) := by decide +kernel
theorem dX7_first_58 : decode cX7_first 58 = .ok (.isub, 1) := by decide +kernel
theorem dX7_first_59 : decode cX7_first 59 = .ok (.istore 5, 2) := by decide +kernel
theorem dX7_first_61 : decode cX7_first 61 = .ok (.iconst 0, 1) := by decide +kernel
theorem dX7_first_62 : decode cX7_first 62 = .ok (.istore 6, 2) := by decide +kernel
theorem dX7_first_64 : decode cX7_first 64 = .ok (.iload 6, 2) := by decide +kernel
theorem dX7_first_66 : decode cX7_first 66 = .ok (.iload_n 3, 1) := by decide +kernel
theorem dX7_first_67 : decode cX7_first 67 = .ok (.if_icmp .gt 31, 3) := by decide +kernel
theorem dX7_first_70 : decode cX7_first 70 = .ok (.aload_n 0, 1) := by decide +kernel
theorem dX7_first_71 : decode cX7_first 71 = .ok (.iload_n 1, 1) := by decide +kernel
theorem dX7_first_72 : decode cX7_first 72 = .ok (.iload_n 2, 1) := by decide +kernel
theorem dX7_first_73 : decode cX7_first 73 = .ok (.iload 6, 2) := by decide +kernel
theorem dX7_first_75 : decode cX7_first 75 = .ok (.iload 4, 2) := by decide +kernel
theorem dX7_first_77 : decode cX7_first 77 = .ok (.imul, 1) := by decide +kernel
theorem dX7_first_78 : decode cX7_first 78 = .ok (.iload 6, 2) := by decide +kernel
theorem dX7_first_80 : decode cX7_first 80 = .ok (.iload 5, 2) := by decide +kernel
theorem dX7_first_82 : decode cX7_first 82 = .ok (.imul, 1) := by decide +kernel
theorem dX7_first_83 : decode cX7_first 83 = .ok (.invokevirtual 247, 3) := by decide +kernel
theorem dX7_first_86 : decode cX7_first 86 = .ok (.ifCond .eq 6, 3) := by decide +kernel
theorem dX7_first_89 : decode cX7_first 89 = .ok (.iload 6, 2) := by decide +kernel
theorem dX7_first_91 : decode cX7_first 91 = .ok (.ireturn, 1) := by decide +kernel
theorem dX7_first_92 : decode cX7_first 92 = .ok (.iinc 6 1, 3) := by decide +kernel
theorem dX7_first_95 : decode cX7_first 95 = .ok (.goto (-31), 3) := by decide +kernel
theorem dX7_first_98 : decode cX7_first 98 = .ok (.bipush (-2), 2) := by decide +kernel
theorem dX7_first_100 : decode cX7_first 100 = .ok (.ireturn, 1) := by decide +kernel
theorem dX7_gap_0 : decode cX7_gap 0 = .ok (.aload_n 0, 1) := by decide +kernel
theorem dX7_gap_1 : decode cX7_gap 1 = .ok (.iload_n 1, 1) := by decide +kernel
theorem dX7_gap_2 : decode cX7_gap 2 = .ok (.iload_n 2, 1) := by decide +kernel
theorem dX7_gap_3 : decode cX7_gap 3 = .ok (.invokevirtual 382, 3) := by decide +kernel
theorem dX7_gap_6 : decode cX7_gap 6 = .ok (.ifCond .eq 15, 3) := by decide +kernel
theorem dX7_gap_9 : decode cX7_gap 9 = .ok (.iload_n 3, 1) := by decide +kernel
theorem dX7_gap_10 : decode cX7_gap 10 = .ok (.i2l, 1) := by decide +kernel
theorem dX7_gap_11 : decode cX7_gap 11 = .ok (.lconst 0, 1) := by decide +kernel
theorem dX7_gap_12 : decode cX7_gap 12 = .ok (.ldc2_w 289, 3) := by decide +kernel
theorem dX7_gap_15 : decode cX7_gap 15 = .ok (.invokestatic 96, 3) := by decide +kernel
theorem dX7_gap_18 : decode cX7_gap 18 = .ok (.ifCond .ne 5, 3) := by decide +kernel
theorem dX7_gap_21 : decode cX7_gap 21 = .ok (.iconst (-1), 1) := by decide +kernel
theorem dX7_gap_22 : decode cX7_gap 22 = .ok (.ireturn, 1) := by decide +kernel
theorem dX7_gap_23 : decode cX7_gap 23 = .ok (.aload_n 0, 1) := by decide +kernel
theorem dX7_gap_24 : decode cX7_gap 24 = .ok (.invokevirtual 331, 3) := by decide +kernel
theorem dX7_gap_27 : decode cX7_gap 27 = .ok (.iconst 0, 1) := by decide +kernel
theorem dX7_gap_28 : decode cX7_gap 28 = .ok (.istore 4, 2) := by decide +kernel
theorem dX7_gap_30 : decode cX7_gap 30 = .ok (.iload 4, 2) := by decide +kernel
theorem dX7_gap_32 : decode cX7_gap 32 = .ok (.sipush 500, 3) := by decide +kernel
theorem dX7_gap_35 : decode cX7_gap 35 = .ok (.if_icmp .gt 64, 3) := by decide +kernel
theorem dX7_gap_38 : decode cX7_gap 38 = .ok (.aload_n 0, 1) := by decide +kernel
theorem dX7_gap_39 : decode cX7_gap 39 = .ok (.iload_n 1, 1) := by decide +kernel
theorem dX7_gap_40 : decode cX7_gap 40 = .ok (.iload_n 2, 1) := by decide +kernel
theorem dX7_gap_41 : decode cX7_gap 41 = .ok (.iload_n 3, 1) := by decide +kernel
theorem dX7_gap_42 : decode cX7_gap 42 = .ok (.ifCond .ne 8, 3) := by decide +kernel
theorem dX7_gap_45 : decode cX7_gap 45 = .ok (.iload 4, 2) := by decide +kernel
theorem dX7_gap_47 : decode cX7_gap 47 = .ok (.goto 15, 3) := by decide +kernel
theorem dX7_gap_50 : decode cX7_gap 50 = .ok (.iload_n 3, 1) := by decide +kernel
theorem dX7_gap_51 : decode cX7_gap 51 = .ok (.iconst 1, 1) := by decide +kernel
theorem dX7_gap_52 : decode cX7_gap 52 = .ok (.if_icmp .ne 9, 3) := by decide +kernel
theorem dX7_gap_55 : decode cX7_gap 55 = .ok (.iload 4, 2) := by decide +kernel
theorem dX7_gap_57 : decode cX7_gap 57 = .ok (.ineg, 1) := by decide +kernel
theorem dX7_gap_58 : decode cX7_gap 58 = .ok (.goto 4, 3) := by decide +kernel
theorem dX7_gap_61 : decode cX7_gap 61 = .ok (.iconst 0, 1) := by decide +kernel
theorem dX7_gap_62 : decode cX7_gap 62 = .ok (.iload_n 3, 1) := by decide +kernel
theorem dX7_gap_63 : decode cX7_gap 63 = .ok (.iconst 2, 1) := by decide +kernel
theorem dX7_gap_64 : decode cX7_gap 64 = .ok (.if_icmp .ne 8, 3) := by decide +kernel
theorem dX7_gap_67 : decode cX7_gap 67 = .ok (.iload 4, 2) := by decide +kernel
theorem dX7_gap_69 : decode cX7_gap 69 = .ok (.goto 15, 3) := by decide +kernel
theorem dX7_gap_72 : decode cX7_gap 72 = .ok (.iload_n 3, 1) := by decide +kernel
theorem dX7_gap_73 : decode cX7_gap 73 = .ok (.iconst 3, 1) := by decide +kernel
theorem dX7_gap_74 : decode cX7_gap 74 = .ok (.if_icmp .ne 9, 3) := by decide +kernel
theorem dX7_gap_77 : decode cX7_gap 77 = .ok (.iload 4, 2) := by decide +kernel
theorem dX7_gap_79 : decode cX7_gap 79 = .ok (.ineg, 1) := by decide +kernel
theorem dX7_gap_80 : decode cX7_gap 80 = .ok (.goto 4, 3) := by decide +kernel
theorem dX7_gap_83 : decode cX7_gap 83 = .ok (.iconst 0, 1) := by decide +kernel
theorem dX7_gap_84 : decode cX7_gap 84 = .ok (.invokevirtual 247, 3) := by decide +kernel
theorem dX7_gap_87 : decode cX7_gap 87 = .ok (.ifCond .eq 6, 3) := by decide +kernel
theorem dX7_gap_90 : decode cX7_gap 90 = .ok (.iload 4, 2) := by decide +kernel
theorem dX7_gap_92 : decode cX7_gap 92 = .ok (.ireturn, 1) := by decide +kernel
theorem dX7_gap_93 : decode cX7_gap 93 = .ok (.iinc 4 1, 3) := by decide +kernel
theorem dX7_gap_96 : decode cX7_gap 96 = .ok (.goto (-66), 3) := by decide +kernel
theorem dX7_gap_99 : decode cX7_gap 99 = .ok (.bipush (-2), 2) := by decide +kernel
theorem dX7_gap_101 : decode cX7_gap 101 = .ok (.ireturn, 1) := by decide +kernel
theorem dX7_meet_0 : decode cX7_meet 0 = .ok (.aload_n 0, 1) := by decide +kernel
theorem dX7_meet_1 : decode cX7_meet 1 = .ok (.iload_n 1, 1) := by decide +kernel
theorem dX7_meet_2 : decode cX7_meet 2 = .ok (.iload_n 2, 1) := by decide +kernel
theorem dX7_meet_3 : decode cX7_meet 3 = .ok (.invokevirtual 382, 3) := by decide +kernel
theorem dX7_meet_6 : decode cX7_meet 6 = .ok (.ifCond .eq 13, 3) := by decide +kernel
theorem dX7_meet_9 : decode cX7_meet 9 = .ok (.iload_n 3, 1) := by decide +kernel
theorem dX7_meet_10 : decode cX7_meet 10 = .ok (.i2l, 1) := by decide +kernel
theorem dX7_meet_11 : decode cX7_meet 11 = .ok (.lconst 0, 1) := by decide +kernel
theorem dX7_meet_12 : decode cX7_meet 12 = .ok (.lconst 1, 1) := by decide +kernel
theorem dX7_meet_13 : decode cX7_meet 13 = .ok (.invokestatic 96, 3) := by decide +kernel
theorem dX7_meet_16 : decode cX7_meet 16 = .ok (.ifCond .ne 7, 3) := by decide +kernel
theorem dX7_meet_19 : decode cX7_meet 19 = .ok (.sipush (-2000), 3) := by decide +kernel
theorem dX7_meet_22 : decode cX7_meet 22 = .ok (.ireturn, 1) := by decide +kernel
theorem dX7_meet_23 : decode cX7_meet 23 = .ok (.aload_n 0, 1) := by decide +kernel
theorem dX7_meet_24 : decode cX7_meet 24 = .ok (.iload_n 1, 1) := by decide +kernel
theorem dX7_meet_25 : decode cX7_meet 25 = .ok (.iconst 2, 1) := by decide +kernel
theorem dX7_meet_26 : decode cX7_meet 26 = .ok (.invokevirtual 199, 3) := by decide +kernel
theorem dX7_meet_29 : decode cX7_meet 29 = .ok (.istore 4, 2) := by decide +kernel
theorem dX7_meet_31 : decode cX7_meet 31 = .ok (.iload 4, 2) := by decide +kernel
theorem dX7_meet_33 : decode cX7_meet 33 = .ok (.aload_n 0, 1) := by decide +kernel
theorem dX7_meet_34 : decode cX7_meet 34 = .ok (.iload_n 1, 1) := by decide +kernel
theorem dX7_meet_35 : decode cX7_meet 35 = .ok (.iconst 2, 1) := by decide +kernel
theorem dX7_meet_36 : decode cX7_meet 36 = .ok (.invokevirtual 199, 3) := by decide +kernel
theorem dX7_meet_39 : decode cX7_meet 39 = .ok (.aload_n 0, 1) := by decide +kernel
theorem dX7_meet_40 : decode cX7_meet 40 = .ok (.aload_n 0, 1) := by decide +kernel
theorem dX7_meet_41 : decode cX7_meet 41 = .ok (.iload_n 1, 1) := by decide +kernel
theorem dX7_meet_42 : decode cX7_meet 42 = .ok (.invokevirtual 212, 3) := by decide +kernel
theorem dX7_meet_45 : decode cX7_meet 45 = .ok (.invokevirtual 205, 3) := by decide +kernel
theorem dX7_meet_48 : decode cX7_meet 48 = .ok (.iadd, 1) := by decide +kernel
theorem dX7_meet_49 : decode cX7_meet 49 = .ok (.if_icmp .ge 80, 3) := by decide +kernel
theorem dX7_meet_52 : decode cX7_meet 52 = .ok (.aload_n 0, 1) := by decide +kernel
theorem dX7_meet_53 : decode cX7_meet 53 = .ok (.iload_n 1, 1) := by decide +kernel
theorem dX7_meet_54 : decode cX7_meet 54 = .ok (.iconst 1, 1) := by decide +kernel
theorem dX7_meet_55 : decode cX7_meet 55 = .ok (.invokevirtual 199, 3) := by decide +kernel
theorem dX7_meet_58 : decode cX7_meet 58 = .ok (.istore 5, 2) := by decide +kernel
theorem dX7_meet_60 : decode cX7_meet 60 = .ok (.iload 5, 2) := by decide +kernel
theorem dX7_meet_62 : decode cX7_meet 62 = .ok (.aload_n 0, 1) := by decide +kernel
theorem dX7_meet_63 : decode cX7_meet 63 = .ok (.iload_n 1, 1) := by decide +kernel
theorem dX7_meet_64 : decode cX7_meet 64 = .ok (.iconst 1, 1) := by decide +kernel
theorem dX7_meet_65 : decode cX7_meet 65 = .ok (.invokevirtual 199, 3) := by decide +kernel
theorem dX7_meet_68 : decode cX7_meet 68 = .ok (.aload_n 0, 1) := by decide +kernel
theorem dX7_meet_69 : decode cX7_meet 69 = .ok (.aload_n 0, 1) := by decide +kernel
theorem dX7_meet_70 : decode cX7_meet 70 = .ok (.iload_n 1, 1) := by decide +kernel
theorem dX7_meet_71 : decode cX7_meet 71 = .ok (.invokevirtual 212, 3) := by decide +kernel
theorem dX7_meet_74 : decode cX7_meet 74 = .ok (.invokevirtual 202, 3) := by decide +kernel
theorem dX7_meet_77 : decode cX7_meet 77 = .ok (.iadd, 1) := by decide +kernel
theorem dX7_meet_78 : decode cX7_meet 78 = .ok (.if_icmp .ge 45, 3) := by decide +kernel
theorem dX7_meet_81 : decode cX7_meet 81 = .ok (.aload_n 0, 1) := by decide +kernel
theorem dX7_meet_82 : decode cX7_meet 82 = .ok (.iload_n 1, 1) := by decide +kernel
theorem dX7_meet_83 : decode cX7_meet 83 = .ok (.iload 5, 2) := by decide +kernel
theorem dX7_meet_85 : decode cX7_meet 85 = .ok (.iload 4, 2) := by decide +kernel
theorem dX7_meet_87 : decode cX7_meet 87 = .ok (.invokevirtual 388, 3) := by decide +kernel
theorem dX7_meet_90 : decode cX7_meet 90 = .ok (.ifCond .eq 27, 3) := by decide +kernel
theorem dX7_meet_93 : decode cX7_meet 93 = .ok (.aload_n 0, 1) := by decide +kernel
theorem dX7_meet_94 : decode cX7_meet 94 = .ok (.iload_n 2, 1) := by decide +kernel
theorem dX7_meet_95 : decode cX7_meet 95 = .ok (.iload 5, 2) := by decide +kernel
theorem dX7_meet_97 : decode cX7_meet 97 = .ok (.iload 4, 2) := by decide +kernel
theorem dX7_meet_99 : decode cX7_meet 99 = .ok (.invokevirtual 388, 3) := by decide +kernel
theorem dX7_meet_102 : decode cX7_meet 102 = .ok (.ifCond .eq 15, 3) := by decide +kernel
theorem dX7_meet_105 : decode cX7_meet 105 = .ok (.iload_n 3, 1) := by decide +kernel
theorem dX7_meet_106 : decode cX7_meet 106 = .ok (.ifCond .ne 8, 3) := by decide +kernel
theorem dX7_meet_109 : decode cX7_meet 109 = .ok (.iload 5, 2) := by decide +kernel
theorem dX7_meet_111 : decode cX7_meet 111 = .ok (.goto 5, 3) := by decide +kernel
theorem dX7_meet_114 : decode cX7_meet 114 = .ok (.iload 4, 2) := by decide +kernel
theorem dX7_meet_116 : decode cX7_meet 116 = .ok (.ireturn, 1) := by decide +kernel
theorem dX7_meet_117 : decode cX7_meet 117 = .ok (.iinc 5 1, 3) := by decide +kernel
theorem dX7_meet_120 : decode cX7_meet 120 = .ok (.goto (-60), 3) := by decide +kernel
theorem dX7_meet_123 : decode cX7_meet 123 = .ok (.iinc 4 1, 3) := by decide +kernel
theorem dX7_meet_126 : decode cX7_meet 126 = .ok (.goto (-95), 3) := by decide +kernel
theorem dX7_meet_129 : decode cX7_meet 129 = .ok (.sipush (-2000), 3) := by decide +kernel
theorem dX7_meet_132 : decode cX7_meet 132 = .ok (.ireturn, 1) := by decide +kernel
theorem dX7_row_0 : decode cX7_row 0 = .ok (.aload_n 0, 1) := by decide +kernel
theorem dX7_row_1 : decode cX7_row 1 = .ok (.iload_n 1, 1) := by decide +kernel
theorem dX7_row_2 : decode cX7_row 2 = .ok (.invokevirtual 301, 3) := by decide +kernel
theorem dX7_row_5 : decode cX7_row 5 = .ok (.ifCond .eq 48, 3) := by decide +kernel
theorem dX7_row_8 : decode cX7_row 8 = .ok (.iload_n 2, 1) := by decide +kernel
theorem dX7_row_9 : decode cX7_row 9 = .ok (.i2l, 1) := by decide +kernel
theorem dX7_row_10 : decode cX7_row 10 = .ok (.lconst 0, 1) := by decide +kernel
theorem dX7_row_11 : decode cX7_row 11 = .ok (.aload_n 0, 1) := by decide +kernel
theorem dX7_row_12 : decode cX7_row 12 = .ok (.iload_n 1, 1) := by decide +kernel
theorem dX7_row_13 : decode cX7_row 13 = .ok (.invokevirtual 205, 3) := by decide +kernel
theorem dX7_row_16 : decode cX7_row 16 = .ok (.iconst 1, 1) := by decide +kernel
theorem dX7_row_17 : decode cX7_row 17 = .ok (.isub, 1) := by decide +kernel
theorem dX7_row_18 : decode cX7_row 18 = .ok (.i2l, 1) := by decide +kernel
theorem dX7_row_19 : decode cX7_row 19 = .ok (.invokestatic 96, 3) := by decide +kernel
theorem dX7_row_22 : decode cX7_row 22 = .ok (.ifCond .eq 31, 3) := by decide +kernel
theorem dX7_row_25 : decode cX7_row 25 = .ok (.iload_n 3, 1) := by decide +kernel
theorem dX7_row_26 : decode cX7_row 26 = .ok (.i2l, 1) := by decide +kernel
theorem dX7_row_27 : decode cX7_row 27 = .ok (.lconst 0, 1) := by decide +kernel
theorem dX7_row_28 : decode cX7_row 28 = .ok (.lconst 1, 1) := by decide +kernel
theorem dX7_row_29 : decode cX7_row 29 = .ok (.invokestatic 96, 3) := by decide +kernel
theorem dX7_row_32 : decode cX7_row 32 = .ok (.ifCond .eq 21, 3) := by decide +kernel
theorem dX7_row_35 : decode cX7_row 35 = .ok (.aload_n 0, 1) := by decide +kernel
theorem dX7_row_36 : decode cX7_row 36 = .ok (.getfield 25, 3) := by decide +kernel
theorem dX7_row_39 : decode cX7_row 39 = .ok (.bipush 80, 2) := by decide +kernel
theorem dX7_row_41 : decode cX7_row 41 = .ok (.iload_n 1, 1) := by decide +kernel
theorem dX7_row_42 : decode cX7_row 42 = .ok (.imul, 1) := by decide +kernel
theorem dX7_row_43 : decode cX7_row 43 = .ok (.iconst 2, 1) := by decide +kernel
theorem dX7_row_44 : decode cX7_row 44 = .ok (.iload_n 2, 1) := by decide +kernel
theorem dX7_row_45 : decode cX7_row 45 = .ok (.imul, 1) := by decide +kernel
theorem dX7_row_46 : decode cX7_row 46 = .ok (.iadd, 1) := by decide +kernel
theorem dX7_row_47 : decode cX7_row 47 = .ok (.iload_n 3, 1) := by decide +kernel
theorem dX7_row_48 : decode cX7_row 48 = .ok (.iadd, 1) := by decide +kernel
theorem dX7_row_49 : decode cX7_row 49 = .ok (.laload, 1) := by decide +kernel
theorem dX7_row_50 : decode cX7_row 50 = .ok (.goto 4, 3) := by decide +kernel
theorem dX7_row_53 : decode cX7_row 53 = .ok (.lconst 0, 1) := by decide +kernel
theorem dX7_row_54 : decode cX7_row 54 = .ok (.lreturn, 1) := by decide +kernel
theorem dX7_touching_0 : decode cX7_touching 0 = .ok (.aload_n 0, 1) := by decide +kernel
theorem dX7_touching_1 : decode cX7_touching 1 = .ok (.iload_n 1, 1) := by decide +kernel
theorem dX7_touching_2 : decode cX7_touching 2 = .ok (.invokevirtual 196, 3) := by decide +kernel
theorem dX7_touching_5 : decode cX7_touching 5 = .ok (.ifCond .ne 5, 3) := by decide +kernel
theorem dX7_touching_8 : decode cX7_touching 8 = .ok (.iconst (-1), 1) := by decide +kernel
theorem dX7_touching_9 : decode cX7_touching 9 = .ok (.ireturn, 1) := by decide +kernel
theorem dX7_touching_10 : decode cX7_touching 10 = .ok (.aload_n 0, 1) := by decide +kernel
theorem dX7_touching_11 : decode cX7_touching 11 = .ok (.invokevirtual 331, 3) := by decide +kernel
theorem dX7_touching_14 : decode cX7_touching 14 = .ok (.aload_n 0, 1) := by decide +kernel
theorem dX7_touching_15 : decode cX7_touching 15 = .ok (.iload_n 1, 1) := by decide +kernel
theorem dX7_touching_16 : decode cX7_touching 16 = .ok (.invokevirtual 263, 3) := by decide +kernel
theorem dX7_touching_19 : decode cX7_touching 19 = .ok (.ireturn, 1) := by decide +kernel
set_option maxRecDepth 100000 in
theorem pq40 : Cond.selects RX7 yX7_laysAll yX7_laysAll ∈ pw := pw_mem (i := 40) (by decide +kernel) rfl
set_option maxRecDepth 100000 in
theorem pq43 : Cond.selects RX7 yX7_touchingOf yX7_touchingOf ∈ pw := pw_mem (i := 43) (by decide +kernel) rfl
set_option maxRecDepth 100000 in
theorem pq62 : Cond.selects RX7 yX7_areTwo yX7_areTwo ∈ pw := pw_mem (i := 62) (by decide +kernel) rfl
set_option maxRecDepth 100000 in
theorem pq63 : Cond.selects RX7 yX7_commonBy yX7_commonBy ∈ pw := pw_mem (i := 63) (by decide +kernel) rfl
set_option maxRecDepth 100000 in
theorem pq64 : Cond.selects RX7 yX7_lies yX7_lies ∈ pw := pw_mem (i := 64) (by decide +kernel) rfl
set_option maxRecDepth 100000 in
theorem pq67 : Cond.selects RX7 yX7_bodiesAt yX7_bodiesAt ∈ pw := pw_mem (i := 67) (by decide +kernel) rfl
set_option maxRecDepth 100000 in
theorem pq1427 : Cond.methodLink RX7 331 yX7_laysAll ∈ pw := pw_mem (i := 1427) (by decide +kernel) rfl
set_option maxRecDepth 100000 in
theorem pq1429 : Cond.instanceMethod yX7_laysAll ∈ pw := pw_mem (i := 1429) (by decide +kernel) rfl
set_option maxRecDepth 100000 in
theorem pq1430 : Cond.code yX7_laysAll cX7_laysAll 14 none ∈ pw := pw_mem (i := 1430) (by rfl) rfl
set_option maxRecDepth 100000 in
theorem pq1444 : Cond.methodLink RX7 263 yX7_touchingOf ∈ pw := pw_mem (i := 1444) (by decide +kernel) rfl
set_option maxRecDepth 100000 in
theorem pq1446 : Cond.instanceMethod yX7_touchingOf ∈ pw := pw_mem (i := 1446) (by decide +kernel) rfl
set_option maxRecDepth 100000 in
theorem pq1447 : Cond.code yX7_touchingOf cX7_touchingOf 4 (some .int) ∈ pw := pw_mem (i := 1447) (by rfl) rfl
set_option maxRecDepth 100000 in
theorem pq1566 : Cond.constantLong RX7 380 (7) ∈ pw := pw_mem (i := 1566) (by decide +kernel) rfl
set_option maxRecDepth 100000 in
theorem pq1571 : Cond.methodLink RX7 382 yX7_areTwo ∈ pw := pw_mem (i := 1571) (by decide +kernel) rfl
set_option maxRecDepth 100000 in
theorem pq1573 : Cond.instanceMethod yX7_areTwo ∈ pw := pw_mem (i := 1573) (by decide +kernel) rfl
set_option maxRecDepth 100000 in
theorem pq1574 : Cond.code yX7_areTwo cX7_areTwo 3 (some .boolean) ∈ pw := pw_mem (i := 1574) (by rfl) rfl
set_option maxRecDepth 100000 in
theorem pq1575 : Cond.methodLink RX7 385 yX7_commonBy ∈ pw := pw_mem (i := 1575) (by decide +kernel) rfl
set_option maxRecDepth 100000 in
theorem pq1577 : Cond.instanceMethod yX7_commonBy ∈ pw := pw_mem (i := 1577) (by decide +kernel) rfl
set_option maxRecDepth 100000 in
theorem pq1578 : Cond.code yX7_commonBy cX7_commonBy 5 (some .int) ∈ pw := pw_mem (i := 1578) (by rfl) rfl
set_option maxRecDepth 100000 in
theorem pq1583 : Cond.methodLink RX7 388 yX7_lies ∈ pw := pw_mem (i := 1583) (by decide +kernel) rfl
set_option maxRecDepth 100000 in
theorem pq1585 : Cond.instanceMethod yX7_lies ∈ pw := pw_mem (i := 1585) (by decide +kernel) rfl
set_option maxRecDepth 100000 in
theorem pq1586 : Cond.code yX7_lies cX7_lies 8 (some .boolean) ∈ pw := pw_mem (i := 1586) (by rfl) rfl
set_option maxRecDepth 100000 in
theorem pq1612 : Cond.methodLink RX7 399 yX7_bodiesAt ∈ pw := pw_mem (i := 1612) (by decide +kernel) rfl
set_option maxRecDepth 100000 in
theorem pq1614 : Cond.instanceMethod yX7_bodiesAt ∈ pw := pw_mem (i := 1614) (by decide +kernel) rfl
set_option maxRecDepth 100000 in
theorem pq1615 : Cond.code yX7_bodiesAt cX7_bodiesAt 5 (some .int) ∈ pw := pw_mem (i := 1615) (by rfl) rfl
set_option maxRecDepth 100000 in
theorem pq1620 : Cond.constantLong RX7 402 (300) ∈ pw := pw_mem (i := 1620) (by decide +kernel) rfl
set_option maxHeartbeats 4000000 in
set_option maxRecDepth 100000 in
theorem s_X7_edgeOf (l : Launch) (dC : Nat → ClassId) (dI : Nat → Nat → Nat) (cs : Nat → ClassId) (L : List Nat) (K G : Nat → Nat) (Q : Nat → Nat → Option Nat) (hQ : Sv L K G Q) (x0 m0 : Nat) (tx : GT) (tm : GT × Int) (sz : Nat) (I : Nat → Nat → Int32) (J : Nat → Nat → Int64) (hI : Iv L K x0 m0 tx tm I) (p0 : Nat) (hLp0 : p0 ∈ L) (hKp0 : K p0 = 7) (p1 : Int32) (bp1 : (0) ≤ p1.toInt ∧ p1.toInt ≤ 7) : Met l yX7_edgeOf (.code yX7_edgeOf cX7_edgeOf 5 (some .int) :: pw) ({ frames := 3, cells := 0, slots := 0, locals := 71 }) (sP (dC, dI) cs [.ref p0, .int p1] sz L K I J Q) (va_Qi (fun (r : Int32) (_ : Unit) => (∀ c : Fx, okF c → rI Q I p0 c → rJ Q J p0 c → p1.toInt.toNat < (c.1 0).toInt.toNat → r.toInt = edN (mo c.2 p1.toInt.toNat))) (fun _ _ => True) (fun _ => False)) 0 0 (fun _ => False) := by
  refine Met.ofW (cc := cX7_edgeOf) (maxL := 5) (ret := (some .int)) (by decide +kernel) rfl ?_
  intro p e s m args below meth c s₁ B hml hv
  obtain ⟨rfl, hsz, hP, hK, hD0, hN⟩ := hv
  have hx := B.exec
  have hb := B.bytes
  have hr := B.returns
  have hts := fun w (h : w ∈ pw) => atoms_spec (ws := Cond.code yX7_edgeOf cX7_edgeOf 5 (some .int) :: pw) B.pre w (List.mem_cons_of_mem _ h)
  have hown : s.vm.findClass RX7 = some m.cls := findClass_of_methodNamed B.named
  have hlocks := B.notSynchronized
  subst hsz
  have hBB : 999 ≤ tm.2 ∧ tm.2 ≤ 6000000 := hI.2.2.2.2.1
  have hD := hD0
  obtain ⟨H, hHe⟩ : ∃ H : Heap, H = s.heap := ⟨_, rfl⟩
  have hS : va_S (fun _ => False) s.heap H [] := by rw [hHe]; exact va_S.rf
  rw [← hHe] at hP
  have hl := lv_entry ([.ref p0, .int p1]) (n := 5) (Nat.le_of_ble_eq_true rfl)
  rw [lg_entry_eq]
  generalize (lg_sl ([.ref p0, .int p1]) ++ List.replicate (5 - (lg_sl ([.ref p0, .int p1])).length) Slot.unset).toArray = ls at hl ⊢
  have hl : lv_has ls 5 [(0, .ref p0), (1, .int p1)] := hl
  rw [← hHe]
  refine namedW (fun R Qz hR hQz => ?_)
  refine lv_iconst (v := 0) hx hb dX7_edgeOf_0 (by decide +kernel) ?_
  refine lv_istore_n (lv' := [(2, .int 0), (0, .ref p0), (1, .int p1)]) hx hb dX7_edgeOf_1 rfl hl (by decide) rfl (fun ls hl => ?_)
  refine lv_iconst (v := 0) hx hb dX7_edgeOf_2 (by decide +kernel) ?_
  refine lv_istore_n (lv' := [(3, .int 0), (2, .int 0), (0, .ref p0), (1, .int p1)]) hx hb dX7_edgeOf_3 rfl hl (by decide) rfl (fun ls hl => ?_)
  have key4 := blocks (fun n => ∀ (v4_2 : Int32) (v4_3 : Int32) (H : Heap) (lo : List Loc) (ls : Array Slot), (41 - v4_3.toInt).toNat = n → ((0) ≤ v4_3.toInt ∧ v4_3.toInt ≤ 40) → (∀ c : Fx, okF c → rI Q I p0 c → rJ Q J p0 c → p1.toInt.toNat < (c.1 0).toInt.toNat → v4_2.toInt = edP (mo c.2 p1.toInt.toNat) v4_3.toInt 0) → va_P (dC, dI) vwCl (Wd cs L K I J Q) H → va_S (fun _ => False) s.heap H lo → lv_has ls 5 [(0, .ref p0), (1, .int p1), (2, .int v4_2), (3, .int v4_3)] → W p l e R s m (([.ref p0, .int p1] : List Value).toArray) below meth c H lo 0 0 Qz (F0 m 4 ls [])) (by
    intro n ih4
    intro v4_2 v4_3 H lo ls hmu4 bv4_3 g4 hP hS hl
    refine lv_iload_n hx hb dX7_edgeOf_4 rfl (lv_at hl 3 rfl) ?_
    refine lv_aload_n hx hb dX7_edgeOf_5 rfl (lv_at hl 0 rfl) ?_
    refine lv_iload_n hx hb dX7_edgeOf_6 rfl (lv_at hl 1 rfl) ?_
    refine ro_i (va_runV (As := [.int p1]) (rest := [.int v4_3]) ⟨hx, hb, hml, hown, hts⟩ (s_X7_high l dC dI cs L K G Q hQ x0 m0 tx tm H.size I J hI p0 hLp0 hKp0 p1 ⟨by omega, by omega⟩) (cwV 1 hts (gV pq1372 pq1374 pq33 pq81 pq1375) rfl rfl rfl (by decide +kernel) ⟨(by rw [hR]; exact (Nat.le_of_ble_eq_true rfl)), (by rw [hR]; exact (Nat.le_of_ble_eq_true rfl))⟩) (sP_V hP hD hK hN hLp0 hKp0 rfl rfl) rfl rfl hl.1 rfl (lv_room (Nat.le_of_ble_eq_true rfl)) dX7_edgeOf_7 ⟨(by rw [hR]; exact (Nat.le_of_ble_eq_true rfl)), (by rw [hR]; exact (Nat.le_of_ble_eq_true rfl))⟩) hS hP (fun z7 H locs hz7 hP hS => ?_)
    obtain ⟨bz7, fez7⟩ := hz7
    refine lv_icmp_ge (tgt := 66) hx hb dX7_edgeOf_10 (by decide) (fun c10 => ?_) (fun c10 => ?_)
    · have t10 := tq_le (k := z7.toInt) (q := v4_3.toInt) c10 rfl rfl
      refine lv_iload_n hx hb dX7_edgeOf_66 rfl (lv_at hl 2 rfl) ?_
      subst hR; subst hQz
      exact W.iret (v := v4_2) hx hb hr (fun t ht hW => ⟨⟨v4_2, (), rfl, (fun c ok h hj hm => by have e7 := congrArg Int32.toInt ((show z7 = I (a0 Q p0 0) (11 + p1.toInt.toNat) from fez7).trans (h _ (by omega))); rw [g4 c ok h hj hm]; exact edP_end (ok.2.2.1 _ hm).2.2 (by omega)), trivial⟩, hS.F ht⟩) hS.2.2 dX7_edgeOf_67
    · have t10 := tq_nle (k := z7.toInt) (q := v4_3.toInt) c10 rfl rfl
      refine lv_iconst (v := 0) hx hb dX7_edgeOf_13 (by decide +kernel) ?_
      refine lv_istore (lv' := [(4, .int 0), (0, .ref p0), (1, .int p1), (2, .int v4_2), (3, .int v4_3)]) hx hb dX7_edgeOf_14 hl (by decide) rfl (fun ls hl => ?_)
      have key16 := blocks (fun n => ∀ (v16_2 : Int32) (v16_4 : Int32) (H : Heap) (lo : List Loc) (ls : Array Slot), (101 - v16_4.toInt).toNat = n → ((0) ≤ v16_4.toInt ∧ v16_4.toInt ≤ 100) → (∀ c : Fx, okF c → rI Q I p0 c → rJ Q J p0 c → p1.toInt.toNat < (c.1 0).toInt.toNat → v16_2.toInt = edP (mo c.2 p1.toInt.toNat) v4_3.toInt v16_4.toInt) → va_P (dC, dI) vwCl (Wd cs L K I J Q) H → va_S (fun _ => False) s.heap H lo → lv_has ls 5 [(0, .ref p0), (1, .int p1), (2, .int v16_2), (3, .int v4_3), (4, .int v16_4)] → W p l e R s m (([.ref p0, .int p1] : List Value).toArray) below meth c H lo 0 0 Qz (F0 m 16 ls [])) (by
        intro n ih16
        intro v16_2 v16_4 H lo ls hmu16 bv16_4 g16 hP hS hl
        refine lv_iload hx hb dX7_edgeOf_16 (lv_at hl 4 rfl) ?_
        refine lv_aload_n hx hb dX7_edgeOf_18 rfl (lv_at hl 0 rfl) ?_
        refine lv_iload_n hx hb dX7_edgeOf_19 rfl (lv_at hl 1 rfl) ?_
        refine ro_i (va_runV (As := [.int p1]) (rest := [.int v16_4]) ⟨hx, hb, hml, hown, hts⟩ (s_X7_wide l dC dI cs L K G Q hQ x0 m0 tx tm H.size I J hI p0 hLp0 hKp0 p1 ⟨by omega, by omega⟩) (cwV 1 hts (gV pq1368 pq1370 pq32 pq81 pq1371) rfl rfl rfl (by decide +kernel) ⟨(by rw [hR]; exact (Nat.le_of_ble_eq_true rfl)), (by rw [hR]; exact (Nat.le_of_ble_eq_true rfl))⟩) (sP_V hP hD hK hN hLp0 hKp0 rfl rfl) rfl rfl hl.1 rfl (lv_room (Nat.le_of_ble_eq_true rfl)) dX7_edgeOf_20 ⟨(by rw [hR]; exact (Nat.le_of_ble_eq_true rfl)), (by rw [hR]; exact (Nat.le_of_ble_eq_true rfl))⟩) hS hP (fun z20 H locs hz20 hP hS => ?_)
        obtain ⟨bz20, fez20⟩ := hz20
        refine lv_icmp_ge (tgt := 60) hx hb dX7_edgeOf_23 (by decide) (fun c23 => ?_) (fun c23 => ?_)
        · have t23 := tq_le (k := z20.toInt) (q := v16_4.toInt) c23 rfl rfl
          obtain ⟨z60, ez60⟩ : ∃ y : Int32, y = v4_3 + 1 := ⟨_, rfl⟩
          refine lv_iinc (v := z60) (lv' := [(3, .int z60), (0, .ref p0), (1, .int p1), (2, .int v16_2), (4, .int v16_4)]) hx hb dX7_edgeOf_60 hl (k := 3) rfl (by rw [ez60]; rfl) (by decide) rfl (fun ls hl => ?_)
          have bz60 := tq_add (k := v4_3.toInt) (q := 1) ez60 rfl (by decide +kernel) (by omega) (by omega)
          refine lv_goto (tgt := 4) hx hb dX7_edgeOf_63 (by decide) ?_
          exact ih4 _ (by omega) v16_2 z60 _ _ _ rfl ⟨by omega, by omega⟩ (fun c ok h hj hm => by have e20 := congrArg Int32.toInt ((show z20 = I (a0 Q p0 0) (3 + p1.toInt.toNat) from fez20).trans (h _ (by omega))); rw [g16 c ok h hj hm]; exact (edP_nl (ok.2.2.1 _ hm).2.2 (by omega) (by omega)).symm) hP hS (lv_sub hl [1, 2, 3, 0] rfl)
        · have t23 := tq_nle (k := z20.toInt) (q := v16_4.toInt) c23 rfl rfl
          refine lv_iload_n hx hb dX7_edgeOf_26 rfl (lv_at hl 2 rfl) ?_
          refine lv_aload_n hx hb dX7_edgeOf_27 rfl (lv_at hl 0 rfl) ?_
          refine lv_iload_n hx hb dX7_edgeOf_28 rfl (lv_at hl 1 rfl) ?_
          refine lv_iload hx hb dX7_edgeOf_29 (lv_at hl 4 rfl) ?_
          refine lv_iload_n hx hb dX7_edgeOf_31 rfl (lv_at hl 3 rfl) ?_
          refine ro_i (va_runV (As := [.int p1, .int v16_4, .int v4_3]) (rest := [.int v16_2]) ⟨hx, hb, hml, hown, hts⟩ (s_X7_has l dC dI cs L K G Q hQ x0 m0 tx tm H.size I J hI p0 hLp0 hKp0 p1 ⟨by omega, by omega⟩ v16_4 v4_3) (cwV 3 hts (gV pq1376 pq1378 pq34 pq81 pq1379) rfl rfl rfl (by decide +kernel) ⟨(by rw [hR]; exact (Nat.le_of_ble_eq_true rfl)), (by rw [hR]; exact (Nat.le_of_ble_eq_true rfl))⟩) (sP_V hP hD hK hN hLp0 hKp0 rfl rfl) rfl rfl hl.1 rfl (lv_room (Nat.le_of_ble_eq_true rfl)) dX7_edgeOf_32 ⟨(by rw [hR]; exact (Nat.le_of_ble_eq_true rfl)), (by rw [hR]; exact (Nat.le_of_ble_eq_true rfl))⟩) hS hP (fun z32 H locs hz32 hP hS => ?_)
          obtain ⟨bz32, imz32, xpz32⟩ := hz32
          have j52 : ∀ (w52_1 : Int32) (H : Heap) (lo : List Loc) (ls : Array Slot), ((0) ≤ w52_1.toInt ∧ w52_1.toInt ≤ 4) → (∀ c : Fx, okF c → rI Q I p0 c → rJ Q J p0 c → p1.toInt.toNat < (c.1 0).toInt.toNat → w52_1.toInt = if z32.toInt = 0 then 0 else 4 - (bi (md (mo c.2 p1.toInt.toNat) (v16_4.toInt - 1) v4_3.toInt) + bi (md (mo c.2 p1.toInt.toNat) (v16_4.toInt + 1) v4_3.toInt) + bi (md (mo c.2 p1.toInt.toNat) v16_4.toInt (v4_3.toInt - 1)) + bi (md (mo c.2 p1.toInt.toNat) v16_4.toInt (v4_3.toInt + 1)))) → va_P (dC, dI) vwCl (Wd cs L K I J Q) H → va_S (fun _ => False) s.heap H lo → lv_has ls 5 [(0, .ref p0), (1, .int p1), (2, .int v16_2), (3, .int v4_3), (4, .int v16_4)] → W p l e R s m (([.ref p0, .int p1] : List Value).toArray) below meth c H lo 0 0 Qz (F0 m 52 ls [.int w52_1, .int v16_2]) := by
            intro w52_1 H lo ls bw52_1 h52 hP hS hl
            refine lv_iadd hx hb dX7_edgeOf_52 ?_
            refine lv_topi (fun z52 ez52 => ?_)
            refine lv_istore_n (lv' := [(2, .int z52), (0, .ref p0), (1, .int p1), (3, .int v4_3), (4, .int v16_4)]) hx hb dX7_edgeOf_53 rfl hl (by decide) rfl (fun ls hl => ?_)
            obtain ⟨z54, ez54⟩ : ∃ y : Int32, y = v16_4 + 1 := ⟨_, rfl⟩
            refine lv_iinc (v := z54) (lv' := [(4, .int z54), (2, .int z52), (0, .ref p0), (1, .int p1), (3, .int v4_3)]) hx hb dX7_edgeOf_54 hl (k := 4) rfl (by rw [ez54]; rfl) (by decide) rfl (fun ls hl => ?_)
            have bz54 := tq_add (k := v16_4.toInt) (q := 1) ez54 rfl (by decide +kernel) (by omega) (by omega)
            refine lv_goto (tgt := 16) hx hb dX7_edgeOf_57 (by decide) ?_
            exact ih16 _ (by omega) z52 z54 _ _ _ rfl ⟨by omega, by omega⟩ (fun c ok h hj hm => by have q32 : z32.toInt = bi (md (mo c.2 p1.toInt.toNat) v16_4.toInt v4_3.toInt) := (by rw [xpz32, hs_congr (f := rF Q J p0 p1.toInt.toNat) (g := mo c.2 p1.toInt.toNat) (congrArg Int32.toInt (h (3 + p1.toInt.toNat) (by omega))) (congrArg Int32.toInt (h (11 + p1.toInt.toNat) (by omega))) (fun k hk => hj (80 * p1.toInt.toNat + k) (by omega)), hs_of (ok.2.2.1 _ hm).2.2]); have g := g16 c ok h hj hm; have b := edP_b (mo c.2 p1.toInt.toNat) v4_3.toInt v16_4.toInt; have a52 := tq_add (k := v16_2.toInt) (q := w52_1.toInt) ez52 rfl rfl (by omega) (by omega); rw [a52, g, h52 c ok h hj hm, edP_s ⟨by omega, by omega⟩ ⟨by omega, by omega⟩ bz54]; congr 1; by_cases k : z32.toInt = 0; (rw [if_pos k, if_neg (fun e => biT.mpr e (q32.symm.trans k))]); (rw [if_neg k, if_pos (biT.mp (fun e => k (q32.trans e)))])) hP hS (lv_sub hl [2, 3, 1, 4, 0] rfl)
          refine lv_if_eq (tgt := 51) hx hb dX7_edgeOf_35 (by decide) (fun c35 => ?_) (fun c35 => ?_)
          · have t35 := tq_eq (k := z32.toInt) (q := (0)) c35 rfl (by decide +kernel)
            refine lv_iconst (v := 0) hx hb dX7_edgeOf_51 (by decide +kernel) ?_
            exact j52 0 _ _ _ ⟨by decide +kernel, by decide +kernel⟩ (fun c ok h hj hm => by rw [if_pos t35]; decide +kernel) hP hS (lv_sub hl [0, 1, 2, 3, 4] rfl)
          · have t35 := tq_ne (k := z32.toInt) (q := (0)) c35 rfl (by decide +kernel)
            have i35 := imz32 t35
            refine lv_iconst (v := 4) hx hb dX7_edgeOf_38 (by decide +kernel) ?_
            refine lv_aload_n hx hb dX7_edgeOf_39 rfl (lv_at hl 0 rfl) ?_
            refine lv_iload_n hx hb dX7_edgeOf_40 rfl (lv_at hl 1 rfl) ?_
            refine lv_iload hx hb dX7_edgeOf_41 (lv_at hl 4 rfl) ?_
            refine lv_iload_n hx hb dX7_edgeOf_43 rfl (lv_at hl 3 rfl) ?_
            refine ro_i (va_runV (As := [.int p1, .int v16_4, .int v4_3]) (rest := [.int 4, .int v16_2]) ⟨hx, hb, hml, hown, hts⟩ (s_X7_around l dC dI cs L K G Q hQ x0 m0 tx tm H.size I J hI p0 hLp0 hKp0 p1 ⟨by omega, by omega⟩ v16_4 ⟨by omega, by omega⟩ v4_3 ⟨by omega, by omega⟩) (cwV 3 hts (gV pq1395 pq1397 pq37 pq81 pq1398) rfl rfl rfl (by decide +kernel) ⟨(by rw [hR]; exact (Nat.le_of_ble_eq_true rfl)), (by rw [hR]; exact (Nat.le_of_ble_eq_true rfl))⟩) (sP_V hP hD hK hN hLp0 hKp0 rfl rfl) rfl rfl hl.1 rfl (lv_room (Nat.le_of_ble_eq_true rfl)) dX7_edgeOf_44 ⟨(by rw [hR]; exact (Nat.le_of_ble_eq_true rfl)), (by rw [hR]; exact (Nat.le_of_ble_eq_true rfl))⟩) hS hP (fun z44 H locs hz44 hP hS => ?_)
            obtain ⟨bz44, xpz44⟩ := hz44
            refine lv_isub hx hb dX7_edgeOf_47 ?_
            refine lv_topi (fun z47 ez47 => ?_)
            have bz47 := tq_sub (k := (4)) (q := z44.toInt) ez47 (by decide +kernel) rfl (by omega) (by omega)
            refine lv_goto (tgt := 52) hx hb dX7_edgeOf_48 (by decide) ?_
            exact j52 z47 _ _ _ ⟨by omega, by omega⟩ (fun c ok h hj hm => by rw [if_neg t35, bz47, xpz44, hs_congr (f := rF Q J p0 p1.toInt.toNat) (g := mo c.2 p1.toInt.toNat) (congrArg Int32.toInt (h (3 + p1.toInt.toNat) (by omega))) (congrArg Int32.toInt (h (11 + p1.toInt.toNat) (by omega))) (fun k hk => hj (80 * p1.toInt.toNat + k) (by omega)), hs_congr (f := rF Q J p0 p1.toInt.toNat) (g := mo c.2 p1.toInt.toNat) (congrArg Int32.toInt (h (3 + p1.toInt.toNat) (by omega))) (congrArg Int32.toInt (h (11 + p1.toInt.toNat) (by omega))) (fun k hk => hj (80 * p1.toInt.toNat + k) (by omega)), hs_congr (f := rF Q J p0 p1.toInt.toNat) (g := mo c.2 p1.toInt.toNat) (congrArg Int32.toInt (h (3 + p1.toInt.toNat) (by omega))) (congrArg Int32.toInt (h (11 + p1.toInt.toNat) (by omega))) (fun k hk => hj (80 * p1.toInt.toNat + k) (by omega)), hs_congr (f := rF Q J p0 p1.toInt.toNat) (g := mo c.2 p1.toInt.toNat) (congrArg Int32.toInt (h (3 + p1.toInt.toNat) (by omega))) (congrArg Int32.toInt (h (11 + p1.toInt.toNat) (by omega))) (fun k hk => hj (80 * p1.toInt.toNat + k) (by omega)), hs_of (ok.2.2.1 _ hm).2.2, hs_of (ok.2.2.1 _ hm).2.2, hs_of (ok.2.2.1 _ hm).2.2, hs_of (ok.2.2.1 _ hm).2.2]) hP hS (lv_sub hl [0, 1, 2, 3, 4] rfl))
      exact key16 _ v4_2 0 _ _ _ rfl ⟨by decide +kernel, by decide +kernel⟩ (fun c ok h hj hm => by rw [show (0 : Int32).toInt = 0 from by decide +kernel]; exact g4 c ok h hj hm) hP hS (lv_sub hl [1, 2, 3, 4, 0] rfl))
  exact key4 _ 0 0 _ _ _ rfl ⟨by decide +kernel, by decide +kernel⟩ (fun c ok h hj hm => by rw [show (0 : Int32).toInt = 0 from by decide +kernel]; exact (edP_0 _).symm) hP hS (lv_sub hl [2, 3, 1, 0] rfl)

set_option maxHeartbeats 4000000 in
set_option maxRecDepth 100000 in
theorem s_X7_dot (l : Launch) (dC : Nat → ClassId) (dI : Nat → Nat → Nat) (cs : Nat → ClassId) (L : List Nat) (K G : Nat → Nat) (Q : Nat → Nat → Option Nat) (hQ : Sv L K G Q) (x0 m0 : Nat) (tx : GT) (tm : GT × Int) (sz : Nat) (I : Nat → Nat → Int32) (J : Nat → Nat → Int64) (hI : Iv L K x0 m0 tx tm I) (p0 : Nat) (hLp0 : p0 ∈ L) (hKp0 : K p0 = 7) (p1 : Int32) (p2 : Int32) (p3 : Int32) : Met l yX7_dot (.code yX7_dot cX7_dot 4 (some .int) :: pw) ({ frames := 2, cells := 0, slots := 0, locals := 48 }) (sP (dC, dI) cs [.ref p0, .int p1, .int p2, .int p3] sz L K I J Q) (va_Qi (fun (r : Int32) (_ : Unit) => (∀ σ : Sx, cmA Q I J p0 σ → r.toInt = dtR σ p1 p2 p3)) (fun _ _ => True) (fun _ => False)) 0 0 (fun _ => False) := by
  refine Met.ofW (cc := cX7_dot) (maxL := 4) (ret := (some .int)) (by decide +kernel) rfl ?_
  intro p e s m args below meth c s₁ B hml hv
  obtain ⟨rfl, hsz, hP, hK, hD0, hN⟩ := hv
  have hx := B.exec
  have hb := B.bytes
  have hr := B.returns
  have hts := fun w (h : w ∈ pw) => atoms_spec (ws := Cond.code yX7_dot cX7_dot 4 (some .int) :: pw) B.pre w (List.mem_cons_of_mem _ h)
  have hown : s.vm.findClass RX7 = some m.cls := findClass_of_methodNamed B.named
  have hlocks := B.notSynchronized
  subst hsz
  have hBB : 999 ≤ tm.2 ∧ tm.2 ≤ 6000000 := hI.2.2.2.2.1
  have hD := hD0
  obtain ⟨H, hHe⟩ : ∃ H : Heap, H = s.heap := ⟨_, rfl⟩
  have hS : va_S (fun _ => False) s.heap H [] := by rw [hHe]; exact va_S.rf
  rw [← hHe] at hP
  have hl := lv_entry ([.ref p0, .int p1, .int p2, .int p3]) (n := 4) (Nat.le_of_ble_eq_true rfl)
  rw [lg_entry_eq]
  generalize (lg_sl ([.ref p0, .int p1, .int p2, .int p3]) ++ List.replicate (4 - (lg_sl ([.ref p0, .int p1, .int p2, .int p3])).length) Slot.unset).toArray = ls at hl ⊢
  have hl : lv_has ls 4 [(0, .ref p0), (1, .int p1), (2, .int p2), (3, .int p3)] := hl
  rw [← hHe]
  refine namedW (fun R Qz hR hQz => ?_)
  refine lv_aload_n hx hb dX7_dot_0 rfl (lv_at hl 0 rfl) ?_
  refine lv_iload_n hx hb dX7_dot_1 rfl (lv_at hl 1 rfl) ?_
  refine ro_i (va_runV (As := [.int p1]) (rest := []) ⟨hx, hb, hml, hown, hts⟩ (s_X7_isMask l dC dI cs L K G Q hQ x0 m0 tx tm H.size I J hI p0 hLp0 hKp0 p1) (cwV 1 hts (gV pq1364 pq1366 pq31 pq81 pq1367) rfl rfl rfl (by decide +kernel) ⟨(by rw [hR]; exact (Nat.le_of_ble_eq_true rfl)), (by rw [hR]; exact (Nat.le_of_ble_eq_true rfl))⟩) (sP_V hP hD hK hN hLp0 hKp0 rfl rfl) rfl rfl hl.1 rfl (lv_room (Nat.le_of_ble_eq_true rfl)) dX7_dot_2 ⟨(by rw [hR]; exact (Nat.le_of_ble_eq_true rfl)), (by rw [hR]; exact (Nat.le_of_ble_eq_true rfl))⟩) hS hP (fun z2 H locs hz2 hP hS => ?_)
  obtain ⟨bz2, imz2, xpz2⟩ := hz2
  refine lv_if_eq (tgt := 21) hx hb dX7_dot_5 (by decide) (fun c5 => ?_) (fun c5 => ?_)
  · have t5 := tq_eq (k := z2.toInt) (q := (0)) c5 rfl (by decide +kernel)
    refine lv_iconst (v := (-1)) hx hb dX7_dot_21 (by decide +kernel) ?_
    subst hR; subst hQz
    exact W.iret (v := (-1)) hx hb hr (fun t ht hW => ⟨⟨(-1), (), rfl, (fun σ h => by have q := xpz2.2 t5; rw [cm_0 h] at q; unfold dtR; rw [if_neg q]; decide +kernel), trivial⟩, hS.F ht⟩) hS.2.2 dX7_dot_22
  · have t5 := tq_ne (k := z2.toInt) (q := (0)) c5 rfl (by decide +kernel)
    have i5 := imz2 t5
    refine lv_aload_n hx hb dX7_dot_8 rfl (lv_at hl 0 rfl) ?_
    refine lv_iload_n hx hb dX7_dot_9 rfl (lv_at hl 1 rfl) ?_
    refine lv_iload_n hx hb dX7_dot_10 rfl (lv_at hl 2 rfl) ?_
    refine lv_iload_n hx hb dX7_dot_11 rfl (lv_at hl 3 rfl) ?_
    refine ro_i (va_runV (As := [.int p1, .int p2, .int p3]) (rest := []) ⟨hx, hb, hml, hown, hts⟩ (s_X7_has l dC dI cs L K G Q hQ x0 m0 tx tm H.size I J hI p0 hLp0 hKp0 p1 ⟨by omega, by omega⟩ p2 p3) (cwV 3 hts (gV pq1376 pq1378 pq34 pq81 pq1379) rfl rfl rfl (by decide +kernel) ⟨(by rw [hR]; exact (Nat.le_of_ble_eq_true rfl)), (by rw [hR]; exact (Nat.le_of_ble_eq_true rfl))⟩) (sP_V hP hD hK hN hLp0 hKp0 rfl rfl) rfl rfl hl.1 rfl (lv_room (Nat.le_of_ble_eq_true rfl)) dX7_dot_12 ⟨(by rw [hR]; exact (Nat.le_of_ble_eq_true rfl)), (by rw [hR]; exact (Nat.le_of_ble_eq_true rfl))⟩) hS hP (fun z12 H locs hz12 hP hS => ?_)
    obtain ⟨bz12, imz12, xpz12⟩ := hz12
    refine ro_i (va_runS (As := [.int z12]) (rest := []) ⟨hx, hb, hml, hown, hts⟩ (s_X7_truth l dC dI cs L K Q H.size I J z12) (va_cwS 1 hts (gS pq1257 pq1258 pq81 pq1259) rfl rfl rfl (by decide +kernel) ⟨(by rw [hR]; exact (Nat.le_of_ble_eq_true rfl)), (by rw [hR]; exact (Nat.le_of_ble_eq_true rfl))⟩) (sP_S hP hD hK hN) rfl rfl hl.1 rfl (lv_room (Nat.le_of_ble_eq_true rfl)) dX7_dot_15 ⟨(by rw [hR]; exact (Nat.le_of_ble_eq_true rfl)), (by rw [hR]; exact (Nat.le_of_ble_eq_true rfl))⟩) hS hP (fun z15 H locs hz15 hP hS => ?_)
    obtain ⟨bz15, xpz15⟩ := hz15
    refine lv_goto (tgt := 22) hx hb dX7_dot_18 (by decide) ?_
    subst hR; subst hQz
    exact W.iret (v := z15) hx hb hr (fun t ht hW => ⟨⟨z15, (), rfl, (fun σ h => by have q := xpz2.1 t5; rw [cm_0 h] at q; have c := cmA_F (m := p1) h (by omega); have e := xpz12; rw [hs_congr c.1 c.2.1 c.2.2] at e; unfold dtR; rw [if_pos q, ← e]; rcases (show z12.toInt = 0 ∨ z12.toInt = 1 by omega) with w | w; (rw [xpz15.1 w, w]); (rw [xpz15.2 (by omega), w])), trivial⟩, hS.F ht⟩) hS.2.2 dX7_dot_22

set_option maxHeartbeats 4000000 in
set_option maxRecDepth 100000 in
theorem s_X7_row (l : Launch) (dC : Nat → ClassId) (dI : Nat → Nat → Nat) (cs : Nat → ClassId) (L : List Nat) (K G : Nat → Nat) (Q : Nat → Nat → Option Nat) (hQ : Sv L K G Q) (x0 m0 : Nat) (tx : GT) (tm : GT × Int) (sz : Nat) (I : Nat → Nat → Int32) (J : Nat → Nat → Int64) (hI : Iv L K x0 m0 tx tm I) (p0 : Nat) (hLp0 : p0 ∈ L) (hKp0 : K p0 = 7) (p1 : Int32) (p2 : Int32) (p3 : Int32) : Met l yX7_row (.code yX7_row cX7_row 4 (some .long) :: pw) ({ frames := 2, cells := 0, slots := 0, locals := 46 }) (sP (dC, dI) cs [.ref p0, .int p1, .int p2, .int p3] sz L K I J Q) (va_Ql (fun (r : Int64) (_ : Unit) => (∀ σ : Sx, cmA Q I J p0 σ → r = rwR σ p1 p2 p3)) (fun _ _ => True) (fun _ => False)) 0 0 (fun _ => False) := by
  refine Met.ofW (cc := cX7_row) (maxL := 4) (ret := (some .long)) (by decide +kernel) rfl ?_
  intro p e s m args below meth c s₁ B hml hv
  obtain ⟨rfl, hsz, hP, hK, hD0, hN⟩ := hv
  have hx := B.exec
  have hb := B.bytes
  have hr := B.returns
  have hts := fun w (h : w ∈ pw) => atoms_spec (ws := Cond.code yX7_row cX7_row 4 (some .long) :: pw) B.pre w (List.mem_cons_of_mem _ h)
  have hown : s.vm.findClass RX7 = some m.cls := findClass_of_methodNamed B.named
  have hlocks := B.notSynchronized
  subst hsz
  have hBB : 999 ≤ tm.2 ∧ tm.2 ≤ 6000000 := hI.2.2.2.2.1
  have hD := hD0
  obtain ⟨H, hHe⟩ : ∃ H : Heap, H = s.heap := ⟨_, rfl⟩
  have hS : va_S (fun _ => False) s.heap H [] := by rw [hHe]; exact va_S.rf
  rw [← hHe] at hP
  have hl := lv_entry ([.ref p0, .int p1, .int p2, .int p3]) (n := 4) (Nat.le_of_ble_eq_true rfl)
  rw [lg_entry_eq]
  generalize (lg_sl ([.ref p0, .int p1, .int p2, .int p3]) ++ List.replicate (4 - (lg_sl ([.ref p0, .int p1, .int p2, .int p3])).length) Slot.unset).toArray = ls at hl ⊢
  have hl : lv_has ls 4 [(0, .ref p0), (1, .int p1), (2, .int p2), (3, .int p3)] := hl
  rw [← hHe]
  refine namedW (fun R Qz hR hQz => ?_)
  refine lv_aload_n hx hb dX7_row_0 rfl (lv_at hl 0 rfl) ?_
  refine lv_iload_n hx hb dX7_row_1 rfl (lv_at hl 1 rfl) ?_
  refine ro_i (va_runV (As := [.int p1]) (rest := []) ⟨hx, hb, hml, hown, hts⟩ (s_X7_isMask l dC dI cs L K G Q hQ x0 m0 tx tm H.size I J hI p0 hLp0 hKp0 p1) (cwV 1 hts (gV pq1364 pq1366 pq31 pq81 pq1367) rfl rfl rfl (by decide +kernel) ⟨(by rw [hR]; exact (Nat.le_of_ble_eq_true rfl)), (by rw [hR]; exact (Nat.le_of_ble_eq_true rfl))⟩) (sP_V hP hD hK hN hLp0 hKp0 rfl rfl) rfl rfl hl.1 rfl (lv_room (Nat.le_of_ble_eq_true rfl)) dX7_row_2 ⟨(by rw [hR]; exact (Nat.le_of_ble_eq_true rfl)), (by rw [hR]; exact (Nat.le_of_ble_eq_true rfl))⟩) hS hP (fun z2 H locs hz2 hP hS => ?_)
  obtain ⟨bz2, imz2, xpz2⟩ := hz2
  refine lv_if_eq (tgt := 53) hx hb dX7_row_5 (by decide) (fun c5 => ?_) (fun c5 => ?_)
  · have t5 := tq_eq (k := z2.toInt) (q := (0)) c5 rfl (by decide +kernel)
    refine lv_lconst (v := 0) hx hb dX7_row_53 (by decide +kernel) ?_
    subst hR; subst hQz
    exact W.lret (v := 0) hx hb hr (fun t ht hW => ⟨⟨0, (), rfl, (fun σ h => by unfold rwR; rw [if_neg (fun w => by first | exact (xpz2.2 t5) (by rw [cm_0 h]; exact w.1) | exact xpz29 t32 ⟨by have a := w.2.2.1; omega, by have a := w.2.2.2; omega⟩ | (have q := xpz2.1 t5; rw [cm_0 h] at q; have c := cmA_F (m := p1) h (by omega); have e13 : z13.toInt = (mH σ p1).toInt := (congrArg Int32.toInt fez13).trans c.2.1; exact xpz19 t22 ⟨by have a := w.2.1.1; omega, by have a := w.2.1.2; rw [← e13] at a; omega⟩))]), trivial⟩, hS.F ht⟩) hS.2.2 dX7_row_54
  · have t5 := tq_ne (k := z2.toInt) (q := (0)) c5 rfl (by decide +kernel)
    have i5 := imz2 t5
    refine lv_iload_n hx hb dX7_row_8 rfl (lv_at hl 2 rfl) ?_
    refine lv_i2l hx hb dX7_row_9 rfl ?_
    refine lv_topl (fun z9 ez9 => ?_)
    have bz9 := tq_i2l (k := p2.toInt) ez9 rfl
    refine lv_lconst (v := 0) hx hb dX7_row_10 (by decide +kernel) ?_
    refine lv_aload_n hx hb dX7_row_11 rfl (lv_at hl 0 rfl) ?_
    refine lv_iload_n hx hb dX7_row_12 rfl (lv_at hl 1 rfl) ?_
    refine ro_i (va_runV (As := [.int p1]) (rest := [.long 0, .long z9]) ⟨hx, hb, hml, hown, hts⟩ (s_X7_high l dC dI cs L K G Q hQ x0 m0 tx tm H.size I J hI p0 hLp0 hKp0 p1 ⟨by omega, by omega⟩) (cwV 1 hts (gV pq1372 pq1374 pq33 pq81 pq1375) rfl rfl rfl (by decide +kernel) ⟨(by rw [hR]; exact (Nat.le_of_ble_eq_true rfl)), (by rw [hR]; exact (Nat.le_of_ble_eq_true rfl))⟩) (sP_V hP hD hK hN hLp0 hKp0 rfl rfl) rfl rfl hl.1 rfl (lv_room (Nat.le_of_ble_eq_true rfl)) dX7_row_13 ⟨(by rw [hR]; exact (Nat.le_of_ble_eq_true rfl)), (by rw [hR]; exact (Nat.le_of_ble_eq_true rfl))⟩) hS hP (fun z13 H locs hz13 hP hS => ?_)
    obtain ⟨bz13, fez13⟩ := hz13
    refine lv_iconst (v := 1) hx hb dX7_row_16 (by decide +kernel) ?_
    refine lv_isub hx hb dX7_row_17 ?_
    refine lv_topi (fun z17 ez17 => ?_)
    have bz17 := tq_sub (k := z13.toInt) (q := (1)) ez17 rfl (by decide +kernel) (by omega) (by omega)
    refine lv_i2l hx hb dX7_row_18 rfl ?_
    refine lv_topl (fun z18 ez18 => ?_)
    have bz18 := tq_i2l (k := z17.toInt) ez18 rfl
    refine ro_i (va_runS (As := [.long z9, .long 0, .long z18]) (rest := []) ⟨hx, hb, hml, hown, hts⟩ (s_X7_in l dC dI cs L K Q H.size I J z9 0 z18) (va_cwS 3 hts (gS pq1234 pq1235 pq81 pq1236) rfl rfl rfl (by decide +kernel) ⟨(by rw [hR]; exact (Nat.le_of_ble_eq_true rfl)), (by rw [hR]; exact (Nat.le_of_ble_eq_true rfl))⟩) (sP_S hP hD hK hN) rfl rfl hl.1 rfl (lv_room (Nat.le_of_ble_eq_true rfl)) dX7_row_19 ⟨(by rw [hR]; exact (Nat.le_of_ble_eq_true rfl)), (by rw [hR]; exact (Nat.le_of_ble_eq_true rfl))⟩) hS hP (fun z19 H locs hz19 hP hS => ?_)
    have csl19_0 : (0 : Int64).toInt = 0 := by decide +kernel
    obtain ⟨bz19, imz19, xpz19⟩ := hz19
    refine lv_if_eq (tgt := 53) hx hb dX7_row_22 (by decide) (fun c22 => ?_) (fun c22 => ?_)
    · have t22 := tq_eq (k := z19.toInt) (q := (0)) c22 rfl (by decide +kernel)
      refine lv_lconst (v := 0) hx hb dX7_row_53 (by decide +kernel) ?_
      subst hR; subst hQz
      exact W.lret (v := 0) hx hb hr (fun t ht hW => ⟨⟨0, (), rfl, (fun σ h => by unfold rwR; rw [if_neg (fun w => by first | exact (xpz2.2 t5) (by rw [cm_0 h]; exact w.1) | exact xpz29 t32 ⟨by have a := w.2.2.1; omega, by have a := w.2.2.2; omega⟩ | (have q := xpz2.1 t5; rw [cm_0 h] at q; have c := cmA_F (m := p1) h (by omega); have e13 : z13.toInt = (mH σ p1).toInt := (congrArg Int32.toInt fez13).trans c.2.1; exact xpz19 t22 ⟨by have a := w.2.1.1; omega, by have a := w.2.1.2; rw [← e13] at a; omega⟩))]), trivial⟩, hS.F ht⟩) hS.2.2 dX7_row_54
    · have t22 := tq_ne (k := z19.toInt) (q := (0)) c22 rfl (by decide +kernel)
      have i22 := imz19 t22
      refine lv_iload_n hx hb dX7_row_25 rfl (lv_at hl 3 rfl) ?_
      refine lv_i2l hx hb dX7_row_26 rfl ?_
      refine lv_topl (fun z26 ez26 => ?_)
      have bz26 := tq_i2l (k := p3.toInt) ez26 rfl
      refine lv_lconst (v := 0) hx hb dX7_row_27 (by decide +kernel) ?_
      refine lv_lconst (v := 1) hx hb dX7_row_28 (by decide +kernel) ?_
      refine ro_i (va_runS (As := [.long z26, .long 0, .long 1]) (rest := []) ⟨hx, hb, hml, hown, hts⟩ (s_X7_in l dC dI cs L K Q H.size I J z26 0 1) (va_cwS 3 hts (gS pq1234 pq1235 pq81 pq1236) rfl rfl rfl (by decide +kernel) ⟨(by rw [hR]; exact (Nat.le_of_ble_eq_true rfl)), (by rw [hR]; exact (Nat.le_of_ble_eq_true rfl))⟩) (sP_S hP hD hK hN) rfl rfl hl.1 rfl (lv_room (Nat.le_of_ble_eq_true rfl)) dX7_row_29 ⟨(by rw [hR]; exact (Nat.le_of_ble_eq_true rfl)), (by rw [hR]; exact (Nat.le_of_ble_eq_true rfl))⟩) hS hP (fun z29 H locs hz29 hP hS => ?_)
      have csl29_0 : (0 : Int64).toInt = 0 := by decide +kernel
      have csl29_1 : (1 : Int64).toInt = 1 := by decide +kernel
      obtain ⟨bz29, imz29, xpz29⟩ := hz29
      refine lv_if_eq (tgt := 53) hx hb dX7_row_32 (by decide) (fun c32 => ?_) (fun c32 => ?_)
      · have t32 := tq_eq (k := z29.toInt) (q := (0)) c32 rfl (by decide +kernel)
        refine lv_lconst (v := 0) hx hb dX7_row_53 (by decide +kernel) ?_
        subst hR; subst hQz
        exact W.lret (v := 0) hx hb hr (fun t ht hW => ⟨⟨0, (), rfl, (fun σ h => by unfold rwR; rw [if_neg (fun w => by first | exact (xpz2.2 t5) (by rw [cm_0 h]; exact w.1) | exact xpz29 t32 ⟨by have a := w.2.2.1; omega, by have a := w.2.2.2; omega⟩ | (have q := xpz2.1 t5; rw [cm_0 h] at q; have c := cmA_F (m := p1) h (by omega); have e13 : z13.toInt = (mH σ p1).toInt := (congrArg Int32.toInt fez13).trans c.2.1; exact xpz19 t22 ⟨by have a := w.2.1.1; omega, by have a := w.2.1.2; rw [← e13] at a; omega⟩))]), trivial⟩, hS.F ht⟩) hS.2.2 dX7_row_54
      · have t32 := tq_ne (k := z29.toInt) (q := (0)) c32 rfl (by decide +kernel)
        have i32 := imz29 t32
        refine lv_aload_n hx hb dX7_row_35 rfl (lv_at hl 0 rfl) ?_
        obtain ⟨y36, ey36, hLy36, hKy36⟩ := oQ_7_5 (Sv_at hQ hLp0 hKp0)
        refine p_get (v := .ref y36) hx hb hts inX7 hown hK hP hLp0 hKp0 rfl rfl 5 (by decide) (hts _ pq1120) (congrArg (fun q => some (va_rf q)) ey36) dX7_row_36 ?_
        refine lv_bipush (v := 80) hx hb dX7_row_39 (by decide +kernel) ?_
        refine lv_iload_n hx hb dX7_row_41 rfl (lv_at hl 1 rfl) ?_
        refine lv_imul hx hb dX7_row_42 ?_
        refine lv_topi (fun z42 ez42 => ?_)
        have bz42 := tq_mul (k := (80)) (q := p1.toInt) ez42 (by decide +kernel) rfl (by omega) (by omega)
        refine lv_iconst (v := 2) hx hb dX7_row_43 (by decide +kernel) ?_
        refine lv_iload_n hx hb dX7_row_44 rfl (lv_at hl 2 rfl) ?_
        refine lv_imul hx hb dX7_row_45 ?_
        refine lv_topi (fun z45 ez45 => ?_)
        have bz45 := tq_mul (k := (2)) (q := p2.toInt) ez45 (by decide +kernel) rfl (by omega) (by omega)
        refine lv_iadd hx hb dX7_row_46 ?_
        refine lv_topi (fun z46 ez46 => ?_)
        have bz46 := tq_add (k := z42.toInt) (q := z45.toInt) ez46 rfl rfl (by omega) (by omega)
        refine lv_iload_n hx hb dX7_row_47 rfl (lv_at hl 3 rfl) ?_
        refine lv_iadd hx hb dX7_row_48 ?_
        refine lv_topi (fun z48 ez48 => ?_)
        have bz48 := tq_add (k := z46.toInt) (q := p3.toInt) ez48 rfl rfl (by omega) (by omega)
        refine p_lald hx hb hK hP 11 hLy36 hKy36 rfl rfl (in_of (by omega) (by omega)) dX7_row_49 ?_
        refine lv_topl (fun z49 ez49 => ?_)
        refine lv_goto (tgt := 54) hx hb dX7_row_50 (by decide) ?_
        subst hR; subst hQz
        exact W.lret (v := z49) hx hb hr (fun t ht hW => ⟨⟨z49, (), rfl, (fun σ h => by have q := xpz2.1 t5; rw [cm_0 h] at q; have c := cmA_F (m := p1) h (by omega); have e13 : z13.toInt = (mH σ p1).toInt := (congrArg Int32.toInt fez13).trans c.2.1; unfold rwR; rw [if_pos ⟨q, ⟨by omega, by rw [← e13]; omega⟩, by omega, by omega⟩, ez49, show z48.toNatClampNeg = 80 * p1.toInt.toNat + (2 * p2.toInt.toNat + p3.toInt.toNat) from (by show z48.toInt.toNat = _; omega), show y36 = a0 Q p0 5 from (gd_of ey36).symm]; exact c.2.2 _ (by omega)), trivial⟩, hS.F ht⟩) hS.2.2 dX7_row_54

set_option maxHeartbeats 4000000 in
set_option maxRecDepth 100000 in
theorem s_X7_body (l : Launch) (dC : Nat → ClassId) (dI : Nat → Nat → Nat) (cs : Nat → ClassId) (L : List Nat) (K G : Nat → Nat) (Q : Nat → Nat → Option Nat) (hQ : Sv L K G Q) (x0 m0 : Nat) (tx : GT) (tm : GT × Int) (sz : Nat) (I : Nat → Nat → Int32) (J : Nat → Nat → Int64) (hI : Iv L K x0 m0 tx tm I) (p0 : Nat) (hLp0 : p0 ∈ L) (hKp0 : K p0 = 7) (p1 : Int32) (p2 : Int32) : Met l yX7_body (.code yX7_body cX7_body 3 (some .int) :: pw) ({ frames := 2, cells := 0, slots := 0, locals := 46 }) (sP (dC, dI) cs [.ref p0, .int p1, .int p2] sz L K I J Q) (va_Qi (fun (r : Int32) (_ : Unit) => (∀ σ : Sx, cmA Q I J p0 σ → r.toInt = bdR σ p1 p2)) (fun _ _ => True) (fun _ => False)) 0 0 (fun _ => False) := by
  refine Met.ofW (cc := cX7_body) (maxL := 3) (ret := (some .int)) (by decide +kernel) rfl ?_
  intro p e s m args below meth c s₁ B hml hv
  obtain ⟨rfl, hsz, hP, hK, hD0, hN⟩ := hv
  have hx := B.exec
  have hb := B.bytes
  have hr := B.returns
  have hts := fun w (h : w ∈ pw) => atoms_spec (ws := Cond.code yX7_body cX7_body 3 (some .int) :: pw) B.pre w (List.mem_cons_of_mem _ h)
  have hown : s.vm.findClass RX7 = some m.cls := findClass_of_methodNamed B.named
  have hlocks := B.notSynchronized
  subst hsz
  have hBB : 999 ≤ tm.2 ∧ tm.2 ≤ 6000000 := hI.2.2.2.2.1
  have hD := hD0
  obtain ⟨H, hHe⟩ : ∃ H : Heap, H = s.heap := ⟨_, rfl⟩
  have hS : va_S (fun _ => False) s.heap H [] := by rw [hHe]; exact va_S.rf
  rw [← hHe] at hP
  have hl := lv_entry ([.ref p0, .int p1, .int p2]) (n := 3) (Nat.le_of_ble_eq_true rfl)
  rw [lg_entry_eq]
  generalize (lg_sl ([.ref p0, .int p1, .int p2]) ++ List.replicate (3 - (lg_sl ([.ref p0, .int p1, .int p2])).length) Slot.unset).toArray = ls at hl ⊢
  have hl : lv_has ls 3 [(0, .ref p0), (1, .int p1), (2, .int p2)] := hl
  rw [← hHe]
  refine namedW (fun R Qz hR hQz => ?_)
  refine lv_aload_n hx hb dX7_body_0 rfl (lv_at hl 0 rfl) ?_
  refine lv_iload_n hx hb dX7_body_1 rfl (lv_at hl 1 rfl) ?_
  refine ro_i (va_runV (As := [.int p1]) (rest := []) ⟨hx, hb, hml, hown, hts⟩ (s_X7_isBody l dC dI cs L K G Q hQ x0 m0 tx tm H.size I J hI p0 hLp0 hKp0 p1) (cwV 1 hts (gV pq1310 pq1312 pq23 pq81 pq1313) rfl rfl rfl (by decide +kernel) ⟨(by rw [hR]; exact (Nat.le_of_ble_eq_true rfl)), (by rw [hR]; exact (Nat.le_of_ble_eq_true rfl))⟩) (sP_V hP hD hK hN hLp0 hKp0 rfl rfl) rfl rfl hl.1 rfl (lv_room (Nat.le_of_ble_eq_true rfl)) dX7_body_2 ⟨(by rw [hR]; exact (Nat.le_of_ble_eq_true rfl)), (by rw [hR]; exact (Nat.le_of_ble_eq_true rfl))⟩) hS hP (fun z2 H locs hz2 hP hS => ?_)
  obtain ⟨bz2, imz2, xpz2⟩ := hz2
  refine lv_if_eq (tgt := 29) hx hb dX7_body_5 (by decide) (fun c5 => ?_) (fun c5 => ?_)
  · have t5 := tq_eq (k := z2.toInt) (q := (0)) c5 rfl (by decide +kernel)
    refine lv_sipush (v := (-2000)) hx hb dX7_body_29 (by decide +kernel) ?_
    subst hR; subst hQz
    exact W.iret (v := (-2000)) hx hb hr (fun t ht hW => ⟨⟨(-2000), (), rfl, (fun σ h => by unfold bdR; rw [if_neg (fun w => by first | exact (xpz2.2 t5) (by rw [cm_1 h]; exact w.1) | exact xpz14 t17 ⟨by have a := w.2.1; omega, by have a := w.2.2; omega⟩)]; decide +kernel), trivial⟩, hS.F ht⟩) hS.2.2 dX7_body_32
  · have t5 := tq_ne (k := z2.toInt) (q := (0)) c5 rfl (by decide +kernel)
    have i5 := imz2 t5
    refine lv_iload_n hx hb dX7_body_8 rfl (lv_at hl 2 rfl) ?_
    refine lv_i2l hx hb dX7_body_9 rfl ?_
    refine lv_topl (fun z9 ez9 => ?_)
    have bz9 := tq_i2l (k := p2.toInt) ez9 rfl
    refine lv_lconst (v := 0) hx hb dX7_body_10 (by decide +kernel) ?_
    refine lv_ldc2 hx hb hown (hts _ pq1566) dX7_body_11 ?_
    refine ro_i (va_runS (As := [.long z9, .long 0, .long 7]) (rest := []) ⟨hx, hb, hml, hown, hts⟩ (s_X7_in l dC dI cs L K Q H.size I J z9 0 7) (va_cwS 3 hts (gS pq1234 pq1235 pq81 pq1236) rfl rfl rfl (by decide +kernel) ⟨(by rw [hR]; exact (Nat.le_of_ble_eq_true rfl)), (by rw [hR]; exact (Nat.le_of_ble_eq_true rfl))⟩) (sP_S hP hD hK hN) rfl rfl hl.1 rfl (lv_room (Nat.le_of_ble_eq_true rfl)) dX7_body_14 ⟨(by rw [hR]; exact (Nat.le_of_ble_eq_true rfl)), (by rw [hR]; exact (Nat.le_of_ble_eq_true rfl))⟩) hS hP (fun z14 H locs hz14 hP hS => ?_)
    have csl14_0 : (0 : Int64).toInt = 0 := by decide +kernel
    have csl14_7 : (7 : Int64).toInt = 7 := by decide +kernel
    obtain ⟨bz14, imz14, xpz14⟩ := hz14
    refine lv_if_eq (tgt := 29) hx hb dX7_body_17 (by decide) (fun c17 => ?_) (fun c17 => ?_)
    · have t17 := tq_eq (k := z14.toInt) (q := (0)) c17 rfl (by decide +kernel)
      refine lv_sipush (v := (-2000)) hx hb dX7_body_29 (by decide +kernel) ?_
      subst hR; subst hQz
      exact W.iret (v := (-2000)) hx hb hr (fun t ht hW => ⟨⟨(-2000), (), rfl, (fun σ h => by unfold bdR; rw [if_neg (fun w => by first | exact (xpz2.2 t5) (by rw [cm_1 h]; exact w.1) | exact xpz14 t17 ⟨by have a := w.2.1; omega, by have a := w.2.2; omega⟩)]; decide +kernel), trivial⟩, hS.F ht⟩) hS.2.2 dX7_body_32
    · have t17 := tq_ne (k := z14.toInt) (q := (0)) c17 rfl (by decide +kernel)
      have i17 := imz14 t17
      refine lv_aload_n hx hb dX7_body_20 rfl (lv_at hl 0 rfl) ?_
      refine lv_iload_n hx hb dX7_body_21 rfl (lv_at hl 1 rfl) ?_
      refine lv_iload_n hx hb dX7_body_22 rfl (lv_at hl 2 rfl) ?_
      refine ro_i (va_runV (As := [.int p1, .int p2]) (rest := []) ⟨hx, hb, hml, hown, hts⟩ (s_X7_of l dC dI cs L K G Q hQ x0 m0 tx tm H.size I J hI p0 hLp0 hKp0 p1 ⟨by omega, by omega⟩ p2 ⟨by omega, by omega⟩) (cwV 2 hts (gV pq1320 pq1322 pq25 pq81 pq1323) rfl rfl rfl (by decide +kernel) ⟨(by rw [hR]; exact (Nat.le_of_ble_eq_true rfl)), (by rw [hR]; exact (Nat.le_of_ble_eq_true rfl))⟩) (sP_V hP hD hK hN hLp0 hKp0 rfl rfl) rfl rfl hl.1 rfl (lv_room (Nat.le_of_ble_eq_true rfl)) dX7_body_23 ⟨(by rw [hR]; exact (Nat.le_of_ble_eq_true rfl)), (by rw [hR]; exact (Nat.le_of_ble_eq_true rfl))⟩) hS hP (fun z23 H locs hz23 hP hS => ?_)
      obtain ⟨fez23, xpz23⟩ := hz23
      refine lv_goto (tgt := 32) hx hb dX7_body_26 (by decide) ?_
      subst hR; subst hQz
      exact W.iret (v := z23) hx hb hr (fun t ht hW => ⟨⟨z23, (), rfl, (fun σ h => by have q := xpz2.1 t5; rw [cm_1 h] at q; unfold bdR; rw [if_pos ⟨q, by omega, by omega⟩, fez23]; exact congrArg Int32.toInt (cmA_n h (by omega))), trivial⟩, hS.F ht⟩) hS.2.2 dX7_body_32

set_option maxHeartbeats 4000000 in
set_option maxRecDepth 100000 in
theorem s_X7_common (l : Launch) (dC : Nat → ClassId) (dI : Nat → Nat → Nat) (cs : Nat → ClassId) (L : List Nat) (K G : Nat → Nat) (Q : Nat → Nat → Option Nat) (hQ : Sv L K G Q) (x0 m0 : Nat) (tx : GT) (tm : GT × Int) (sz : Nat) (I : Nat → Nat → Int32) (J : Nat → Nat → Int64) (hI : Iv L K x0 m0 tx tm I) (p0 : Nat) (hLp0 : p0 ∈ L) (hKp0 : K p0 = 7) (p1 : Int32) (p2 : Int32) : Met l yX7_common (.code yX7_common cX7_common 3 (some .int) :: pw) ({ frames := 4, cells := 0, slots := 0, locals := 98 }) (sP (dC, dI) cs [.ref p0, .int p1, .int p2] sz L K I J Q) (va_Qi (fun (r : Int32) (_ : Unit) => (∀ σ : Sx, okF σ.1 → cmA Q I J p0 σ → r.toInt = comR σ p1 p2)) (fun _ t => sB (dC, dI) cs L K Q (fun I1 J1 => Iv L K x0 m0 tx tm I1 ∧ I1 = I ∧ (∀ σ : Sx, cmA Q I J p0 σ → cmA Q I1 J1 p0 σ) ∧ (∀ b, ¬ (K b = 25) → J1 b = J b)) t) (fun q => q ∈ L ∨ sz ≤ q)) 0 0 (fun q => q ∈ L ∨ sz ≤ q) := by
  refine Met.ofW (cc := cX7_common) (maxL := 3) (ret := (some .int)) (by decide +kernel) rfl ?_
  intro p e s m args below meth c s₁ B hml hv
  obtain ⟨rfl, hsz, hP, hK, hD0, hN⟩ := hv
  have hx := B.exec
  have hb := B.bytes
  have hr := B.returns
  have hts := fun w (h : w ∈ pw) => atoms_spec (ws := Cond.code yX7_common cX7_common 3 (some .int) :: pw) B.pre w (List.mem_cons_of_mem _ h)
  have hown : s.vm.findClass RX7 = some m.cls := findClass_of_methodNamed B.named
  have hlocks := B.notSynchronized
  subst hsz
  have hBB : 999 ≤ tm.2 ∧ tm.2 ≤ 6000000 := hI.2.2.2.2.1
  have dj_J : (∀ b, ¬ (K b = 25) → J b = J b) := fun _ _ => rfl
  obtain ⟨A, hAe⟩ : ∃ A : Nat → Prop, A = (fun q => q ∈ L ∨ s.heap.size ≤ q) := ⟨_, rfl⟩
  rw [← hAe]
  have hAL : ∀ q, q ∈ L → A q := fun q h => by rw [hAe]; exact Or.inl h
  have hA : ∀ q, s.heap.size ≤ q → A q := fun q h => by rw [hAe]; exact Or.inr h
  have hD : ∀ F, va_D A (va_pl L F) := fun F => (hD0 F).weaken (fun k q hk _ => hAL _ (pl_mem hk))
  obtain ⟨H, hHe⟩ : ∃ H : Heap, H = s.heap := ⟨_, rfl⟩
  have hS : va_S A s.heap H [] := by rw [hHe]; exact va_S.rf
  rw [← hHe] at hP
  have hl := lv_entry ([.ref p0, .int p1, .int p2]) (n := 3) (Nat.le_of_ble_eq_true rfl)
  rw [lg_entry_eq]
  generalize (lg_sl ([.ref p0, .int p1, .int p2]) ++ List.replicate (3 - (lg_sl ([.ref p0, .int p1, .int p2])).length) Slot.unset).toArray = ls at hl ⊢
  have hl : lv_has ls 3 [(0, .ref p0), (1, .int p1), (2, .int p2)] := hl
  rw [← hHe]
  refine namedW (fun R Qz hR hQz => ?_)
  refine lv_aload_n hx hb dX7_common_0 rfl (lv_at hl 0 rfl) ?_
  refine lv_iload_n hx hb dX7_common_1 rfl (lv_at hl 1 rfl) ?_
  refine lv_iload_n hx hb dX7_common_2 rfl (lv_at hl 2 rfl) ?_
  refine ro_i (va_runV (As := [.int p1, .int p2]) (rest := []) ⟨hx, hb, hml, hown, hts⟩ (s_X7_areTwo l dC dI cs L K G Q hQ x0 m0 tx tm H.size I J hI p0 hLp0 hKp0 p1 p2) (cwV 2 hts (gV pq1571 pq1573 pq62 pq81 pq1574) rfl rfl rfl (by decide +kernel) ⟨(by rw [hR]; exact (Nat.le_of_ble_eq_true rfl)), (by rw [hR]; exact (Nat.le_of_ble_eq_true rfl))⟩) (sP_V hP hD hK hN hLp0 hKp0 rfl rfl) rfl rfl hl.1 rfl (lv_room (Nat.le_of_ble_eq_true rfl)) dX7_common_3 ⟨(by rw [hR]; exact (Nat.le_of_ble_eq_true rfl)), (by rw [hR]; exact (Nat.le_of_ble_eq_true rfl))⟩) hS hP (fun z3 H locs hz3 hP hS => ?_)
  obtain ⟨bz3, imz3, xpz3⟩ := hz3
  refine lv_if_ne (tgt := 11) hx hb dX7_common_6 (by decide) (fun c6 => ?_) (fun c6 => ?_)
  · have t6 := tq_ne (k := z3.toInt) (q := (0)) c6 rfl (by decide +kernel)
    have i6 := imz3 t6
    refine lv_aload_n hx hb dX7_common_11 rfl (lv_at hl 0 rfl) ?_
    refine sw_v (Z := (fun I1 J1 => Iv L K x0 m0 tx tm I1 ∧ I1 = I ∧ (∀ c : Fx, okF c → rI Q I p0 c → rJ Q J p0 c → ldA Q J1 p0 c) ∧ (∀ b, ¬ (K b = 25) → J1 b = J b))) (va_runV (As := []) (rest := []) ⟨hx, hb, hml, hown, hts⟩ (s_X7_laysAll l dC dI cs L K G Q hQ x0 m0 tx tm H.size I J hI p0 hLp0 hKp0) (cwV 0 hts (gV pq1427 pq1429 pq40 pq81 pq1430) rfl rfl rfl (by decide +kernel) ⟨(by rw [hR]; exact (Nat.le_of_ble_eq_true rfl)), (by rw [hR]; exact (Nat.le_of_ble_eq_true rfl))⟩) (sP_V hP hD hK hN hLp0 hKp0 rfl rfl) rfl rfl hl.1 rfl (lv_room (Nat.le_of_ble_eq_true rfl)) dX7_common_12 ⟨(by rw [hR]; exact (Nat.le_of_ble_eq_true rfl)), (by rw [hR]; exact (Nat.le_of_ble_eq_true rfl))⟩) hS hAL hA (fun Iz12 Jz12 H locs hz12 hIz12 hP hS => ?_)
    obtain ⟨hIz12, sm12, jz12, djc12⟩ := hIz12
    have dj_Jz12 : (∀ b, ¬ (K b = 25) → Jz12 b = J b) := fun b hc => (djc12 b (fun z => hc (by omega))).trans (dj_J b hc)
    obtain rfl : I = Iz12 := sm12.symm
    refine lv_aload_n hx hb dX7_common_15 rfl (lv_at hl 0 rfl) ?_
    refine lv_iload_n hx hb dX7_common_16 rfl (lv_at hl 1 rfl) ?_
    refine lv_iload_n hx hb dX7_common_17 rfl (lv_at hl 2 rfl) ?_
    refine lv_iconst (v := 0) hx hb dX7_common_18 (by decide +kernel) ?_
    refine lv_iconst (v := 0) hx hb dX7_common_19 (by decide +kernel) ?_
    refine ro_i (va_runV (As := [.int p1, .int p2, .int 0, .int 0]) (rest := []) ⟨hx, hb, hml, hown, hts⟩ (s_X7_commonBy l dC dI cs L K G Q hQ x0 m0 tx tm H.size I Jz12 hI p0 hLp0 hKp0 p1 ⟨by omega, by omega⟩ p2 ⟨by omega, by omega⟩ 0 0 ⟨by decide +kernel, by decide +kernel⟩) (cwV 4 hts (gV pq1575 pq1577 pq63 pq81 pq1578) rfl rfl rfl (by decide +kernel) ⟨(by rw [hR]; exact (Nat.le_of_ble_eq_true rfl)), (by rw [hR]; exact (Nat.le_of_ble_eq_true rfl))⟩) (sP_V hP hD hK hN hLp0 hKp0 rfl rfl) rfl rfl hl.1 rfl (lv_room (Nat.le_of_ble_eq_true rfl)) dX7_common_20 ⟨(by rw [hR]; exact (Nat.le_of_ble_eq_true rfl)), (by rw [hR]; exact (Nat.le_of_ble_eq_true rfl))⟩) hS hP (fun z20 H locs hz20 hP hS => ?_)
    have cst20_0 : (0 : Int32).toInt = 0 := by decide +kernel
    have xpz20 := hz20
    try rw [cst20_0] at xpz20
    subst hR; subst hQz
    exact W.iret (v := z20) hx hb hr (fun t ht hW => ⟨⟨z20, (), rfl, (fun σ ok h => by have e := cm_1 h; have t := xpz3.mp t6; rw [e] at t; have w := xpz20 σ.1 ok (cmA_rI h) (jz12 σ.1 ok (cmA_rI h) (cmA_rJ h)) (show p1.toInt.toNat < _ by omega) (show p2.toInt.toNat < _ by omega) ⟨⟨by decide +kernel, by decide +kernel⟩, by decide +kernel, by decide +kernel⟩; (try rw [show (0 : Int32).toInt = 0 from by decide +kernel] at w); rw [com_y t]; exact w), ⟨I, Jz12, ⟨hI, rfl, (fun σ A => cmA_fr hQ hLp0 hKp0 (fun _ _ => rfl) (fun b hb => dj_Jz12 b (by omega)) rfl A), dj_Jz12⟩, by rw [ht]; exact hP⟩⟩, hS.F ht⟩) hS.2.2 dX7_common_23
  · have t6 := tq_eq (k := z3.toInt) (q := (0)) c6 rfl (by decide +kernel)
    refine lv_iconst (v := (-1)) hx hb dX7_common_9 (by decide +kernel) ?_
    subst hR; subst hQz
    exact W.iret (v := (-1)) hx hb hr (fun t ht hW => ⟨⟨(-1), (), rfl, (fun σ ok h => by have e := cm_1 h; rw [com_n (fun t => by unfold twV at t; rw [← e] at t; exact (xpz3.mpr t) t6)]; decide +kernel), ⟨I, J, ⟨hI, rfl, (fun σ A => cmA_fr hQ hLp0 hKp0 (fun _ _ => rfl) (fun _ _ => rfl) rfl A), dj_J⟩, by rw [ht]; exact hP⟩⟩, hS.F ht⟩) hS.2.2 dX7_common_10

set_option maxHeartbeats 4000000 in
set_option maxRecDepth 100000 in
theorem s_X7_meet (l : Launch) (dC : Nat → ClassId) (dI : Nat → Nat → Nat) (cs : Nat → ClassId) (L : List Nat) (K G : Nat → Nat) (Q : Nat → Nat → Option Nat) (hQ : Sv L K G Q) (x0 m0 : Nat) (tx : GT) (tm : GT × Int) (sz : Nat) (I : Nat → Nat → Int32) (J : Nat → Nat → Int64) (hI : Iv L K x0 m0 tx tm I) (p0 : Nat) (hLp0 : p0 ∈ L) (hKp0 : K p0 = 7) (p1 : Int32) (p2 : Int32) (p3 : Int32) : Met l yX7_meet (.code yX7_meet cX7_meet 6 (some .int) :: pw) ({ frames := 3, cells := 0, slots := 0, locals := 75 }) (sP (dC, dI) cs [.ref p0, .int p1, .int p2, .int p3] sz L K I J Q) (va_Qi (fun (r : Int32) (_ : Unit) => (∀ σ : Sx, okF σ.1 → cmA Q I J p0 σ → mtR σ p1 p2 p3 r)) (fun _ _ => True) (fun _ => False)) 0 0 (fun _ => False) := by
  refine Met.ofW (cc := cX7_meet) (maxL := 6) (ret := (some .int)) (by decide +kernel) rfl ?_
  intro p e s m args below meth c s₁ B hml hv
  obtain ⟨rfl, hsz, hP, hK, hD0, hN⟩ := hv
  have hx := B.exec
  have hb := B.bytes
  have hr := B.returns
  have hts := fun w (h : w ∈ pw) => atoms_spec (ws := Cond.code yX7_meet cX7_meet 6 (some .int) :: pw) B.pre w (List.mem_cons_of_mem _ h)
  have hown : s.vm.findClass RX7 = some m.cls := findClass_of_methodNamed B.named
  have hlocks := B.notSynchronized
  subst hsz
  have hBB : 999 ≤ tm.2 ∧ tm.2 ≤ 6000000 := hI.2.2.2.2.1
  have hD := hD0
  obtain ⟨H, hHe⟩ : ∃ H : Heap, H = s.heap := ⟨_, rfl⟩
  have hS : va_S (fun _ => False) s.heap H [] := by rw [hHe]; exact va_S.rf
  rw [← hHe] at hP
  have hl := lv_entry ([.ref p0, .int p1, .int p2, .int p3]) (n := 6) (Nat.le_of_ble_eq_true rfl)
  rw [lg_entry_eq]
  generalize (lg_sl ([.ref p0, .int p1, .int p2, .int p3]) ++ List.replicate (6 - (lg_sl ([.ref p0, .int p1, .int p2, .int p3])).length) Slot.unset).toArray = ls at hl ⊢
  have hl : lv_has ls 6 [(0, .ref p0), (1, .int p1), (2, .int p2), (3, .int p3)] := hl
  rw [← hHe]
  refine namedW (fun R Qz hR hQz => ?_)
  refine lv_aload_n hx hb dX7_meet_0 rfl (lv_at hl 0 rfl) ?_
  refine lv_iload_n hx hb dX7_meet_1 rfl (lv_at hl 1 rfl) ?_
  refine lv_iload_n hx hb dX7_meet_2 rfl (lv_at hl 2 rfl) ?_
  refine ro_i (va_runV (As := [.int p1, .int p2]) (rest := []) ⟨hx, hb, hml, hown, hts⟩ (s_X7_areTwo l dC dI cs L K G Q hQ x0 m0 tx tm H.size I J hI p0 hLp0 hKp0 p1 p2) (cwV 2 hts (gV pq1571 pq1573 pq62 pq81 pq1574) rfl rfl rfl (by decide +kernel) ⟨(by rw [hR]; exact (Nat.le_of_ble_eq_true rfl)), (by rw [hR]; exact (Nat.le_of_ble_eq_true rfl))⟩) (sP_V hP hD hK hN hLp0 hKp0 rfl rfl) rfl rfl hl.1 rfl (lv_room (Nat.le_of_ble_eq_true rfl)) dX7_meet_3 ⟨(by rw [hR]; exact (Nat.le_of_ble_eq_true rfl)), (by rw [hR]; exact (Nat.le_of_ble_eq_true rfl))⟩) hS hP (fun z3 H locs hz3 hP hS => ?_)
  obtain ⟨bz3, imz3, xpz3⟩ := hz3
  refine lv_if_eq (tgt := 19) hx hb dX7_meet_6 (by decide) (fun c6 => ?_) (fun c6 => ?_)
  · have t6 := tq_eq (k := z3.toInt) (q := (0)) c6 rfl (by decide +kernel)
    refine lv_sipush (v := (-2000)) hx hb dX7_meet_19 (by decide +kernel) ?_
    subst hR; subst hQz
    exact W.iret (v := (-2000)) hx hb hr (fun t ht hW => ⟨⟨(-2000), (), rfl, (fun σ ok h => by have e := cm_1 h; exact ⟨fun w => absurd w (fun w => by first | (have t := w.1; unfold twV at t; rw [← e] at t; exact (xpz3.mpr t) t6) | exact xpz13 t16 ⟨by have a := w.2; omega, by have a := w.2; omega⟩), fun _ => by decide +kernel⟩), trivial⟩, hS.F ht⟩) hS.2.2 dX7_meet_22
  · have t6 := tq_ne (k := z3.toInt) (q := (0)) c6 rfl (by decide +kernel)
    have i6 := imz3 t6
    refine lv_iload_n hx hb dX7_meet_9 rfl (lv_at hl 3 rfl) ?_
    refine lv_i2l hx hb dX7_meet_10 rfl ?_
    refine lv_topl (fun z10 ez10 => ?_)
    have bz10 := tq_i2l (k := p3.toInt) ez10 rfl
    refine lv_lconst (v := 0) hx hb dX7_meet_11 (by decide +kernel) ?_
    refine lv_lconst (v := 1) hx hb dX7_meet_12 (by decide +kernel) ?_
    refine ro_i (va_runS (As := [.long z10, .long 0, .long 1]) (rest := []) ⟨hx, hb, hml, hown, hts⟩ (s_X7_in l dC dI cs L K Q H.size I J z10 0 1) (va_cwS 3 hts (gS pq1234 pq1235 pq81 pq1236) rfl rfl rfl (by decide +kernel) ⟨(by rw [hR]; exact (Nat.le_of_ble_eq_true rfl)), (by rw [hR]; exact (Nat.le_of_ble_eq_true rfl))⟩) (sP_S hP hD hK hN) rfl rfl hl.1 rfl (lv_room (Nat.le_of_ble_eq_true rfl)) dX7_meet_13 ⟨(by rw [hR]; exact (Nat.le_of_ble_eq_true rfl)), (by rw [hR]; exact (Nat.le_of_ble_eq_true rfl))⟩) hS hP (fun z13 H locs hz13 hP hS => ?_)
    have csl13_0 : (0 : Int64).toInt = 0 := by decide +kernel
    have csl13_1 : (1 : Int64).toInt = 1 := by decide +kernel
    obtain ⟨bz13, imz13, xpz13⟩ := hz13
    refine lv_if_ne (tgt := 23) hx hb dX7_meet_16 (by decide) (fun c16 => ?_) (fun c16 => ?_)
    · have t16 := tq_ne (k := z13.toInt) (q := (0)) c16 rfl (by decide +kernel)
      have i16 := imz13 t16
      refine lv_aload_n hx hb dX7_meet_23 rfl (lv_at hl 0 rfl) ?_
      refine lv_iload_n hx hb dX7_meet_24 rfl (lv_at hl 1 rfl) ?_
      refine lv_iconst (v := 2) hx hb dX7_meet_25 (by decide +kernel) ?_
      refine ro_i (va_runV (As := [.int p1, .int 2]) (rest := []) ⟨hx, hb, hml, hown, hts⟩ (s_X7_of l dC dI cs L K G Q hQ x0 m0 tx tm H.size I J hI p0 hLp0 hKp0 p1 ⟨by omega, by omega⟩ 2 ⟨by decide +kernel, by decide +kernel⟩) (cwV 2 hts (gV pq1320 pq1322 pq25 pq81 pq1323) rfl rfl rfl (by decide +kernel) ⟨(by rw [hR]; exact (Nat.le_of_ble_eq_true rfl)), (by rw [hR]; exact (Nat.le_of_ble_eq_true rfl))⟩) (sP_V hP hD hK hN hLp0 hKp0 rfl rfl) rfl rfl hl.1 rfl (lv_room (Nat.le_of_ble_eq_true rfl)) dX7_meet_26 ⟨(by rw [hR]; exact (Nat.le_of_ble_eq_true rfl)), (by rw [hR]; exact (Nat.le_of_ble_eq_true rfl))⟩) hS hP (fun z26 H locs hz26 hP hS => ?_)
      have cst26_2 : (2 : Int32).toInt = 2 := by decide +kernel
      obtain ⟨fez26, xpz26⟩ := hz26
      have bz26 := xpz26.2.2.1 rfl
      refine lv_istore (lv' := [(4, .int z26), (0, .ref p0), (1, .int p1), (2, .int p2), (3, .int p3)]) hx hb dX7_meet_29 hl (by decide) rfl (fun ls hl => ?_)
      have key31 := blocks (fun n => ∀ (v31_4 : Int32) (H : Heap) (lo : List Loc) (ls : Array Slot), (2147483648 - v31_4.toInt).toNat = n → z26.toInt ≤ v31_4.toInt → (∀ σ : Sx, okF σ.1 → cmA Q I J p0 σ → ∀ u v : Int, v < v31_4.toInt → ¬ inC σ.1 p1.toInt.toNat p2.toInt.toNat u v) → va_P (dC, dI) vwCl (Wd cs L K I J Q) H → va_S (fun _ => False) s.heap H lo → lv_has ls 6 [(0, .ref p0), (1, .int p1), (2, .int p2), (3, .int p3), (4, .int v31_4)] → W p l e R s m (([.ref p0, .int p1, .int p2, .int p3] : List Value).toArray) below meth c H lo 0 0 Qz (F0 m 31 ls [])) (by
        intro n ih31
        intro v31_4 H lo ls hmu31 hl31 g31 hP hS hl
        refine lv_iload hx hb dX7_meet_31 (lv_at hl 4 rfl) ?_
        refine lv_aload_n hx hb dX7_meet_33 rfl (lv_at hl 0 rfl) ?_
        refine lv_iload_n hx hb dX7_meet_34 rfl (lv_at hl 1 rfl) ?_
        refine lv_iconst (v := 2) hx hb dX7_meet_35 (by decide +kernel) ?_
        refine ro_i (va_runV (As := [.int p1, .int 2]) (rest := [.int v31_4]) ⟨hx, hb, hml, hown, hts⟩ (s_X7_of l dC dI cs L K G Q hQ x0 m0 tx tm H.size I J hI p0 hLp0 hKp0 p1 ⟨by omega, by omega⟩ 2 ⟨by decide +kernel, by decide +kernel⟩) (cwV 2 hts (gV pq1320 pq1322 pq25 pq81 pq1323) rfl rfl rfl (by decide +kernel) ⟨(by rw [hR]; exact (Nat.le_of_ble_eq_true rfl)), (by rw [hR]; exact (Nat.le_of_ble_eq_true rfl))⟩) (sP_V hP hD hK hN hLp0 hKp0 rfl rfl) rfl rfl hl.1 rfl (lv_room (Nat.le_of_ble_eq_true rfl)) dX7_meet_36 ⟨(by rw [hR]; exact (Nat.le_of_ble_eq_true rfl)), (by rw [hR]; exact (Nat.le_of_ble_eq_true rfl))⟩) hS hP (fun z36 H locs hz36 hP hS => ?_)
        have cst36_2 : (2 : Int32).toInt = 2 := by decide +kernel
        obtain ⟨fez36, xpz36⟩ := hz36
        have bz36 := xpz36.2.2.1 rfl
        obtain rfl : z26 = z36 := fez26.trans fez36.symm
        refine lv_aload_n hx hb dX7_meet_39 rfl (lv_at hl 0 rfl) ?_
        refine lv_aload_n hx hb dX7_meet_40 rfl (lv_at hl 0 rfl) ?_
        refine lv_iload_n hx hb dX7_meet_41 rfl (lv_at hl 1 rfl) ?_
        refine ro_i (va_runV (As := [.int p1]) (rest := [.ref p0, .int z26, .int v31_4]) ⟨hx, hb, hml, hown, hts⟩ (s_X7_maskOf l dC dI cs L K G Q hQ x0 m0 tx tm H.size I J hI p0 hLp0 hKp0 p1 ⟨by omega, by omega⟩) (cwV 1 hts (gV pq1431 pq1433 pq41 pq81 pq1434) rfl rfl rfl (by decide +kernel) ⟨(by rw [hR]; exact (Nat.le_of_ble_eq_true rfl)), (by rw [hR]; exact (Nat.le_of_ble_eq_true rfl))⟩) (sP_V hP hD hK hN hLp0 hKp0 rfl rfl) rfl rfl hl.1 rfl (lv_room (Nat.le_of_ble_eq_true rfl)) dX7_meet_42 ⟨(by rw [hR]; exact (Nat.le_of_ble_eq_true rfl)), (by rw [hR]; exact (Nat.le_of_ble_eq_true rfl))⟩) hS hP (fun z42 H locs hz42 hP hS => ?_)
        obtain ⟨bz42, fez42⟩ := hz42
        refine ro_i (va_runV (As := [.int z42]) (rest := [.int z26, .int v31_4]) ⟨hx, hb, hml, hown, hts⟩ (s_X7_high l dC dI cs L K G Q hQ x0 m0 tx tm H.size I J hI p0 hLp0 hKp0 z42 ⟨by omega, by omega⟩) (cwV 1 hts (gV pq1372 pq1374 pq33 pq81 pq1375) rfl rfl rfl (by decide +kernel) ⟨(by rw [hR]; exact (Nat.le_of_ble_eq_true rfl)), (by rw [hR]; exact (Nat.le_of_ble_eq_true rfl))⟩) (sP_V hP hD hK hN hLp0 hKp0 rfl rfl) rfl rfl hl.1 rfl (lv_room (Nat.le_of_ble_eq_true rfl)) dX7_meet_45 ⟨(by rw [hR]; exact (Nat.le_of_ble_eq_true rfl)), (by rw [hR]; exact (Nat.le_of_ble_eq_true rfl))⟩) hS hP (fun z45 H locs hz45 hP hS => ?_)
        obtain ⟨bz45, fez45⟩ := hz45
        refine lv_iadd hx hb dX7_meet_48 ?_
        refine lv_topi (fun z48 ez48 => ?_)
        have bz48 := tq_add (k := z26.toInt) (q := z45.toInt) ez48 rfl rfl (by omega) (by omega)
        refine lv_icmp_ge (tgt := 129) hx hb dX7_meet_49 (by decide) (fun c49 => ?_) (fun c49 => ?_)
        · have t49 := tq_le (k := z48.toInt) (q := v31_4.toInt) c49 rfl rfl
          refine lv_sipush (v := (-2000)) hx hb dX7_meet_129 (by decide +kernel) ?_
          subst hR; subst hQz
          exact W.iret (v := (-2000)) hx hb hr (fun t ht hW => ⟨⟨(-2000), (), rfl, (fun σ ok h => by have e := cm_1 h; have t := xpz3.mp t6; rw [e] at t; have y26 : z26.toInt = bY σ.1 p1.toInt.toNat := congrArg Int32.toInt ((show z26 = I (a0 Q p0 0) (19 + 8 * p1.toInt.toNat + 2) from fez26).trans (cmA_n h (by omega))); have m42 : z42 = σ.1.1 (19 + 8 * p1.toInt.toNat) := (show z42 = I (a0 Q p0 0) (19 + 8 * p1.toInt.toNat) from fez42).trans (cmA_n h (by omega)); have h45 : z45.toInt = (bh_ σ.1 p1.toInt.toNat).toInt := congrArg Int32.toInt (by unfold bh_; rw [← m42]; exact (show z45 = I (a0 Q p0 0) (11 + z42.toInt.toNat) from fez45).trans (cmA_n h (by omega))); exact ⟨fun _ => Or.inr ⟨fun u v P => by rcases Int.lt_or_le v v31_4.toInt with w | w; (exact g31 σ ok h u v w P); (have k := at_in P.1; omega), by decide +kernel⟩, fun q => absurd ⟨t, by omega, by omega⟩ q⟩), trivial⟩, hS.F ht⟩) hS.2.2 dX7_meet_132
        · have t49 := tq_nle (k := z48.toInt) (q := v31_4.toInt) c49 rfl rfl
          have rg49v31_4 := fb_rng v31_4
          refine lv_aload_n hx hb dX7_meet_52 rfl (lv_at hl 0 rfl) ?_
          refine lv_iload_n hx hb dX7_meet_53 rfl (lv_at hl 1 rfl) ?_
          refine lv_iconst (v := 1) hx hb dX7_meet_54 (by decide +kernel) ?_
          refine ro_i (va_runV (As := [.int p1, .int 1]) (rest := []) ⟨hx, hb, hml, hown, hts⟩ (s_X7_of l dC dI cs L K G Q hQ x0 m0 tx tm H.size I J hI p0 hLp0 hKp0 p1 ⟨by omega, by omega⟩ 1 ⟨by decide +kernel, by decide +kernel⟩) (cwV 2 hts (gV pq1320 pq1322 pq25 pq81 pq1323) rfl rfl rfl (by decide +kernel) ⟨(by rw [hR]; exact (Nat.le_of_ble_eq_true rfl)), (by rw [hR]; exact (Nat.le_of_ble_eq_true rfl))⟩) (sP_V hP hD hK hN hLp0 hKp0 rfl rfl) rfl rfl hl.1 rfl (lv_room (Nat.le_of_ble_eq_true rfl)) dX7_meet_55 ⟨(by rw [hR]; exact (Nat.le_of_ble_eq_true rfl)), (by rw [hR]; exact (Nat.le_of_ble_eq_true rfl))⟩) hS hP (fun z55 H locs hz55 hP hS => ?_)
          have cst55_1 : (1 : Int32).toInt = 1 := by decide +kernel
          obtain ⟨fez55, xpz55⟩ := hz55
          have bz55 := xpz55.2.1 rfl
          refine lv_istore (lv' := [(5, .int z55), (0, .ref p0), (1, .int p1), (2, .int p2), (3, .int p3), (4, .int v31_4)]) hx hb dX7_meet_58 hl (by decide) rfl (fun ls hl => ?_)
          have key60 := blocks (fun n => ∀ (v60_5 : Int32) (H : Heap) (lo : List Loc) (ls : Array Slot), (2147483648 - v60_5.toInt).toNat = n → z55.toInt ≤ v60_5.toInt → (∀ σ : Sx, okF σ.1 → cmA Q I J p0 σ → ∀ u : Int, u < v60_5.toInt → ¬ inC σ.1 p1.toInt.toNat p2.toInt.toNat u v31_4.toInt) → va_P (dC, dI) vwCl (Wd cs L K I J Q) H → va_S (fun _ => False) s.heap H lo → lv_has ls 6 [(0, .ref p0), (1, .int p1), (2, .int p2), (3, .int p3), (4, .int v31_4), (5, .int v60_5)] → W p l e R s m (([.ref p0, .int p1, .int p2, .int p3] : List Value).toArray) below meth c H lo 0 0 Qz (F0 m 60 ls [])) (by
            intro n ih60
            intro v60_5 H lo ls hmu60 hl60 g60 hP hS hl
            refine lv_iload hx hb dX7_meet_60 (lv_at hl 5 rfl) ?_
            refine lv_aload_n hx hb dX7_meet_62 rfl (lv_at hl 0 rfl) ?_
            refine lv_iload_n hx hb dX7_meet_63 rfl (lv_at hl 1 rfl) ?_
            refine lv_iconst (v := 1) hx hb dX7_meet_64 (by decide +kernel) ?_
            refine ro_i (va_runV (As := [.int p1, .int 1]) (rest := [.int v60_5]) ⟨hx, hb, hml, hown, hts⟩ (s_X7_of l dC dI cs L K G Q hQ x0 m0 tx tm H.size I J hI p0 hLp0 hKp0 p1 ⟨by omega, by omega⟩ 1 ⟨by decide +kernel, by decide +kernel⟩) (cwV 2 hts (gV pq1320 pq1322 pq25 pq81 pq1323) rfl rfl rfl (by decide +kernel) ⟨(by rw [hR]; exact (Nat.le_of_ble_eq_true rfl)), (by rw [hR]; exact (Nat.le_of_ble_eq_true rfl))⟩) (sP_V hP hD hK hN hLp0 hKp0 rfl rfl) rfl rfl hl.1 rfl (lv_room (Nat.le_of_ble_eq_true rfl)) dX7_meet_65 ⟨(by rw [hR]; exact (Nat.le_of_ble_eq_true rfl)), (by rw [hR]; exact (Nat.le_of_ble_eq_true rfl))⟩) hS hP (fun z65 H locs hz65 hP hS => ?_)
            have cst65_1 : (1 : Int32).toInt = 1 := by decide +kernel
            obtain ⟨fez65, xpz65⟩ := hz65
            have bz65 := xpz65.2.1 rfl
            obtain rfl : z55 = z65 := fez55.trans fez65.symm
            refine lv_aload_n hx hb dX7_meet_68 rfl (lv_at hl 0 rfl) ?_
            refine lv_aload_n hx hb dX7_meet_69 rfl (lv_at hl 0 rfl) ?_
            refine lv_iload_n hx hb dX7_meet_70 rfl (lv_at hl 1 rfl) ?_
            refine ro_i (va_runV (As := [.int p1]) (rest := [.ref p0, .int z55, .int v60_5]) ⟨hx, hb, hml, hown, hts⟩ (s_X7_maskOf l dC dI cs L K G Q hQ x0 m0 tx tm H.size I J hI p0 hLp0 hKp0 p1 ⟨by omega, by omega⟩) (cwV 1 hts (gV pq1431 pq1433 pq41 pq81 pq1434) rfl rfl rfl (by decide +kernel) ⟨(by rw [hR]; exact (Nat.le_of_ble_eq_true rfl)), (by rw [hR]; exact (Nat.le_of_ble_eq_true rfl))⟩) (sP_V hP hD hK hN hLp0 hKp0 rfl rfl) rfl rfl hl.1 rfl (lv_room (Nat.le_of_ble_eq_true rfl)) dX7_meet_71 ⟨(by rw [hR]; exact (Nat.le_of_ble_eq_true rfl)), (by rw [hR]; exact (Nat.le_of_ble_eq_true rfl))⟩) hS hP (fun z71 H locs hz71 hP hS => ?_)
            obtain ⟨bz71, fez71⟩ := hz71
            obtain rfl : z42 = z71 := fez42.trans fez71.symm
            refine ro_i (va_runV (As := [.int z42]) (rest := [.int z55, .int v60_5]) ⟨hx, hb, hml, hown, hts⟩ (s_X7_wide l dC dI cs L K G Q hQ x0 m0 tx tm H.size I J hI p0 hLp0 hKp0 z42 ⟨by omega, by omega⟩) (cwV 1 hts (gV pq1368 pq1370 pq32 pq81 pq1371) rfl rfl rfl (by decide +kernel) ⟨(by rw [hR]; exact (Nat.le_of_ble_eq_true rfl)), (by rw [hR]; exact (Nat.le_of_ble_eq_true rfl))⟩) (sP_V hP hD hK hN hLp0 hKp0 rfl rfl) rfl rfl hl.1 rfl (lv_room (Nat.le_of_ble_eq_true rfl)) dX7_meet_74 ⟨(by rw [hR]; exact (Nat.le_of_ble_eq_true rfl)), (by rw [hR]; exact (Nat.le_of_ble_eq_true rfl))⟩) hS hP (fun z74 H locs hz74 hP hS => ?_)
            obtain ⟨bz74, fez74⟩ := hz74
            refine lv_iadd hx hb dX7_meet_77 ?_
            refine lv_topi (fun z77 ez77 => ?_)
            have bz77 := tq_add (k := z55.toInt) (q := z74.toInt) ez77 rfl rfl (by omega) (by omega)
            refine lv_icmp_ge (tgt := 123) hx hb dX7_meet_78 (by decide) (fun c78 => ?_) (fun c78 => ?_)
            · have t78 := tq_le (k := z77.toInt) (q := v60_5.toInt) c78 rfl rfl
              obtain ⟨z123, ez123⟩ : ∃ y : Int32, y = v31_4 + 1 := ⟨_, rfl⟩
              refine lv_iinc (v := z123) (lv' := [(4, .int z123), (0, .ref p0), (1, .int p1), (2, .int p2), (3, .int p3), (5, .int v60_5)]) hx hb dX7_meet_123 hl (k := 4) rfl (by rw [ez123]; rfl) (by decide) rfl (fun ls hl => ?_)
              have rg123v31_4 := fb_rng v31_4
              have bz123 := tq_add (k := v31_4.toInt) (q := 1) ez123 rfl (by decide +kernel) (by omega) (by omega)
              refine lv_goto (tgt := 31) hx hb dX7_meet_126 (by decide) ?_
              exact ih31 _ (by omega) z123 _ _ _ rfl (by omega) (fun σ ok h => by have e := cm_1 h; have t := xpz3.mp t6; rw [e] at t; have y26 : z26.toInt = bY σ.1 p1.toInt.toNat := congrArg Int32.toInt ((show z26 = I (a0 Q p0 0) (19 + 8 * p1.toInt.toNat + 2) from fez26).trans (cmA_n h (by omega))); have m42 : z42 = σ.1.1 (19 + 8 * p1.toInt.toNat) := (show z42 = I (a0 Q p0 0) (19 + 8 * p1.toInt.toNat) from fez42).trans (cmA_n h (by omega)); have x55 : z55.toInt = bX σ.1 p1.toInt.toNat := congrArg Int32.toInt ((show z55 = I (a0 Q p0 0) (19 + 8 * p1.toInt.toNat + 1) from fez55).trans (cmA_n h (by omega))); have w74 : z74.toInt = (bw_ σ.1 p1.toInt.toNat).toInt := congrArg Int32.toInt (by unfold bw_; rw [← m42]; exact (show z74 = I (a0 Q p0 0) (3 + z42.toInt.toNat) from fez74).trans (cmA_n h (by omega))); intro u v hv P; rcases Int.lt_or_le v v31_4.toInt with w | w; (exact g31 σ ok h u v w P); (obtain rfl : v = v31_4.toInt := (by omega); rcases Int.lt_or_le u v60_5.toInt with w2 | w2; (exact g60 σ ok h u w2 P); (have k := at_in P.1; omega))) hP hS (lv_sub hl [1, 2, 3, 4, 0] rfl)
            · have t78 := tq_nle (k := z77.toInt) (q := v60_5.toInt) c78 rfl rfl
              have rg78v60_5 := fb_rng v60_5
              refine lv_aload_n hx hb dX7_meet_81 rfl (lv_at hl 0 rfl) ?_
              refine lv_iload_n hx hb dX7_meet_82 rfl (lv_at hl 1 rfl) ?_
              refine lv_iload hx hb dX7_meet_83 (lv_at hl 5 rfl) ?_
              refine lv_iload hx hb dX7_meet_85 (lv_at hl 4 rfl) ?_
              refine ro_i (va_runV (As := [.int p1, .int v60_5, .int v31_4]) (rest := []) ⟨hx, hb, hml, hown, hts⟩ (s_X7_lies l dC dI cs L K G Q hQ x0 m0 tx tm H.size I J hI p0 hLp0 hKp0 p1 ⟨by omega, by omega⟩ v60_5 v31_4) (cwV 3 hts (gV pq1583 pq1585 pq64 pq81 pq1586) rfl rfl rfl (by decide +kernel) ⟨(by rw [hR]; exact (Nat.le_of_ble_eq_true rfl)), (by rw [hR]; exact (Nat.le_of_ble_eq_true rfl))⟩) (sP_V hP hD hK hN hLp0 hKp0 rfl rfl) rfl rfl hl.1 rfl (lv_room (Nat.le_of_ble_eq_true rfl)) dX7_meet_87 ⟨(by rw [hR]; exact (Nat.le_of_ble_eq_true rfl)), (by rw [hR]; exact (Nat.le_of_ble_eq_true rfl))⟩) hS hP (fun z87 H locs hz87 hP hS => ?_)
              obtain ⟨bz87, xpz87⟩ := hz87
              have j117 : ∀ (H : Heap) (lo : List Loc) (ls : Array Slot), (∀ σ : Sx, okF σ.1 → cmA Q I J p0 σ → ¬ inC σ.1 p1.toInt.toNat p2.toInt.toNat v60_5.toInt v31_4.toInt) → va_P (dC, dI) vwCl (Wd cs L K I J Q) H → va_S (fun _ => False) s.heap H lo → lv_has ls 6 [(0, .ref p0), (1, .int p1), (2, .int p2), (3, .int p3), (4, .int v31_4), (5, .int v60_5)] → W p l e R s m (([.ref p0, .int p1, .int p2, .int p3] : List Value).toArray) below meth c H lo 0 0 Qz (F0 m 117 ls []) := by
                intro H lo ls g117 hP hS hl
                obtain ⟨z117, ez117⟩ : ∃ y : Int32, y = v60_5 + 1 := ⟨_, rfl⟩
                refine lv_iinc (v := z117) (lv' := [(5, .int z117), (0, .ref p0), (1, .int p1), (2, .int p2), (3, .int p3), (4, .int v31_4)]) hx hb dX7_meet_117 hl (k := 5) rfl (by rw [ez117]; rfl) (by decide) rfl (fun ls hl => ?_)
                have rg117v60_5 := fb_rng v60_5
                have bz117 := tq_add (k := v60_5.toInt) (q := 1) ez117 rfl (by decide +kernel) (by omega) (by omega)
                refine lv_goto (tgt := 60) hx hb dX7_meet_120 (by decide) ?_
                exact ih60 _ (by omega) z117 _ _ _ rfl (by omega) (fun σ ok h => by intro u hu P; rcases Int.lt_or_le u v60_5.toInt with w | w; (exact g60 σ ok h u w P); (obtain rfl : u = v60_5.toInt := (by omega); exact g117 σ ok h P)) hP hS (lv_sub hl [1, 2, 3, 4, 5, 0] rfl)
              refine lv_if_eq (tgt := 117) hx hb dX7_meet_90 (by decide) (fun c90 => ?_) (fun c90 => ?_)
              · have t90 := tq_eq (k := z87.toInt) (q := (0)) c90 rfl (by decide +kernel)
                exact j117  _ _ _ (fun σ ok h => by have e := cm_1 h; have t := xpz3.mp t6; rw [e] at t; have y26 : z26.toInt = bY σ.1 p1.toInt.toNat := congrArg Int32.toInt ((show z26 = I (a0 Q p0 0) (19 + 8 * p1.toInt.toNat + 2) from fez26).trans (cmA_n h (by omega))); have a87 := xpz87 σ.1 ok (cmA_rI h) (cmA_rJ h) (show p1.toInt.toNat < _ by omega); rw [at_e ok (by omega) ⟨by omega, by omega⟩ ⟨by omega, by omega⟩] at a87; exact fun P => (a87.mpr P.1) t90) hP hS (lv_sub hl [0, 1, 2, 3, 4, 5] rfl)
              · have t90 := tq_ne (k := z87.toInt) (q := (0)) c90 rfl (by decide +kernel)
                refine lv_aload_n hx hb dX7_meet_93 rfl (lv_at hl 0 rfl) ?_
                refine lv_iload_n hx hb dX7_meet_94 rfl (lv_at hl 2 rfl) ?_
                refine lv_iload hx hb dX7_meet_95 (lv_at hl 5 rfl) ?_
                refine lv_iload hx hb dX7_meet_97 (lv_at hl 4 rfl) ?_
                refine ro_i (va_runV (As := [.int p2, .int v60_5, .int v31_4]) (rest := []) ⟨hx, hb, hml, hown, hts⟩ (s_X7_lies l dC dI cs L K G Q hQ x0 m0 tx tm H.size I J hI p0 hLp0 hKp0 p2 ⟨by omega, by omega⟩ v60_5 v31_4) (cwV 3 hts (gV pq1583 pq1585 pq64 pq81 pq1586) rfl rfl rfl (by decide +kernel) ⟨(by rw [hR]; exact (Nat.le_of_ble_eq_true rfl)), (by rw [hR]; exact (Nat.le_of_ble_eq_true rfl))⟩) (sP_V hP hD hK hN hLp0 hKp0 rfl rfl) rfl rfl hl.1 rfl (lv_room (Nat.le_of_ble_eq_true rfl)) dX7_meet_99 ⟨(by rw [hR]; exact (Nat.le_of_ble_eq_true rfl)), (by rw [hR]; exact (Nat.le_of_ble_eq_true rfl))⟩) hS hP (fun z99 H locs hz99 hP hS => ?_)
                obtain ⟨bz99, xpz99⟩ := hz99
                refine lv_if_eq (tgt := 117) hx hb dX7_meet_102 (by decide) (fun c102 => ?_) (fun c102 => ?_)
                · have t102 := tq_eq (k := z99.toInt) (q := (0)) c102 rfl (by decide +kernel)
                  exact j117  _ _ _ (fun σ ok h => by have e := cm_1 h; have t := xpz3.mp t6; rw [e] at t; have y26 : z26.toInt = bY σ.1 p1.toInt.toNat := congrArg Int32.toInt ((show z26 = I (a0 Q p0 0) (19 + 8 * p1.toInt.toNat + 2) from fez26).trans (cmA_n h (by omega))); have a99 := xpz99 σ.1 ok (cmA_rI h) (cmA_rJ h) (show p2.toInt.toNat < _ by omega); rw [at_e ok (by omega) ⟨by omega, by omega⟩ ⟨by omega, by omega⟩] at a99; exact fun P => (a99.mpr P.2) t102) hP hS (lv_sub hl [0, 1, 2, 3, 4, 5] rfl)
                · have t102 := tq_ne (k := z99.toInt) (q := (0)) c102 rfl (by decide +kernel)
                  refine lv_iload_n hx hb dX7_meet_105 rfl (lv_at hl 3 rfl) ?_
                  refine lv_if_ne (tgt := 114) hx hb dX7_meet_106 (by decide) (fun c106 => ?_) (fun c106 => ?_)
                  · have t106 := tq_ne (k := p3.toInt) (q := (0)) c106 rfl (by decide +kernel)
                    refine lv_iload hx hb dX7_meet_114 (lv_at hl 4 rfl) ?_
                    subst hR; subst hQz
                    exact W.iret (v := v31_4) hx hb hr (fun t ht hW => ⟨⟨v31_4, (), rfl, (fun σ ok h => by have e := cm_1 h; have t := xpz3.mp t6; rw [e] at t; have y26 : z26.toInt = bY σ.1 p1.toInt.toNat := congrArg Int32.toInt ((show z26 = I (a0 Q p0 0) (19 + 8 * p1.toInt.toNat + 2) from fez26).trans (cmA_n h (by omega))); have a87 := xpz87 σ.1 ok (cmA_rI h) (cmA_rJ h) (show p1.toInt.toNat < _ by omega); rw [at_e ok (by omega) ⟨by omega, by omega⟩ ⟨by omega, by omega⟩] at a87; have a99 := xpz99 σ.1 ok (cmA_rI h) (cmA_rJ h) (show p2.toInt.toNat < _ by omega); rw [at_e ok (by omega) ⟨by omega, by omega⟩ ⟨by omega, by omega⟩] at a99; exact ⟨fun _ => Or.inl ⟨v60_5.toInt, v31_4.toInt, ⟨⟨a87.mp t90, a99.mp t102⟩, g31 σ ok h, g60 σ ok h⟩, by rw [if_neg t106]⟩, fun q => absurd ⟨t, by omega, by omega⟩ q⟩), trivial⟩, hS.F ht⟩) hS.2.2 dX7_meet_116
                  · have t106 := tq_eq (k := p3.toInt) (q := (0)) c106 rfl (by decide +kernel)
                    refine lv_iload hx hb dX7_meet_109 (lv_at hl 5 rfl) ?_
                    refine lv_goto (tgt := 116) hx hb dX7_meet_111 (by decide) ?_
                    subst hR; subst hQz
                    exact W.iret (v := v60_5) hx hb hr (fun t ht hW => ⟨⟨v60_5, (), rfl, (fun σ ok h => by have e := cm_1 h; have t := xpz3.mp t6; rw [e] at t; have y26 : z26.toInt = bY σ.1 p1.toInt.toNat := congrArg Int32.toInt ((show z26 = I (a0 Q p0 0) (19 + 8 * p1.toInt.toNat + 2) from fez26).trans (cmA_n h (by omega))); have a87 := xpz87 σ.1 ok (cmA_rI h) (cmA_rJ h) (show p1.toInt.toNat < _ by omega); rw [at_e ok (by omega) ⟨by omega, by omega⟩ ⟨by omega, by omega⟩] at a87; have a99 := xpz99 σ.1 ok (cmA_rI h) (cmA_rJ h) (show p2.toInt.toNat < _ by omega); rw [at_e ok (by omega) ⟨by omega, by omega⟩ ⟨by omega, by omega⟩] at a99; exact ⟨fun _ => Or.inl ⟨v60_5.toInt, v31_4.toInt, ⟨⟨a87.mp t90, a99.mp t102⟩, g31 σ ok h, g60 σ ok h⟩, by rw [if_pos t106]⟩, fun q => absurd ⟨t, by omega, by omega⟩ q⟩), trivial⟩, hS.F ht⟩) hS.2.2 dX7_meet_116)
          exact key60 _ z55 _ _ _ rfl (by omega) (fun σ ok h => by have e := cm_1 h; have t := xpz3.mp t6; rw [e] at t; have y26 : z26.toInt = bY σ.1 p1.toInt.toNat := congrArg Int32.toInt ((show z26 = I (a0 Q p0 0) (19 + 8 * p1.toInt.toNat + 2) from fez26).trans (cmA_n h (by omega))); have x55 : z55.toInt = bX σ.1 p1.toInt.toNat := congrArg Int32.toInt ((show z55 = I (a0 Q p0 0) (19 + 8 * p1.toInt.toNat + 1) from fez55).trans (cmA_n h (by omega))); intro u hu P; have k := at_in P.1; omega) hP hS (lv_sub hl [1, 2, 3, 4, 5, 0] rfl))
      exact key31 _ z26 _ _ _ rfl (by omega) (fun σ ok h => by have e := cm_1 h; have t := xpz3.mp t6; rw [e] at t; have y26 : z26.toInt = bY σ.1 p1.toInt.toNat := congrArg Int32.toInt ((show z26 = I (a0 Q p0 0) (19 + 8 * p1.toInt.toNat + 2) from fez26).trans (cmA_n h (by omega))); intro u v hv P; have k := at_in P.1; omega) hP hS (lv_sub hl [1, 2, 3, 4, 0] rfl)
    · have t16 := tq_eq (k := z13.toInt) (q := (0)) c16 rfl (by decide +kernel)
      refine lv_sipush (v := (-2000)) hx hb dX7_meet_19 (by decide +kernel) ?_
      subst hR; subst hQz
      exact W.iret (v := (-2000)) hx hb hr (fun t ht hW => ⟨⟨(-2000), (), rfl, (fun σ ok h => by have e := cm_1 h; exact ⟨fun w => absurd w (fun w => by first | (have t := w.1; unfold twV at t; rw [← e] at t; exact (xpz3.mpr t) t6) | exact xpz13 t16 ⟨by have a := w.2; omega, by have a := w.2; omega⟩), fun _ => by decide +kernel⟩), trivial⟩, hS.F ht⟩) hS.2.2 dX7_meet_22

set_option maxHeartbeats 4000000 in
set_option maxRecDepth 100000 in
theorem s_X7_contact (l : Launch) (dC : Nat → ClassId) (dI : Nat → Nat → Nat) (cs : Nat → ClassId) (L : List Nat) (K G : Nat → Nat) (Q : Nat → Nat → Option Nat) (hQ : Sv L K G Q) (x0 m0 : Nat) (tx : GT) (tm : GT × Int) (sz : Nat) (I : Nat → Nat → Int32) (J : Nat → Nat → Int64) (hI : Iv L K x0 m0 tx tm I) (p0 : Nat) (hLp0 : p0 ∈ L) (hKp0 : K p0 = 7) (p1 : Int32) : Met l yX7_contact (.code yX7_contact cX7_contact 5 (some .int) :: pw) ({ frames := 5, cells := 0, slots := 0, locals := 122 }) (sP (dC, dI) cs [.ref p0, .int p1] sz L K I J Q) (va_Qi (fun (r : Int32) (_ : Unit) => (∀ σ : Sx, okF σ.1 → cmA Q I J p0 σ → r = cnR σ p1)) (fun _ t => sB (dC, dI) cs L K Q (fun I1 J1 => Iv L K x0 m0 tx tm I1 ∧ I1 = I ∧ (∀ σ : Sx, cmA Q I J p0 σ → cmA Q I1 J1 p0 σ) ∧ (∀ b, ¬ (K b = 25) → J1 b = J b)) t) (fun q => q ∈ L ∨ sz ≤ q)) 0 0 (fun q => q ∈ L ∨ sz ≤ q) := by
  refine Met.ofW (cc := cX7_contact) (maxL := 5) (ret := (some .int)) (by decide +kernel) rfl ?_
  intro p e s m args below meth c s₁ B hml hv
  obtain ⟨rfl, hsz, hP, hK, hD0, hN⟩ := hv
  have hx := B.exec
  have hb := B.bytes
  have hr := B.returns
  have hts := fun w (h : w ∈ pw) => atoms_spec (ws := Cond.code yX7_contact cX7_contact 5 (some .int) :: pw) B.pre w (List.mem_cons_of_mem _ h)
  have hown : s.vm.findClass RX7 = some m.cls := findClass_of_methodNamed B.named
  have hlocks := B.notSynchronized
  subst hsz
  have hBB : 999 ≤ tm.2 ∧ tm.2 ≤ 6000000 := hI.2.2.2.2.1
  have dj_J : (∀ b, ¬ (K b = 25) → J b = J b) := fun _ _ => rfl
  obtain ⟨A, hAe⟩ : ∃ A : Nat → Prop, A = (fun q => q ∈ L ∨ s.heap.size ≤ q) := ⟨_, rfl⟩
  rw [← hAe]
  have hAL : ∀ q, q ∈ L → A q := fun q h => by rw [hAe]; exact Or.inl h
  have hA : ∀ q, s.heap.size ≤ q → A q := fun q h => by rw [hAe]; exact Or.inr h
  have hD : ∀ F, va_D A (va_pl L F) := fun F => (hD0 F).weaken (fun k q hk _ => hAL _ (pl_mem hk))
  obtain ⟨H, hHe⟩ : ∃ H : Heap, H = s.heap := ⟨_, rfl⟩
  have hS : va_S A s.heap H [] := by rw [hHe]; exact va_S.rf
  rw [← hHe] at hP
  have hl := lv_entry ([.ref p0, .int p1]) (n := 5) (Nat.le_of_ble_eq_true rfl)
  rw [lg_entry_eq]
  generalize (lg_sl ([.ref p0, .int p1]) ++ List.replicate (5 - (lg_sl ([.ref p0, .int p1])).length) Slot.unset).toArray = ls at hl ⊢
  have hl : lv_has ls 5 [(0, .ref p0), (1, .int p1)] := hl
  rw [← hHe]
  refine namedW (fun R Qz hR hQz => ?_)
  refine lv_iload_n hx hb dX7_contact_0 rfl (lv_at hl 1 rfl) ?_
  refine lv_iconst (v := (-1)) hx hb dX7_contact_1 (by decide +kernel) ?_
  refine lv_icmp_ge (tgt := 7) hx hb dX7_contact_2 (by decide) (fun c2 => ?_) (fun c2 => ?_)
  · have t2 := tq_le (k := (-1)) (q := p1.toInt) c2 (by decide +kernel) rfl
    refine lv_aload_n hx hb dX7_contact_7 rfl (lv_at hl 0 rfl) ?_
    refine sw_v (Z := (fun I1 J1 => Iv L K x0 m0 tx tm I1 ∧ I1 = I ∧ (∀ c : Fx, okF c → rI Q I p0 c → rJ Q J p0 c → ldA Q J1 p0 c) ∧ (∀ b, ¬ (K b = 25) → J1 b = J b))) (va_runV (As := []) (rest := []) ⟨hx, hb, hml, hown, hts⟩ (s_X7_laysAll l dC dI cs L K G Q hQ x0 m0 tx tm H.size I J hI p0 hLp0 hKp0) (cwV 0 hts (gV pq1427 pq1429 pq40 pq81 pq1430) rfl rfl rfl (by decide +kernel) ⟨(by rw [hR]; exact (Nat.le_of_ble_eq_true rfl)), (by rw [hR]; exact (Nat.le_of_ble_eq_true rfl))⟩) (sP_V hP hD hK hN hLp0 hKp0 rfl rfl) rfl rfl hl.1 rfl (lv_room (Nat.le_of_ble_eq_true rfl)) dX7_contact_8 ⟨(by rw [hR]; exact (Nat.le_of_ble_eq_true rfl)), (by rw [hR]; exact (Nat.le_of_ble_eq_true rfl))⟩) hS hAL hA (fun Iz8 Jz8 H locs hz8 hIz8 hP hS => ?_)
    obtain ⟨hIz8, sm8, jz8, djc8⟩ := hIz8
    have dj_Jz8 : (∀ b, ¬ (K b = 25) → Jz8 b = J b) := fun b hc => (djc8 b (fun z => hc (by omega))).trans (dj_J b hc)
    obtain rfl : I = Iz8 := sm8.symm
    refine lv_iconst (v := 0) hx hb dX7_contact_11 (by decide +kernel) ?_
    refine lv_istore_n (lv' := [(2, .int 0), (0, .ref p0), (1, .int p1)]) hx hb dX7_contact_12 rfl hl (by decide) rfl (fun ls hl => ?_)
    refine lv_iconst (v := 0) hx hb dX7_contact_13 (by decide +kernel) ?_
    refine lv_istore_n (lv' := [(3, .int 0), (2, .int 0), (0, .ref p0), (1, .int p1)]) hx hb dX7_contact_14 rfl hl (by decide) rfl (fun ls hl => ?_)
    have key15 := blocks (fun n => ∀ (v15_2 : Int32) (v15_3 : Int32) (H : Heap) (lo : List Loc) (ls : Array Slot), (11 - v15_3.toInt).toNat = n → ((0) ≤ v15_3.toInt ∧ v15_3.toInt ≤ 10) → (∀ σ : Sx, okF σ.1 → cmA Q I J p0 σ → cnR σ p1 = cnL (toP σ.1) p1 (prI (σ.1.1 1).toInt.toNat v15_3.toInt.toNat ((σ.1.1 1).toInt.toNat - v15_3.toInt.toNat)) v15_2 ∧ (v15_3.toInt ≤ (σ.1.1 1).toInt ∨ v15_3.toInt = 0)) → va_P (dC, dI) vwCl (Wd cs L K I Jz8 Q) H → va_S A s.heap H lo → lv_has ls 5 [(0, .ref p0), (1, .int p1), (2, .int v15_2), (3, .int v15_3)] → W p l e R s m (([.ref p0, .int p1] : List Value).toArray) below meth c H lo 0 0 Qz (F0 m 15 ls [])) (by
      intro n ih15
      intro v15_2 v15_3 H lo ls hmu15 bv15_3 g15 hP hS hl
      refine lv_iload_n hx hb dX7_contact_15 rfl (lv_at hl 3 rfl) ?_
      refine lv_aload_n hx hb dX7_contact_16 rfl (lv_at hl 0 rfl) ?_
      obtain ⟨y17, ey17, hLy17, hKy17⟩ := oQ_7_0 (Sv_at hQ hLp0 hKp0)
      refine p_get (v := .ref y17) hx hb hts inX7 hown hK hP hLp0 hKp0 rfl rfl 0 (by decide) (hts _ pq1115) (congrArg (fun q => some (va_rf q)) ey17) dX7_contact_17 ?_
      refine lv_iconst (v := 1) hx hb dX7_contact_20 (by decide +kernel) ?_
      refine p_iald hx hb hK hP 8 hLy17 hKy17 rfl rfl (in_d (by decide +kernel)) dX7_contact_21 ?_
      refine lv_topi (fun z21 ez21 => ?_)
      have bz21 := rng1 (oR_18 (i := (1 : Int32)) (k := (1)) (by decide +kernel) (Iv_at hI hLy17 hKy17))
      rw [← ez21] at bz21
      refine lv_icmp_ge (tgt := 84) hx hb dX7_contact_22 (by decide) (fun c22 => ?_) (fun c22 => ?_)
      · have t22 := tq_le (k := z21.toInt) (q := v15_3.toInt) c22 rfl rfl
        refine lv_iload_n hx hb dX7_contact_84 rfl (lv_at hl 1 rfl) ?_
        refine lv_iconst (v := (-1)) hx hb dX7_contact_85 (by decide +kernel) ?_
        refine lv_icmp_ne (tgt := 93) hx hb dX7_contact_86 (by decide) (fun c86 => ?_) (fun c86 => ?_)
        · have t86 := tq_ne (k := p1.toInt) (q := (-1)) c86 rfl (by decide +kernel)
          refine lv_bipush (v := (-2)) hx hb dX7_contact_93 (by decide +kernel) ?_
          subst hR; subst hQz
          exact W.iret (v := (-2)) hx hb hr (fun t ht hW => ⟨⟨(-2), (), rfl, (fun σ ok h => by have en := congrArg Int32.toInt (ez21.trans (show I y17 (1 : Int32).toNatClampNeg = σ.1.1 1 by rw [show y17 = a0 Q p0 0 from (gd_of ey17).symm, show (1 : Int32).toNatClampNeg = 1 from by decide +kernel]; exact cm_1 h)); rw [(g15 σ ok h).1, prI_end (by omega)]; unfold cnL; rw [if_neg (fun q => t86 (by rw [q]; decide +kernel))]), ⟨I, Jz8, ⟨hI, rfl, (fun σ A => cmA_fr hQ hLp0 hKp0 (fun _ _ => rfl) (fun b hb => dj_Jz8 b (by omega)) rfl A), dj_Jz8⟩, by rw [ht]; exact hP⟩⟩, hS.F ht⟩) hS.2.2 dX7_contact_95
        · have t86 := tq_eq (k := p1.toInt) (q := (-1)) c86 rfl (by decide +kernel)
          refine lv_iload_n hx hb dX7_contact_89 rfl (lv_at hl 2 rfl) ?_
          refine lv_goto (tgt := 95) hx hb dX7_contact_90 (by decide) ?_
          subst hR; subst hQz
          exact W.iret (v := v15_2) hx hb hr (fun t ht hW => ⟨⟨v15_2, (), rfl, (fun σ ok h => by have en := congrArg Int32.toInt (ez21.trans (show I y17 (1 : Int32).toNatClampNeg = σ.1.1 1 by rw [show y17 = a0 Q p0 0 from (gd_of ey17).symm, show (1 : Int32).toNatClampNeg = 1 from by decide +kernel]; exact cm_1 h)); rw [(g15 σ ok h).1, prI_end (by omega)]; unfold cnL; rw [if_pos (Int32.toInt_inj.mp (t86.trans (by decide +kernel)))]), ⟨I, Jz8, ⟨hI, rfl, (fun σ A => cmA_fr hQ hLp0 hKp0 (fun _ _ => rfl) (fun b hb => dj_Jz8 b (by omega)) rfl A), dj_Jz8⟩, by rw [ht]; exact hP⟩⟩, hS.F ht⟩) hS.2.2 dX7_contact_95
      · have t22 := tq_nle (k := z21.toInt) (q := v15_3.toInt) c22 rfl rfl
        refine lv_iload_n hx hb dX7_contact_25 rfl (lv_at hl 3 rfl) ?_
        refine lv_iconst (v := 1) hx hb dX7_contact_26 (by decide +kernel) ?_
        refine lv_iadd hx hb dX7_contact_27 ?_
        refine lv_topi (fun z27 ez27 => ?_)
        have bz27 := tq_add (k := v15_3.toInt) (q := (1)) ez27 rfl (by decide +kernel) (by omega) (by omega)
        refine lv_istore (lv' := [(4, .int z27), (0, .ref p0), (1, .int p1), (2, .int v15_2), (3, .int v15_3)]) hx hb dX7_contact_28 hl (by decide) rfl (fun ls hl => ?_)
        have key30 := blocks (fun n => ∀ (v30_2 : Int32) (v30_4 : Int32) (H : Heap) (lo : List Loc) (ls : Array Slot), (11 - v30_4.toInt).toNat = n → ((1) ≤ v30_4.toInt ∧ v30_4.toInt ≤ 10) → v15_3.toInt < v30_4.toInt → (∀ σ : Sx, okF σ.1 → cmA Q I J p0 σ → cnR σ p1 = cnL (toP σ.1) p1 (prJ (σ.1.1 1).toInt.toNat v15_3.toInt.toNat v30_4.toInt.toNat) v30_2) → va_P (dC, dI) vwCl (Wd cs L K I Jz8 Q) H → va_S A s.heap H lo → lv_has ls 5 [(0, .ref p0), (1, .int p1), (2, .int v30_2), (3, .int v15_3), (4, .int v30_4)] → W p l e R s m (([.ref p0, .int p1] : List Value).toArray) below meth c H lo 0 0 Qz (F0 m 30 ls [])) (by
          intro n ih30
          intro v30_2 v30_4 H lo ls hmu30 bv30_4 hlt30 g30 hP hS hl
          refine lv_iload hx hb dX7_contact_30 (lv_at hl 4 rfl) ?_
          refine lv_aload_n hx hb dX7_contact_32 rfl (lv_at hl 0 rfl) ?_
          refine p_get (v := .ref y17) hx hb hts inX7 hown hK hP hLp0 hKp0 rfl rfl 0 (by decide) (hts _ pq1115) (congrArg (fun q => some (va_rf q)) ey17) dX7_contact_33 ?_
          refine lv_iconst (v := 1) hx hb dX7_contact_36 (by decide +kernel) ?_
          refine p_iald hx hb hK hP 8 hLy17 hKy17 rfl rfl (in_d (by decide +kernel)) dX7_contact_37 ?_
          refine lv_topi (fun z37 ez37 => ?_)
          obtain rfl : z21 = z37 := ez21.trans ez37.symm
          refine lv_icmp_ge (tgt := 78) hx hb dX7_contact_38 (by decide) (fun c38 => ?_) (fun c38 => ?_)
          · have t38 := tq_le (k := z21.toInt) (q := v30_4.toInt) c38 rfl rfl
            obtain ⟨z78, ez78⟩ : ∃ y : Int32, y = v15_3 + 1 := ⟨_, rfl⟩
            refine lv_iinc (v := z78) (lv' := [(3, .int z78), (0, .ref p0), (1, .int p1), (2, .int v30_2), (4, .int v30_4)]) hx hb dX7_contact_78 hl (k := 3) rfl (by rw [ez78]; rfl) (by decide) rfl (fun ls hl => ?_)
            have bz78 := tq_add (k := v15_3.toInt) (q := 1) ez78 rfl (by decide +kernel) (by omega) (by omega)
            refine lv_goto (tgt := 15) hx hb dX7_contact_81 (by decide) ?_
            exact ih15 _ (by omega) v30_2 z78 _ _ _ rfl ⟨by omega, by omega⟩ (fun σ ok h => by have en := congrArg Int32.toInt (ez21.trans (show I y17 (1 : Int32).toNatClampNeg = σ.1.1 1 by rw [show y17 = a0 Q p0 0 from (gd_of ey17).symm, show (1 : Int32).toNatClampNeg = 1 from by decide +kernel]; exact cm_1 h)); exact ⟨by rw [g30 σ ok h, prJ_end (by omega), show z78.toInt.toNat = v15_3.toInt.toNat + 1 by omega], Or.inl (by omega)⟩) hP hS (lv_sub hl [1, 2, 3, 0] rfl)
          · have t38 := tq_nle (k := z21.toInt) (q := v30_4.toInt) c38 rfl rfl
            refine lv_aload_n hx hb dX7_contact_41 rfl (lv_at hl 0 rfl) ?_
            refine lv_iload_n hx hb dX7_contact_42 rfl (lv_at hl 3 rfl) ?_
            refine lv_iload hx hb dX7_contact_43 (lv_at hl 4 rfl) ?_
            refine lv_iconst (v := 0) hx hb dX7_contact_45 (by decide +kernel) ?_
            refine lv_iconst (v := 0) hx hb dX7_contact_46 (by decide +kernel) ?_
            refine ro_i (va_runV (As := [.int v15_3, .int v30_4, .int 0, .int 0]) (rest := []) ⟨hx, hb, hml, hown, hts⟩ (s_X7_touches l dC dI cs L K G Q hQ x0 m0 tx tm H.size I Jz8 hI p0 hLp0 hKp0 v15_3 ⟨by omega, by omega⟩ v30_4 ⟨by omega, by omega⟩ 0 0 ⟨by decide +kernel, by decide +kernel⟩) (cwV 4 hts (gV pq1448 pq1450 pq44 pq81 pq1451) rfl rfl rfl (by decide +kernel) ⟨(by rw [hR]; exact (Nat.le_of_ble_eq_true rfl)), (by rw [hR]; exact (Nat.le_of_ble_eq_true rfl))⟩) (sP_V hP hD hK hN hLp0 hKp0 rfl rfl) rfl rfl hl.1 rfl (lv_room (Nat.le_of_ble_eq_true rfl)) dX7_contact_47 ⟨(by rw [hR]; exact (Nat.le_of_ble_eq_true rfl)), (by rw [hR]; exact (Nat.le_of_ble_eq_true rfl))⟩) hS hP (fun z47 H locs hz47 hP hS => ?_)
            have cst47_0 : (0 : Int32).toInt = 0 := by decide +kernel
            obtain ⟨bz47, xpz47⟩ := hz47
            try rw [cst47_0] at xpz47
            have j72 : ∀ (v72_2 : Int32) (H : Heap) (lo : List Loc) (ls : Array Slot), (∀ σ : Sx, okF σ.1 → cmA Q I J p0 σ → cnR σ p1 = cnL (toP σ.1) p1 (prJ (σ.1.1 1).toInt.toNat v15_3.toInt.toNat (v30_4.toInt.toNat + 1)) v72_2) → va_P (dC, dI) vwCl (Wd cs L K I Jz8 Q) H → va_S A s.heap H lo → lv_has ls 5 [(0, .ref p0), (1, .int p1), (2, .int v72_2), (3, .int v15_3), (4, .int v30_4)] → W p l e R s m (([.ref p0, .int p1] : List Value).toArray) below meth c H lo 0 0 Qz (F0 m 72 ls []) := by
              intro v72_2 H lo ls g72 hP hS hl
              obtain ⟨z72, ez72⟩ : ∃ y : Int32, y = v30_4 + 1 := ⟨_, rfl⟩
              refine lv_iinc (v := z72) (lv' := [(4, .int z72), (0, .ref p0), (1, .int p1), (2, .int v72_2), (3, .int v15_3)]) hx hb dX7_contact_72 hl (k := 4) rfl (by rw [ez72]; rfl) (by decide) rfl (fun ls hl => ?_)
              have bz72 := tq_add (k := v30_4.toInt) (q := 1) ez72 rfl (by decide +kernel) (by omega) (by omega)
              refine lv_goto (tgt := 30) hx hb dX7_contact_75 (by decide) ?_
              exact ih30 _ (by omega) v72_2 z72 _ _ _ rfl ⟨by omega, by omega⟩ (by omega) (fun σ ok h => by rw [g72 σ ok h, show z72.toInt.toNat = v30_4.toInt.toNat + 1 by omega]) hP hS (lv_sub hl [1, 2, 3, 4, 0] rfl)
            refine lv_if_ne (tgt := 56) hx hb dX7_contact_50 (by decide) (fun c50 => ?_) (fun c50 => ?_)
            · have t50 := tq_ne (k := z47.toInt) (q := (0)) c50 rfl (by decide +kernel)
              refine lv_iload_n hx hb dX7_contact_56 rfl (lv_at hl 2 rfl) ?_
              refine lv_iload_n hx hb dX7_contact_57 rfl (lv_at hl 1 rfl) ?_
              refine lv_icmp_ne (tgt := 69) hx hb dX7_contact_58 (by decide) (fun c58 => ?_) (fun c58 => ?_)
              · have t58 := tq_ne (k := v30_2.toInt) (q := p1.toInt) c58 rfl rfl
                obtain ⟨z69, ez69⟩ : ∃ y : Int32, y = v30_2 + 1 := ⟨_, rfl⟩
                refine lv_iinc (v := z69) (lv' := [(2, .int z69), (0, .ref p0), (1, .int p1), (3, .int v15_3), (4, .int v30_4)]) hx hb dX7_contact_69 hl (k := 2) rfl (by rw [ez69]; rfl) (by decide) rfl (fun ls hl => ?_)
                exact j72 z69 _ _ _ (fun σ ok h => by have en := congrArg Int32.toInt (ez21.trans (show I y17 (1 : Int32).toNatClampNeg = σ.1.1 1 by rw [show y17 = a0 Q p0 0 from (gd_of ey17).symm, show (1 : Int32).toNatClampNeg = 1 from by decide +kernel]; exact cm_1 h)); have w := xpz47 σ.1 ok (cmA_rI h) (jz8 σ.1 ok (cmA_rI h) (cmA_rJ h)) (show v15_3.toInt.toNat < _ by omega) (show v30_4.toInt.toNat < _ by omega) ⟨by decide +kernel, by decide +kernel⟩; rw [g30 σ ok h, prJ_go (by omega), cn_go (w.mp t50).2 (fun q => t58 (congrArg Int32.toInt q)), ez69]) hP hS (lv_sub hl [1, 2, 0, 3, 4] rfl)
              · have t58 := tq_eq (k := v30_2.toInt) (q := p1.toInt) c58 rfl rfl
                refine lv_bipush (v := 100) hx hb dX7_contact_61 (by decide +kernel) ?_
                refine lv_iload_n hx hb dX7_contact_63 rfl (lv_at hl 3 rfl) ?_
                refine lv_imul hx hb dX7_contact_64 ?_
                refine lv_topi (fun z64 ez64 => ?_)
                have bz64 := tq_mul (k := (100)) (q := v15_3.toInt) ez64 (by decide +kernel) rfl (by omega) (by omega)
                refine lv_iload hx hb dX7_contact_65 (lv_at hl 4 rfl) ?_
                refine lv_iadd hx hb dX7_contact_67 ?_
                refine lv_topi (fun z67 ez67 => ?_)
                have bz67 := tq_add (k := z64.toInt) (q := v30_4.toInt) ez67 rfl rfl (by omega) (by omega)
                subst hR; subst hQz
                exact W.iret (v := z67) hx hb hr (fun t ht hW => ⟨⟨z67, (), rfl, (fun σ ok h => by have en := congrArg Int32.toInt (ez21.trans (show I y17 (1 : Int32).toNatClampNeg = σ.1.1 1 by rw [show y17 = a0 Q p0 0 from (gd_of ey17).symm, show (1 : Int32).toNatClampNeg = 1 from by decide +kernel]; exact cm_1 h)); have w := xpz47 σ.1 ok (cmA_rI h) (jz8 σ.1 ok (cmA_rI h) (cmA_rJ h)) (show v15_3.toInt.toNat < _ by omega) (show v30_4.toInt.toNat < _ by omega) ⟨by decide +kernel, by decide +kernel⟩; rw [g30 σ ok h, prJ_go (by omega), cn_hit (w.mp t50).2 (Int32.toInt_inj.mp t58)]; exact oi_eq (by show z67.toInt = 100 * (v15_3.toInt.toNat : Int) + (v30_4.toInt.toNat : Int); omega)), ⟨I, Jz8, ⟨hI, rfl, (fun σ A => cmA_fr hQ hLp0 hKp0 (fun _ _ => rfl) (fun b hb => dj_Jz8 b (by omega)) rfl A), dj_Jz8⟩, by rw [ht]; exact hP⟩⟩, hS.F ht⟩) hS.2.2 dX7_contact_68
            · have t50 := tq_eq (k := z47.toInt) (q := (0)) c50 rfl (by decide +kernel)
              refine lv_goto (tgt := 72) hx hb dX7_contact_53 (by decide) ?_
              exact j72 v30_2 _ _ _ (fun σ ok h => by have en := congrArg Int32.toInt (ez21.trans (show I y17 (1 : Int32).toNatClampNeg = σ.1.1 1 by rw [show y17 = a0 Q p0 0 from (gd_of ey17).symm, show (1 : Int32).toNatClampNeg = 1 from by decide +kernel]; exact cm_1 h)); have w := xpz47 σ.1 ok (cmA_rI h) (jz8 σ.1 ok (cmA_rI h) (cmA_rJ h)) (show v15_3.toInt.toNat < _ by omega) (show v30_4.toInt.toNat < _ by omega) ⟨by decide +kernel, by decide +kernel⟩; rw [g30 σ ok h, prJ_go (by omega), cn_no (fun q => (w.mpr ⟨by omega, q⟩) t50)]) hP hS (lv_sub hl [0, 1, 2, 3, 4] rfl))
        exact key30 _ v15_2 z27 _ _ _ rfl ⟨by omega, by omega⟩ (by omega) (fun σ ok h => by have en := congrArg Int32.toInt (ez21.trans (show I y17 (1 : Int32).toNatClampNeg = σ.1.1 1 by rw [show y17 = a0 Q p0 0 from (gd_of ey17).symm, show (1 : Int32).toNatClampNeg = 1 from by decide +kernel]; exact cm_1 h)); rw [(g15 σ ok h).1, prI_go (by omega), show z27.toInt.toNat = v15_3.toInt.toNat + 1 by omega]) hP hS (lv_sub hl [1, 2, 3, 4, 0] rfl))
    exact key15 _ 0 0 _ _ _ rfl ⟨by decide +kernel, by decide +kernel⟩ (fun σ ok h => ⟨by unfold cnR; rw [if_neg (by omega), show (0 : Int32).toInt.toNat = 0 from by decide +kernel], Or.inr (by decide +kernel)⟩) hP hS (lv_sub hl [2, 3, 1, 0] rfl)
  · have t2 := tq_nle (k := (-1)) (q := p1.toInt) c2 (by decide +kernel) rfl
    have rg2p1 := fb_rng p1
    refine lv_iconst (v := (-1)) hx hb dX7_contact_5 (by decide +kernel) ?_
    subst hR; subst hQz
    exact W.iret (v := (-1)) hx hb hr (fun t ht hW => ⟨⟨(-1), (), rfl, (fun σ ok h => by unfold cnR; rw [if_pos (by omega)]), ⟨I, J, ⟨hI, rfl, (fun σ A => cmA_fr hQ hLp0 hKp0 (fun _ _ => rfl) (fun _ _ => rfl) rfl A), dj_J⟩, by rw [ht]; exact hP⟩⟩, hS.F ht⟩) hS.2.2 dX7_contact_6

set_option maxHeartbeats 4000000 in
set_option maxRecDepth 100000 in
theorem s_X7_touching (l : Launch) (dC : Nat → ClassId) (dI : Nat → Nat → Nat) (cs : Nat → ClassId) (L : List Nat) (K G : Nat → Nat) (Q : Nat → Nat → Option Nat) (hQ : Sv L K G Q) (x0 m0 : Nat) (tx : GT) (tm : GT × Int) (sz : Nat) (I : Nat → Nat → Int32) (J : Nat → Nat → Int64) (hI : Iv L K x0 m0 tx tm I) (p0 : Nat) (hLp0 : p0 ∈ L) (hKp0 : K p0 = 7) (p1 : Int32) : Met l yX7_touching (.code yX7_touching cX7_touching 2 (some .int) :: pw) ({ frames := 6, cells := 0, slots := 0, locals := 145 }) (sP (dC, dI) cs [.ref p0, .int p1] sz L K I J Q) (va_Qi (fun (r : Int32) (_ : Unit) => (∀ σ : Sx, okF σ.1 → cmA Q I J p0 σ → tcR σ p1 r)) (fun _ t => sB (dC, dI) cs L K Q (fun I1 J1 => Iv L K x0 m0 tx tm I1 ∧ I1 = I ∧ (∀ σ : Sx, cmA Q I J p0 σ → cmA Q I1 J1 p0 σ) ∧ (∀ b, ¬ (K b = 25) → J1 b = J b)) t) (fun q => q ∈ L ∨ sz ≤ q)) 0 0 (fun q => q ∈ L ∨ sz ≤ q) := by
  refine Met.ofW (cc := cX7_touching) (maxL := 2) (ret := (some .int)) (by decide +kernel) rfl ?_
  intro p e s m args below meth c s₁ B hml hv
  obtain ⟨rfl, hsz, hP, hK, hD0, hN⟩ := hv
  have hx := B.exec
  have hb := B.bytes
  have hr := B.returns
  have hts := fun w (h : w ∈ pw) => atoms_spec (ws := Cond.code yX7_touching cX7_touching 2 (some .int) :: pw) B.pre w (List.mem_cons_of_mem _ h)
  have hown : s.vm.findClass RX7 = some m.cls := findClass_of_methodNamed B.named
  have hlocks := B.notSynchronized
  subst hsz
  have hBB : 999 ≤ tm.2 ∧ tm.2 ≤ 6000000 := hI.2.2.2.2.1
  have dj_J : (∀ b, ¬ (K b = 25) → J b = J b) := fun _ _ => rfl
  obtain ⟨A, hAe⟩ : ∃ A : Nat → Prop, A = (fun q => q ∈ L ∨ s.heap.size ≤ q) := ⟨_, rfl⟩
  rw [← hAe]
  have hAL : ∀ q, q ∈ L → A q := fun q h => by rw [hAe]; exact Or.inl h
  have hA : ∀ q, s.heap.size ≤ q → A q := fun q h => by rw [hAe]; exact Or.inr h
  have hD : ∀ F, va_D A (va_pl L F) := fun F => (hD0 F).weaken (fun k q hk _ => hAL _ (pl_mem hk))
  obtain ⟨H, hHe⟩ : ∃ H : Heap, H = s.heap := ⟨_, rfl⟩
  have hS : va_S A s.heap H [] := by rw [hHe]; exact va_S.rf
  rw [← hHe] at hP
  have hl := lv_entry ([.ref p0, .int p1]) (n := 2) (Nat.le_of_ble_eq_true rfl)
  rw [lg_entry_eq]
  generalize (lg_sl ([.ref p0, .int p1]) ++ List.replicate (2 - (lg_sl ([.ref p0, .int p1])).length) Slot.unset).toArray = ls at hl ⊢
  have hl : lv_has ls 2 [(0, .ref p0), (1, .int p1)] := hl
  rw [← hHe]
  refine namedW (fun R Qz hR hQz => ?_)
  refine lv_aload_n hx hb dX7_touching_0 rfl (lv_at hl 0 rfl) ?_
  refine lv_iload_n hx hb dX7_touching_1 rfl (lv_at hl 1 rfl) ?_
  refine ro_i (va_runV (As := [.int p1]) (rest := []) ⟨hx, hb, hml, hown, hts⟩ (s_X7_isBody l dC dI cs L K G Q hQ x0 m0 tx tm H.size I J hI p0 hLp0 hKp0 p1) (cwV 1 hts (gV pq1310 pq1312 pq23 pq81 pq1313) rfl rfl rfl (by decide +kernel) ⟨(by rw [hR]; exact (Nat.le_of_ble_eq_true rfl)), (by rw [hR]; exact (Nat.le_of_ble_eq_true rfl))⟩) (sP_V hP hD hK hN hLp0 hKp0 rfl rfl) rfl rfl hl.1 rfl (lv_room (Nat.le_of_ble_eq_true rfl)) dX7_touching_2 ⟨(by rw [hR]; exact (Nat.le_of_ble_eq_true rfl)), (by rw [hR]; exact (Nat.le_of_ble_eq_true rfl))⟩) hS hP (fun z2 H locs hz2 hP hS => ?_)
  obtain ⟨bz2, imz2, xpz2⟩ := hz2
  refine lv_if_ne (tgt := 10) hx hb dX7_touching_5 (by decide) (fun c5 => ?_) (fun c5 => ?_)
  · have t5 := tq_ne (k := z2.toInt) (q := (0)) c5 rfl (by decide +kernel)
    have i5 := imz2 t5
    refine lv_aload_n hx hb dX7_touching_10 rfl (lv_at hl 0 rfl) ?_
    refine sw_v (Z := (fun I1 J1 => Iv L K x0 m0 tx tm I1 ∧ I1 = I ∧ (∀ c : Fx, okF c → rI Q I p0 c → rJ Q J p0 c → ldA Q J1 p0 c) ∧ (∀ b, ¬ (K b = 25) → J1 b = J b))) (va_runV (As := []) (rest := []) ⟨hx, hb, hml, hown, hts⟩ (s_X7_laysAll l dC dI cs L K G Q hQ x0 m0 tx tm H.size I J hI p0 hLp0 hKp0) (cwV 0 hts (gV pq1427 pq1429 pq40 pq81 pq1430) rfl rfl rfl (by decide +kernel) ⟨(by rw [hR]; exact (Nat.le_of_ble_eq_true rfl)), (by rw [hR]; exact (Nat.le_of_ble_eq_true rfl))⟩) (sP_V hP hD hK hN hLp0 hKp0 rfl rfl) rfl rfl hl.1 rfl (lv_room (Nat.le_of_ble_eq_true rfl)) dX7_touching_11 ⟨(by rw [hR]; exact (Nat.le_of_ble_eq_true rfl)), (by rw [hR]; exact (Nat.le_of_ble_eq_true rfl))⟩) hS hAL hA (fun Iz11 Jz11 H locs hz11 hIz11 hP hS => ?_)
    obtain ⟨hIz11, sm11, jz11, djc11⟩ := hIz11
    have dj_Jz11 : (∀ b, ¬ (K b = 25) → Jz11 b = J b) := fun b hc => (djc11 b (fun z => hc (by omega))).trans (dj_J b hc)
    obtain rfl : I = Iz11 := sm11.symm
    refine lv_aload_n hx hb dX7_touching_14 rfl (lv_at hl 0 rfl) ?_
    refine lv_iload_n hx hb dX7_touching_15 rfl (lv_at hl 1 rfl) ?_
    refine ro_i (va_runV (As := [.int p1]) (rest := []) ⟨hx, hb, hml, hown, hts⟩ (s_X7_touchingOf l dC dI cs L K G Q hQ x0 m0 tx tm H.size I Jz11 hI p0 hLp0 hKp0 p1 ⟨by omega, by omega⟩) (cwV 1 hts (gV pq1444 pq1446 pq43 pq81 pq1447) rfl rfl rfl (by decide +kernel) ⟨(by rw [hR]; exact (Nat.le_of_ble_eq_true rfl)), (by rw [hR]; exact (Nat.le_of_ble_eq_true rfl))⟩) (sP_V hP hD hK hN hLp0 hKp0 rfl rfl) rfl rfl hl.1 rfl (lv_room (Nat.le_of_ble_eq_true rfl)) dX7_touching_16 ⟨(by rw [hR]; exact (Nat.le_of_ble_eq_true rfl)), (by rw [hR]; exact (Nat.le_of_ble_eq_true rfl))⟩) hS hP (fun z16 H locs hz16 hP hS => ?_)
    have xpz16 := hz16
    subst hR; subst hQz
    exact W.iret (v := z16) hx hb hr (fun t ht hW => ⟨⟨z16, (), rfl, (fun σ ok h => by have q := xpz2.1 t5; rw [cm_1 h] at q; have w := xpz16 σ.1 ok (cmA_rI h) (jz11 σ.1 ok (cmA_rI h) (cmA_rJ h)) (by omega); exact ⟨fun _ o => ⟨fun e => (Nat.lt_or_ge o (σ.1.1 1).toInt.toNat).elim (fun a => ⟨a, (w.1 o a).mp e⟩) (fun a => by rw [w.2 o a] at e; cases e), fun e => (w.1 o e.1).mpr e.2⟩, fun e => absurd q e⟩), ⟨I, Jz11, ⟨hI, rfl, (fun σ A => cmA_fr hQ hLp0 hKp0 (fun _ _ => rfl) (fun b hb => dj_Jz11 b (by omega)) rfl A), dj_Jz11⟩, by rw [ht]; exact hP⟩⟩, hS.F ht⟩) hS.2.2 dX7_touching_19
  · have t5 := tq_eq (k := z2.toInt) (q := (0)) c5 rfl (by decide +kernel)
    refine lv_iconst (v := (-1)) hx hb dX7_touching_8 (by decide +kernel) ?_
    subst hR; subst hQz
    exact W.iret (v := (-1)) hx hb hr (fun t ht hW => ⟨⟨(-1), (), rfl, (fun σ ok h => by have q := xpz2.2 t5; rw [cm_1 h] at q; exact ⟨fun w => absurd w q, fun _ => by decide +kernel⟩), ⟨I, J, ⟨hI, rfl, (fun σ A => cmA_fr hQ hLp0 hKp0 (fun _ _ => rfl) (fun _ _ => rfl) rfl A), dj_J⟩, by rw [ht]; exact hP⟩⟩, hS.F ht⟩) hS.2.2 dX7_touching_9

set_option maxHeartbeats 4000000 in
set_option maxRecDepth 100000 in
theorem s_X7_bodiesAt (l : Launch) (dC : Nat → ClassId) (dI : Nat → Nat → Nat) (cs : Nat → ClassId) (L : List Nat) (K G : Nat → Nat) (Q : Nat → Nat → Option Nat) (hQ : Sv L K G Q) (x0 m0 : Nat) (tx : GT) (tm : GT × Int) (sz : Nat) (I : Nat → Nat → Int32) (J : Nat → Nat → Int64) (hI : Iv L K x0 m0 tx tm I) (p0 : Nat) (hLp0 : p0 ∈ L) (hKp0 : K p0 = 7) (p1 : Int32) (p2 : Int32) : Met l yX7_bodiesAt (.code yX7_bodiesAt cX7_bodiesAt 5 (some .int) :: pw) ({ frames := 3, cells := 0, slots := 0, locals := 75 }) (sP (dC, dI) cs [.ref p0, .int p1, .int p2] sz L K I J Q) (va_Qi (fun (r : Int32) (_ : Unit) => (∀ c : Fx, okF c → rI Q I p0 c → rJ Q J p0 c → ∀ o : Nat, hbt r o = true ↔ cvP c p1 p2 o)) (fun _ _ => True) (fun _ => False)) 0 0 (fun _ => False) := by
  refine Met.ofW (cc := cX7_bodiesAt) (maxL := 5) (ret := (some .int)) (by decide +kernel) rfl ?_
  intro p e s m args below meth c s₁ B hml hv
  obtain ⟨rfl, hsz, hP, hK, hD0, hN⟩ := hv
  have hx := B.exec
  have hb := B.bytes
  have hr := B.returns
  have hts := fun w (h : w ∈ pw) => atoms_spec (ws := Cond.code yX7_bodiesAt cX7_bodiesAt 5 (some .int) :: pw) B.pre w (List.mem_cons_of_mem _ h)
  have hown : s.vm.findClass RX7 = some m.cls := findClass_of_methodNamed B.named
  have hlocks := B.notSynchronized
  subst hsz
  have hBB : 999 ≤ tm.2 ∧ tm.2 ≤ 6000000 := hI.2.2.2.2.1
  have hD := hD0
  obtain ⟨H, hHe⟩ : ∃ H : Heap, H = s.heap := ⟨_, rfl⟩
  have hS : va_S (fun _ => False) s.heap H [] := by rw [hHe]; exact va_S.rf
  rw [← hHe] at hP
  have hl := lv_entry ([.ref p0, .int p1, .int p2]) (n := 5) (Nat.le_of_ble_eq_true rfl)
  rw [lg_entry_eq]
  generalize (lg_sl ([.ref p0, .int p1, .int p2]) ++ List.replicate (5 - (lg_sl ([.ref p0, .int p1, .int p2])).length) Slot.unset).toArray = ls at hl ⊢
  have hl : lv_has ls 5 [(0, .ref p0), (1, .int p1), (2, .int p2)] := hl
  rw [← hHe]
  refine namedW (fun R Qz hR hQz => ?_)
  refine lv_iconst (v := 0) hx hb dX7_bodiesAt_0 (by decide +kernel) ?_
  refine lv_istore_n (lv' := [(3, .int 0), (0, .ref p0), (1, .int p1), (2, .int p2)]) hx hb dX7_bodiesAt_1 rfl hl (by decide) rfl (fun ls hl => ?_)
  refine lv_iconst (v := 0) hx hb dX7_bodiesAt_2 (by decide +kernel) ?_
  refine lv_istore (lv' := [(4, .int 0), (3, .int 0), (0, .ref p0), (1, .int p1), (2, .int p2)]) hx hb dX7_bodiesAt_3 hl (by decide) rfl (fun ls hl => ?_)
  have key5 := blocks (fun n => ∀ (v5_3 : Int32) (v5_4 : Int32) (H : Heap) (lo : List Loc) (ls : Array Slot), (11 - v5_4.toInt).toNat = n → ((0) ≤ v5_4.toInt ∧ v5_4.toInt ≤ 10) → (∀ c : Fx, okF c → rI Q I p0 c → rJ Q J p0 c → ∀ o : Nat, hbt v5_3 o = true ↔ o < v5_4.toInt.toNat ∧ cvP c p1 p2 o) → va_P (dC, dI) vwCl (Wd cs L K I J Q) H → va_S (fun _ => False) s.heap H lo → lv_has ls 5 [(0, .ref p0), (1, .int p1), (2, .int p2), (3, .int v5_3), (4, .int v5_4)] → W p l e R s m (([.ref p0, .int p1, .int p2] : List Value).toArray) below meth c H lo 0 0 Qz (F0 m 5 ls [])) (by
    intro n ih5
    intro v5_3 v5_4 H lo ls hmu5 bv5_4 g5 hP hS hl
    refine lv_iload hx hb dX7_bodiesAt_5 (lv_at hl 4 rfl) ?_
    refine lv_aload_n hx hb dX7_bodiesAt_7 rfl (lv_at hl 0 rfl) ?_
    obtain ⟨y8, ey8, hLy8, hKy8⟩ := oQ_7_0 (Sv_at hQ hLp0 hKp0)
    refine p_get (v := .ref y8) hx hb hts inX7 hown hK hP hLp0 hKp0 rfl rfl 0 (by decide) (hts _ pq1115) (congrArg (fun q => some (va_rf q)) ey8) dX7_bodiesAt_8 ?_
    refine lv_iconst (v := 1) hx hb dX7_bodiesAt_11 (by decide +kernel) ?_
    refine p_iald hx hb hK hP 8 hLy8 hKy8 rfl rfl (in_d (by decide +kernel)) dX7_bodiesAt_12 ?_
    refine lv_topi (fun z12 ez12 => ?_)
    have bz12 := rng1 (oR_18 (i := (1 : Int32)) (k := (1)) (by decide +kernel) (Iv_at hI hLy8 hKy8))
    rw [← ez12] at bz12
    refine lv_icmp_ge (tgt := 44) hx hb dX7_bodiesAt_13 (by decide) (fun c13 => ?_) (fun c13 => ?_)
    · have t13 := tq_le (k := z12.toInt) (q := v5_4.toInt) c13 rfl rfl
      refine lv_iload_n hx hb dX7_bodiesAt_44 rfl (lv_at hl 3 rfl) ?_
      subst hR; subst hQz
      exact W.iret (v := v5_3) hx hb hr (fun t ht hW => ⟨⟨v5_3, (), rfl, (fun c ok h hj o => by have en := congrArg Int32.toInt (ez12.trans (show I y8 (1 : Int32).toNatClampNeg = c.1 1 by rw [show y8 = a0 Q p0 0 from (gd_of ey8).symm, show (1 : Int32).toNatClampNeg = 1 from by decide +kernel]; exact h _ (by decide))); exact (g5 c ok h hj o).trans ⟨fun w => w.2, fun w => ⟨by have := w.1; omega, w⟩⟩), trivial⟩, hS.F ht⟩) hS.2.2 dX7_bodiesAt_45
    · have t13 := tq_nle (k := z12.toInt) (q := v5_4.toInt) c13 rfl rfl
      refine lv_iload_n hx hb dX7_bodiesAt_16 rfl (lv_at hl 3 rfl) ?_
      refine lv_aload_n hx hb dX7_bodiesAt_17 rfl (lv_at hl 0 rfl) ?_
      refine lv_iload hx hb dX7_bodiesAt_18 (lv_at hl 4 rfl) ?_
      refine lv_iload_n hx hb dX7_bodiesAt_20 rfl (lv_at hl 1 rfl) ?_
      refine lv_iload_n hx hb dX7_bodiesAt_21 rfl (lv_at hl 2 rfl) ?_
      refine ro_i (va_runV (As := [.int v5_4, .int p1, .int p2]) (rest := [.int v5_3]) ⟨hx, hb, hml, hown, hts⟩ (s_X7_lies l dC dI cs L K G Q hQ x0 m0 tx tm H.size I J hI p0 hLp0 hKp0 v5_4 ⟨by omega, by omega⟩ p1 p2) (cwV 3 hts (gV pq1583 pq1585 pq64 pq81 pq1586) rfl rfl rfl (by decide +kernel) ⟨(by rw [hR]; exact (Nat.le_of_ble_eq_true rfl)), (by rw [hR]; exact (Nat.le_of_ble_eq_true rfl))⟩) (sP_V hP hD hK hN hLp0 hKp0 rfl rfl) rfl rfl hl.1 rfl (lv_room (Nat.le_of_ble_eq_true rfl)) dX7_bodiesAt_22 ⟨(by rw [hR]; exact (Nat.le_of_ble_eq_true rfl)), (by rw [hR]; exact (Nat.le_of_ble_eq_true rfl))⟩) hS hP (fun z22 H locs hz22 hP hS => ?_)
      obtain ⟨bz22, xpz22⟩ := hz22
      have j36 : ∀ (w36_1 : Int32) (H : Heap) (lo : List Loc) (ls : Array Slot), ((z22.toInt = 0 ∧ w36_1 = 0) ∨ (¬ z22.toInt = 0 ∧ ∀ o, hbt w36_1 o = decide (o = v5_4.toInt.toNat))) → va_P (dC, dI) vwCl (Wd cs L K I J Q) H → va_S (fun _ => False) s.heap H lo → lv_has ls 5 [(0, .ref p0), (1, .int p1), (2, .int p2), (3, .int v5_3), (4, .int v5_4)] → W p l e R s m (([.ref p0, .int p1, .int p2] : List Value).toArray) below meth c H lo 0 0 Qz (F0 m 36 ls [.int w36_1, .int v5_3]) := by
        intro w36_1 H lo ls h36 hP hS hl
        refine lv_ior hx hb dX7_bodiesAt_36 ?_
        refine lv_topi (fun z36 ez36 => ?_)
        refine lv_istore_n (lv' := [(3, .int z36), (0, .ref p0), (1, .int p1), (2, .int p2), (4, .int v5_4)]) hx hb dX7_bodiesAt_37 rfl hl (by decide) rfl (fun ls hl => ?_)
        obtain ⟨z38, ez38⟩ : ∃ y : Int32, y = v5_4 + 1 := ⟨_, rfl⟩
        refine lv_iinc (v := z38) (lv' := [(4, .int z38), (3, .int z36), (0, .ref p0), (1, .int p1), (2, .int p2)]) hx hb dX7_bodiesAt_38 hl (k := 4) rfl (by rw [ez38]; rfl) (by decide) rfl (fun ls hl => ?_)
        have bz38 := tq_add (k := v5_4.toInt) (q := 1) ez38 rfl (by decide +kernel) (by omega) (by omega)
        refine lv_goto (tgt := 5) hx hb dX7_bodiesAt_41 (by decide) ?_
        exact ih5 _ (by omega) z36 z38 _ _ _ rfl ⟨by omega, by omega⟩ (fun c ok h hj => by have en := congrArg Int32.toInt (ez12.trans (show I y8 (1 : Int32).toNatClampNeg = c.1 1 by rw [show y8 = a0 Q p0 0 from (gd_of ey8).symm, show (1 : Int32).toNatClampNeg = 1 from by decide +kernel]; exact h _ (by decide))); have w := xpz22 c ok h hj (show v5_4.toInt.toNat < _ by omega); exact h36.elim (fun q => bt_no (by rw [ez36, q.2, Int32.or_zero]; exact g5 c ok h hj) (by omega) (fun r => (w.mpr r.2) q.1)) (fun q => bt_yes (g5 c ok h hj) (by omega) (fun o => by rw [hb_or ez36, q.2]) ⟨by omega, w.mp q.1⟩)) hP hS (lv_sub hl [2, 3, 4, 1, 0] rfl)
      refine lv_if_eq (tgt := 35) hx hb dX7_bodiesAt_25 (by decide) (fun c25 => ?_) (fun c25 => ?_)
      · have t25 := tq_eq (k := z22.toInt) (q := (0)) c25 rfl (by decide +kernel)
        refine lv_iconst (v := 0) hx hb dX7_bodiesAt_35 (by decide +kernel) ?_
        exact j36 0 _ _ _ (Or.inl ⟨t25, rfl⟩) hP hS (lv_sub hl [0, 1, 2, 3, 4] rfl)
      · have t25 := tq_ne (k := z22.toInt) (q := (0)) c25 rfl (by decide +kernel)
        refine lv_iconst (v := 1) hx hb dX7_bodiesAt_28 (by decide +kernel) ?_
        refine lv_iload hx hb dX7_bodiesAt_29 (lv_at hl 4 rfl) ?_
        refine lv_ishl hx hb dX7_bodiesAt_31 ?_
        refine lv_topi (fun z31 ez31 => ?_)
        refine lv_goto (tgt := 36) hx hb dX7_bodiesAt_32 (by decide) ?_
        exact j36 z31 _ _ _ (Or.inr ⟨t25, hb_one ez31 ⟨by omega, by omega⟩⟩) hP hS (lv_sub hl [0, 1, 2, 3, 4] rfl))
  exact key5 _ 0 0 _ _ _ rfl ⟨by decide +kernel, by decide +kernel⟩ (fun c ok h hj o => by rw [hb_0, show (0 : Int32).toInt.toNat = 0 from by decide +kernel]; exact ⟨fun w => (by cases w), fun w => absurd w.1 (Nat.not_lt_zero _)⟩) hP hS (lv_sub hl [2, 3, 4, 1, 0] rfl)

set_option maxHeartbeats 4000000 in
set_option maxRecDepth 100000 in
theorem s_X7_at (l : Launch) (dC : Nat → ClassId) (dI : Nat → Nat → Nat) (cs : Nat → ClassId) (L : List Nat) (K G : Nat → Nat) (Q : Nat → Nat → Option Nat) (hQ : Sv L K G Q) (x0 m0 : Nat) (tx : GT) (tm : GT × Int) (sz : Nat) (I : Nat → Nat → Int32) (J : Nat → Nat → Int64) (hI : Iv L K x0 m0 tx tm I) (p0 : Nat) (hLp0 : p0 ∈ L) (hKp0 : K p0 = 7) (p1 : Int32) (p2 : Int32) : Met l yX7_at (.code yX7_at cX7_at 3 (some .int) :: pw) ({ frames := 4, cells := 0, slots := 0, locals := 99 }) (sP (dC, dI) cs [.ref p0, .int p1, .int p2] sz L K I J Q) (va_Qi (fun (r : Int32) (_ : Unit) => (∀ σ : Sx, okF σ.1 → cmA Q I J p0 σ → atR σ p1 p2 r)) (fun _ _ => True) (fun _ => False)) 0 0 (fun _ => False) := by
  refine Met.ofW (cc := cX7_at) (maxL := 3) (ret := (some .int)) (by decide +kernel) rfl ?_
  intro p e s m args below meth c s₁ B hml hv
  obtain ⟨rfl, hsz, hP, hK, hD0, hN⟩ := hv
  have hx := B.exec
  have hb := B.bytes
  have hr := B.returns
  have hts := fun w (h : w ∈ pw) => atoms_spec (ws := Cond.code yX7_at cX7_at 3 (some .int) :: pw) B.pre w (List.mem_cons_of_mem _ h)
  have hown : s.vm.findClass RX7 = some m.cls := findClass_of_methodNamed B.named
  have hlocks := B.notSynchronized
  subst hsz
  have hBB : 999 ≤ tm.2 ∧ tm.2 ≤ 6000000 := hI.2.2.2.2.1
  have hD := hD0
  obtain ⟨H, hHe⟩ : ∃ H : Heap, H = s.heap := ⟨_, rfl⟩
  have hS : va_S (fun _ => False) s.heap H [] := by rw [hHe]; exact va_S.rf
  rw [← hHe] at hP
  have hl := lv_entry ([.ref p0, .int p1, .int p2]) (n := 3) (Nat.le_of_ble_eq_true rfl)
  rw [lg_entry_eq]
  generalize (lg_sl ([.ref p0, .int p1, .int p2]) ++ List.replicate (3 - (lg_sl ([.ref p0, .int p1, .int p2])).length) Slot.unset).toArray = ls at hl ⊢
  have hl : lv_has ls 3 [(0, .ref p0), (1, .int p1), (2, .int p2)] := hl
  rw [← hHe]
  refine namedW (fun R Qz hR hQz => ?_)
  refine lv_aload_n hx hb dX7_at_0 rfl (lv_at hl 0 rfl) ?_
  refine lv_iload_n hx hb dX7_at_1 rfl (lv_at hl 1 rfl) ?_
  refine lv_iload_n hx hb dX7_at_2 rfl (lv_at hl 2 rfl) ?_
  refine ro_i (va_runV (As := [.int p1, .int p2]) (rest := []) ⟨hx, hb, hml, hown, hts⟩ (s_X7_bodiesAt l dC dI cs L K G Q hQ x0 m0 tx tm H.size I J hI p0 hLp0 hKp0 p1 p2) (cwV 2 hts (gV pq1612 pq1614 pq67 pq81 pq1615) rfl rfl rfl (by decide +kernel) ⟨(by rw [hR]; exact (Nat.le_of_ble_eq_true rfl)), (by rw [hR]; exact (Nat.le_of_ble_eq_true rfl))⟩) (sP_V hP hD hK hN hLp0 hKp0 rfl rfl) rfl rfl hl.1 rfl (lv_room (Nat.le_of_ble_eq_true rfl)) dX7_at_3 ⟨(by rw [hR]; exact (Nat.le_of_ble_eq_true rfl)), (by rw [hR]; exact (Nat.le_of_ble_eq_true rfl))⟩) hS hP (fun z3 H locs hz3 hP hS => ?_)
  have xpz3 := hz3
  subst hR; subst hQz
  exact W.iret (v := z3) hx hb hr (fun t ht hW => ⟨⟨z3, (), rfl, (fun σ ok h => xpz3 σ.1 ok (cmA_rI h) (cmA_rJ h)), trivial⟩, hS.F ht⟩) hS.2.2 dX7_at_6

set_option maxHeartbeats 4000000 in
set_option maxRecDepth 100000 in
theorem s_X7_first (l : Launch) (dC : Nat → ClassId) (dI : Nat → Nat → Nat) (cs : Nat → ClassId) (L : List Nat) (K G : Nat → Nat) (Q : Nat → Nat → Option Nat) (hQ : Sv L K G Q) (x0 m0 : Nat) (tx : GT) (tm : GT × Int) (sz : Nat) (I : Nat → Nat → Int32) (J : Nat → Nat → Int64) (hI : Iv L K x0 m0 tx tm I) (p0 : Nat) (hLp0 : p0 ∈ L) (hKp0 : K p0 = 7) (p1 : Int32) (p2 : Int32) (p3 : Int32) : Met l yX7_first (.code yX7_first cX7_first 7 (some .int) :: pw) ({ frames := 5, cells := 0, slots := 0, locals := 122 }) (sP (dC, dI) cs [.ref p0, .int p1, .int p2, .int p3] sz L K I J Q) (va_Qi (fun (r : Int32) (_ : Unit) => (∀ σ : Sx, okF σ.1 → cmA Q I J p0 σ → fsR σ p1 p2 p3 r)) (fun _ t => sB (dC, dI) cs L K Q (fun I1 J1 => Iv L K x0 m0 tx tm I1 ∧ I1 = I ∧ (∀ σ : Sx, cmA Q I J p0 σ → cmA Q I1 J1 p0 σ) ∧ (∀ b, ¬ (K b = 25) → J1 b = J b)) t) (fun q => q ∈ L ∨ sz ≤ q)) 0 0 (fun q => q ∈ L ∨ sz ≤ q) := by
  refine Met.ofW (cc := cX7_first) (maxL := 7) (ret := (some .int)) (by decide +kernel) rfl ?_
  intro p e s m args below meth c s₁ B hml hv
  obtain ⟨rfl, hsz, hP, hK, hD0, hN⟩ := hv
  have hx := B.exec
  have hb := B.bytes
  have hr := B.returns
  have hts := fun w (h : w ∈ pw) => atoms_spec (ws := Cond.code yX7_first cX7_first 7 (some .int) :: pw) B.pre w (List.mem_cons_of_mem _ h)
  have hown : s.vm.findClass RX7 = some m.cls := findClass_of_methodNamed B.named
  have hlocks := B.notSynchronized
  subst hsz
  have hBB : 999 ≤ tm.2 ∧ tm.2 ≤ 6000000 := hI.2.2.2.2.1
  have dj_J : (∀ b, ¬ (K b = 25) → J b = J b) := fun _ _ => rfl
  obtain ⟨A, hAe⟩ : ∃ A : Nat → Prop, A = (fun q => q ∈ L ∨ s.heap.size ≤ q) := ⟨_, rfl⟩
  rw [← hAe]
  have hAL : ∀ q, q ∈ L → A q := fun q h => by rw [hAe]; exact Or.inl h
  have hA : ∀ q, s.heap.size ≤ q → A q := fun q h => by rw [hAe]; exact Or.inr h
  have hD : ∀ F, va_D A (va_pl L F) := fun F => (hD0 F).weaken (fun k q hk _ => hAL _ (pl_mem hk))
  obtain ⟨H, hHe⟩ : ∃ H : Heap, H = s.heap := ⟨_, rfl⟩
  have hS : va_S A s.heap H [] := by rw [hHe]; exact va_S.rf
  rw [← hHe] at hP
  have hl := lv_entry ([.ref p0, .int p1, .int p2, .int p3]) (n := 7) (Nat.le_of_ble_eq_true rfl)
  rw [lg_entry_eq]
  generalize (lg_sl ([.ref p0, .int p1, .int p2, .int p3]) ++ List.replicate (7 - (lg_sl ([.ref p0, .int p1, .int p2, .int p3])).length) Slot.unset).toArray = ls at hl ⊢
  have hl : lv_has ls 7 [(0, .ref p0), (1, .int p1), (2, .int p2), (3, .int p3)] := hl
  rw [← hHe]
  refine namedW (fun R Qz hR hQz => ?_)
  refine lv_aload_n hx hb dX7_first_0 rfl (lv_at hl 0 rfl) ?_
  refine lv_iload_n hx hb dX7_first_1 rfl (lv_at hl 1 rfl) ?_
  refine lv_iload_n hx hb dX7_first_2 rfl (lv_at hl 2 rfl) ?_
  refine ro_i (va_runV (As := [.int p1, .int p2]) (rest := []) ⟨hx, hb, hml, hown, hts⟩ (s_X7_areTwo l dC dI cs L K G Q hQ x0 m0 tx tm H.size I J hI p0 hLp0 hKp0 p1 p2) (cwV 2 hts (gV pq1571 pq1573 pq62 pq81 pq1574) rfl rfl rfl (by decide +kernel) ⟨(by rw [hR]; exact (Nat.le_of_ble_eq_true rfl)), (by rw [hR]; exact (Nat.le_of_ble_eq_true rfl))⟩) (sP_V hP hD hK hN hLp0 hKp0 rfl rfl) rfl rfl hl.1 rfl (lv_room (Nat.le_of_ble_eq_true rfl)) dX7_first_3 ⟨(by rw [hR]; exact (Nat.le_of_ble_eq_true rfl)), (by rw [hR]; exact (Nat.le_of_ble_eq_true rfl))⟩) hS hP (fun z3 H locs hz3 hP hS => ?_)
  obtain ⟨bz3, imz3, xpz3⟩ := hz3
  refine lv_if_eq (tgt := 21) hx hb dX7_first_6 (by decide) (fun c6 => ?_) (fun c6 => ?_)
  · have t6 := tq_eq (k := z3.toInt) (q := (0)) c6 rfl (by decide +kernel)
    refine lv_iconst (v := (-1)) hx hb dX7_first_21 (by decide +kernel) ?_
    subst hR; subst hQz
    exact W.iret (v := (-1)) hx hb hr (fun t ht hW => ⟨⟨(-1), (), rfl, (fun σ ok h => by have e := cm_1 h; exact ⟨fun w => absurd w (fun w => by first | (have t := w.1; unfold twV at t; rw [← e] at t; exact (xpz3.mpr t) t6) | exact xpz15 t18 ⟨by have a := w.2; omega, by have a := w.2; omega⟩), fun _ => by decide +kernel⟩), ⟨I, J, ⟨hI, rfl, (fun σ A => cmA_fr hQ hLp0 hKp0 (fun _ _ => rfl) (fun _ _ => rfl) rfl A), dj_J⟩, by rw [ht]; exact hP⟩⟩, hS.F ht⟩) hS.2.2 dX7_first_22
  · have t6 := tq_ne (k := z3.toInt) (q := (0)) c6 rfl (by decide +kernel)
    have i6 := imz3 t6
    refine lv_iload_n hx hb dX7_first_9 rfl (lv_at hl 3 rfl) ?_
    refine lv_i2l hx hb dX7_first_10 rfl ?_
    refine lv_topl (fun z10 ez10 => ?_)
    have bz10 := tq_i2l (k := p3.toInt) ez10 rfl
    refine lv_lconst (v := 0) hx hb dX7_first_11 (by decide +kernel) ?_
    refine lv_ldc2 hx hb hown (hts _ pq1620) dX7_first_12 ?_
    refine ro_i (va_runS (As := [.long z10, .long 0, .long 300]) (rest := []) ⟨hx, hb, hml, hown, hts⟩ (s_X7_in l dC dI cs L K Q H.size I J z10 0 300) (va_cwS 3 hts (gS pq1234 pq1235 pq81 pq1236) rfl rfl rfl (by decide +kernel) ⟨(by rw [hR]; exact (Nat.le_of_ble_eq_true rfl)), (by rw [hR]; exact (Nat.le_of_ble_eq_true rfl))⟩) (sP_S hP hD hK hN) rfl rfl hl.1 rfl (lv_room (Nat.le_of_ble_eq_true rfl)) dX7_first_15 ⟨(by rw [hR]; exact (Nat.le_of_ble_eq_true rfl)), (by rw [hR]; exact (Nat.le_of_ble_eq_true rfl))⟩) hS hP (fun z15 H locs hz15 hP hS => ?_)
    have csl15_0 : (0 : Int64).toInt = 0 := by decide +kernel
    have csl15_300 : (300 : Int64).toInt = 300 := by decide +kernel
    obtain ⟨bz15, imz15, xpz15⟩ := hz15
    refine lv_if_ne (tgt := 23) hx hb dX7_first_18 (by decide) (fun c18 => ?_) (fun c18 => ?_)
    · have t18 := tq_ne (k := z15.toInt) (q := (0)) c18 rfl (by decide +kernel)
      have i18 := imz15 t18
      refine lv_aload_n hx hb dX7_first_23 rfl (lv_at hl 0 rfl) ?_
      refine sw_v (Z := (fun I1 J1 => Iv L K x0 m0 tx tm I1 ∧ I1 = I ∧ (∀ c : Fx, okF c → rI Q I p0 c → rJ Q J p0 c → ldA Q J1 p0 c) ∧ (∀ b, ¬ (K b = 25) → J1 b = J b))) (va_runV (As := []) (rest := []) ⟨hx, hb, hml, hown, hts⟩ (s_X7_laysAll l dC dI cs L K G Q hQ x0 m0 tx tm H.size I J hI p0 hLp0 hKp0) (cwV 0 hts (gV pq1427 pq1429 pq40 pq81 pq1430) rfl rfl rfl (by decide +kernel) ⟨(by rw [hR]; exact (Nat.le_of_ble_eq_true rfl)), (by rw [hR]; exact (Nat.le_of_ble_eq_true rfl))⟩) (sP_V hP hD hK hN hLp0 hKp0 rfl rfl) rfl rfl hl.1 rfl (lv_room (Nat.le_of_ble_eq_true rfl)) dX7_first_24 ⟨(by rw [hR]; exact (Nat.le_of_ble_eq_true rfl)), (by rw [hR]; exact (Nat.le_of_ble_eq_true rfl))⟩) hS hAL hA (fun Iz24 Jz24 H locs hz24 hIz24 hP hS => ?_)
      obtain ⟨hIz24, sm24, jz24, djc24⟩ := hIz24
      have dj_Jz24 : (∀ b, ¬ (K b = 25) → Jz24 b = J b) := fun b hc => (djc24 b (fun z => hc (by omega))).trans (dj_J b hc)
      obtain rfl : I = Iz24 := sm24.symm
      refine lv_aload_n hx hb dX7_first_27 rfl (lv_at hl 0 rfl) ?_
      refine lv_iload_n hx hb dX7_first_28 rfl (lv_at hl 1 rfl) ?_
      refine lv_bipush (v := 6) hx hb dX7_first_29 (by decide +kernel) ?_
      refine ro_i (va_runV (As := [.int p1, .int 6]) (rest := []) ⟨hx, hb, hml, hown, hts⟩ (s_X7_of l dC dI cs L K G Q hQ x0 m0 tx tm H.size I Jz24 hI p0 hLp0 hKp0 p1 ⟨by omega, by omega⟩ 6 ⟨by decide +kernel, by decide +kernel⟩) (cwV 2 hts (gV pq1320 pq1322 pq25 pq81 pq1323) rfl rfl rfl (by decide +kernel) ⟨(by rw [hR]; exact (Nat.le_of_ble_eq_true rfl)), (by rw [hR]; exact (Nat.le_of_ble_eq_true rfl))⟩) (sP_V hP hD hK hN hLp0 hKp0 rfl rfl) rfl rfl hl.1 rfl (lv_room (Nat.le_of_ble_eq_true rfl)) dX7_first_31 ⟨(by rw [hR]; exact (Nat.le_of_ble_eq_true rfl)), (by rw [hR]; exact (Nat.le_of_ble_eq_true rfl))⟩) hS hP (fun z31 H locs hz31 hP hS => ?_)
      have cst31_6 : (6 : Int32).toInt = 6 := by decide +kernel
      obtain ⟨fez31, xpz31⟩ := hz31
      have bz31 := xpz31.2.2.2.1 rfl
      refine lv_aload_n hx hb dX7_first_34 rfl (lv_at hl 0 rfl) ?_
      refine lv_iload_n hx hb dX7_first_35 rfl (lv_at hl 2 rfl) ?_
      refine lv_bipush (v := 6) hx hb dX7_first_36 (by decide +kernel) ?_
      refine ro_i (va_runV (As := [.int p2, .int 6]) (rest := [.int z31]) ⟨hx, hb, hml, hown, hts⟩ (s_X7_of l dC dI cs L K G Q hQ x0 m0 tx tm H.size I Jz24 hI p0 hLp0 hKp0 p2 ⟨by omega, by omega⟩ 6 ⟨by decide +kernel, by decide +kernel⟩) (cwV 2 hts (gV pq1320 pq1322 pq25 pq81 pq1323) rfl rfl rfl (by decide +kernel) ⟨(by rw [hR]; exact (Nat.le_of_ble_eq_true rfl)), (by rw [hR]; exact (Nat.le_of_ble_eq_true rfl))⟩) (sP_V hP hD hK hN hLp0 hKp0 rfl rfl) rfl rfl hl.1 rfl (lv_room (Nat.le_of_ble_eq_true rfl)) dX7_first_38 ⟨(by rw [hR]; exact (Nat.le_of_ble_eq_true rfl)), (by rw [hR]; exact (Nat.le_of_ble_eq_true rfl))⟩) hS hP (fun z38 H locs hz38 hP hS => ?_)
      have cst38_6 : (6 : Int32).toInt = 6 := by decide +kernel
      obtain ⟨fez38, xpz38⟩ := hz38
      have bz38 := xpz38.2.2.2.1 rfl
      refine lv_isub hx hb dX7_first_41 ?_
      refine lv_topi (fun z41 ez41 => ?_)
      have bz41 := tq_sub (k := z31.toInt) (q := z38.toInt) ez41 rfl rfl (by omega) (by omega)
      refine lv_istore (lv' := [(4, .int z41), (0, .ref p0), (1, .int p1), (2, .int p2), (3, .int p3)]) hx hb dX7_first_42 hl (by decide) rfl (fun ls hl => ?_)
      refine lv_aload_n hx hb dX7_first_44 rfl (lv_at hl 1 rfl) ?_
      refine lv_iload_n hx hb dX7_first_45 rfl (lv_at hl 2 rfl) ?_
      refine lv_bipush (v := 7) hx hb dX7_first_46 (by decide +kernel) ?_
      refine ro_i (va_runV (As := [.int p1, .int 7]) (rest := []) ⟨hx, hb, hml, hown, hts⟩ (s_X7_of l dC dI cs L K G Q hQ x0 m0 tx tm H.size I Jz24 hI p0 hLp0 hKp0 p1 ⟨by omega, by omega⟩ 7 ⟨by decide +kernel, by decide +kernel⟩) (cwV 2 hts (gV pq1320 pq1322 pq25 pq81 pq1323) rfl rfl rfl (by decide +kernel) ⟨(by rw [hR]; exact (Nat.le_of_ble_eq_true rfl)), (by rw [hR]; exact (Nat.le_of_ble_eq_true rfl))⟩) (sP_V hP hD hK hN hLp0 hKp0 rfl rfl) rfl rfl hl.1 rfl (lv_room (Nat.le_of_ble_eq_true rfl)) dX7_first_48 ⟨(by rw [hR]; exact (Nat.le_of_ble_eq_true rfl)), (by rw [hR]; exact (Nat.le_of_ble_eq_true rfl))⟩) hS hP (fun z48 H locs hz48 hP hS => ?_)
      have cst48_7 : (7 : Int32).toInt = 7 := by decide +kernel
      obtain ⟨fez48, xpz48⟩ := hz48
      have bz48 := xpz48.2.2.2.2 rfl
      refine lv_aload_n hx hb dX7_first_51 rfl (lv_at hl 1 rfl) ?_
      refine lv_iload_n hx hb dX7_first_52 rfl (lv_at hl 3 rfl) ?_
      refine lv_bipush (v := 7) hx hb dX7_first_53 (by decide +kernel) ?_
      refine ro_i (va_runV (As := [.int p2, .int 7]) (rest := [.int z48]) ⟨hx, hb, hml, hown, hts⟩ (s_X7_of l dC dI cs L K G Q hQ x0 m0 tx tm H.size I Jz24 hI p0 hLp0 hKp0 p2 ⟨by omega, by omega⟩ 7 ⟨by decide +kernel, by decide +kernel⟩) (cwV 2 hts (gV pq1320 pq1322 pq25 pq81 pq1323) rfl rfl rfl (by decide +kernel) ⟨(by rw [hR]; exact (Nat.le_of_ble_eq_true rfl)), (by rw [hR]; exact (Nat.le_of_ble_eq_true rfl))⟩) (sP_V hP hD hK hN hLp0 hKp0 rfl rfl) rfl rfl hl.1 rfl (lv_room (Nat.le_of_ble_eq_true rfl)) dX7_first_55 ⟨(by rw [hR]; exact (Nat.le_of_ble_eq_true rfl)), (by rw [hR]; exact (Nat.le_of_ble_eq_true rfl))⟩) hS hP (fun z55 H locs hz55 hP hS => ?_)
      have cst55_7 : (7 : Int32).toInt = 7 := by decide +kernel
      obtain ⟨fez55, xpz55⟩ := hz55
      have bz55 := xpz55.2.2.2.2 rfl
      refine lv_isub hx hb dX7_first_58 ?_
      refine lv_topi (fun z58 ez58 => ?_)
      have bz58 := tq_sub (k := z48.toInt) (q := z55.toInt) ez58 rfl rfl (by omega) (by omega)
      refine lv_istore (lv' := [(5, .int z58), (4, .int z41), (0, .ref p0), (1, .int p1), (2, .int p2), (3, .int p3)]) hx hb dX7_first_59 hl (by decide) rfl (fun ls hl => ?_)
      refine lv_iconst (v := 0) hx hb dX7_first_61 (by decide +kernel) ?_
      refine lv_istore (lv' := [(6, .int 0), (5, .int z58), (4, .int z41), (0, .ref p0), (1, .int p1), (2, .int p2), (3, .int p3)]) hx hb dX7_first_62 hl (by decide) rfl (fun ls hl => ?_)
      have key64 := blocks (fun n => ∀ (v64_6 : Int32) (H : Heap) (lo : List Loc) (ls : Array Slot), (302 - v64_6.toInt).toNat = n → ((0) ≤ v64_6.toInt ∧ v64_6.toInt ≤ 301) → (∀ σ : Sx, okF σ.1 → cmA Q I J p0 σ → ∀ j : Int, 0 ≤ j → j < v64_6.toInt → ¬ gpP σ.1 p1.toInt.toNat p2.toInt.toNat (fv σ 6 p1.toInt.toNat p2.toInt.toNat) (fv σ 7 p1.toInt.toNat p2.toInt.toNat) j) → va_P (dC, dI) vwCl (Wd cs L K I Jz24 Q) H → va_S A s.heap H lo → lv_has ls 7 [(0, .ref p0), (1, .int p1), (2, .int p2), (3, .int p3), (4, .int z41), (5, .int z58), (6, .int v64_6)] → W p l e R s m (([.ref p0, .int p1, .int p2, .int p3] : List Value).toArray) below meth c H lo 0 0 Qz (F0 m 64 ls [])) (by
        intro n ih64
        intro v64_6 H lo ls hmu64 bv64_6 g64 hP hS hl
        refine lv_iload hx hb dX7_first_64 (lv_at hl 6 rfl) ?_
        refine lv_iload_n hx hb dX7_first_66 rfl (lv_at hl 3 rfl) ?_
        refine lv_icmp_gt (tgt := 98) hx hb dX7_first_67 (by decide) (fun c67 => ?_) (fun c67 => ?_)
        · have t67 := tq_lt (k := p3.toInt) (q := v64_6.toInt) c67 rfl rfl
          refine lv_bipush (v := (-2)) hx hb dX7_first_98 (by decide +kernel) ?_
          subst hR; subst hQz
          exact W.iret (v := (-2)) hx hb hr (fun t ht hW => ⟨⟨(-2), (), rfl, (fun σ ok h => by have e := cm_1 h; have t := xpz3.mp t6; rw [e] at t; exact ⟨fun _ => Or.inr ⟨fun j a b => g64 σ ok h j a (by omega), by decide +kernel⟩, fun q => absurd ⟨t, by omega, by omega⟩ q⟩), ⟨I, Jz24, ⟨hI, rfl, (fun σ A => cmA_fr hQ hLp0 hKp0 (fun _ _ => rfl) (fun b hb => dj_Jz24 b (by omega)) rfl A), dj_Jz24⟩, by rw [ht]; exact hP⟩⟩, hS.F ht⟩) hS.2.2 dX7_first_100
        · have t67 := tq_nlt (k := p3.toInt) (q := v64_6.toInt) c67 rfl rfl
          refine lv_aload_n hx hb dX7_first_70 rfl (lv_at hl 0 rfl) ?_
          refine lv_iload_n hx hb dX7_first_71 rfl (lv_at hl 1 rfl) ?_
          refine lv_iload_n hx hb dX7_first_72 rfl (lv_at hl 2 rfl) ?_
          refine lv_iload hx hb dX7_first_73 (lv_at hl 6 rfl) ?_
          refine lv_iload hx hb dX7_first_75 (lv_at hl 4 rfl) ?_
          refine lv_imul hx hb dX7_first_77 ?_
          refine lv_topi (fun z77 ez77 => ?_)
          refine lv_iload hx hb dX7_first_78 (lv_at hl 6 rfl) ?_
          refine lv_iload hx hb dX7_first_80 (lv_at hl 5 rfl) ?_
          refine lv_imul hx hb dX7_first_82 ?_
          refine lv_topi (fun z82 ez82 => ?_)
          have bz82 := mul_bd (a := 301) (b := 40) ez82 ⟨by omega, by omega⟩ ⟨by omega, by omega⟩ (by decide)
          refine ro_i (va_runV (As := [.int p1, .int p2, .int z77, .int z82]) (rest := []) ⟨hx, hb, hml, hown, hts⟩ (s_X7_touches l dC dI cs L K G Q hQ x0 m0 tx tm H.size I Jz24 hI p0 hLp0 hKp0 p1 ⟨by omega, by omega⟩ p2 ⟨by omega, by omega⟩ z77 z82 ⟨by omega, by omega⟩) (cwV 4 hts (gV pq1448 pq1450 pq44 pq81 pq1451) rfl rfl rfl (by decide +kernel) ⟨(by rw [hR]; exact (Nat.le_of_ble_eq_true rfl)), (by rw [hR]; exact (Nat.le_of_ble_eq_true rfl))⟩) (sP_V hP hD hK hN hLp0 hKp0 rfl rfl) rfl rfl hl.1 rfl (lv_room (Nat.le_of_ble_eq_true rfl)) dX7_first_83 ⟨(by rw [hR]; exact (Nat.le_of_ble_eq_true rfl)), (by rw [hR]; exact (Nat.le_of_ble_eq_true rfl))⟩) hS hP (fun z83 H locs hz83 hP hS => ?_)
          obtain ⟨bz83, xpz83⟩ := hz83
          refine lv_if_eq (tgt := 92) hx hb dX7_first_86 (by decide) (fun c86 => ?_) (fun c86 => ?_)
          · have t86 := tq_eq (k := z83.toInt) (q := (0)) c86 rfl (by decide +kernel)
            obtain ⟨z92, ez92⟩ : ∃ y : Int32, y = v64_6 + 1 := ⟨_, rfl⟩
            refine lv_iinc (v := z92) (lv' := [(6, .int z92), (0, .ref p0), (1, .int p1), (2, .int p2), (3, .int p3), (4, .int z41), (5, .int z58)]) hx hb dX7_first_92 hl (k := 6) rfl (by rw [ez92]; rfl) (by decide) rfl (fun ls hl => ?_)
            have bz92 := tq_add (k := v64_6.toInt) (q := 1) ez92 rfl (by decide +kernel) (by omega) (by omega)
            refine lv_goto (tgt := 64) hx hb dX7_first_95 (by decide) ?_
            exact ih64 _ (by omega) z92 _ _ _ rfl ⟨by omega, by omega⟩ (fun σ ok h j a b => by have e := cm_1 h; have t := xpz3.mp t6; rw [e] at t; have e41 : z41.toInt = fv σ 6 p1.toInt.toNat p2.toInt.toNat := (by unfold fv; rw [bz41, congrArg Int32.toInt ((show z31 = I (a0 Q p0 0) (19 + 8 * p1.toInt.toNat + 6) from fez31).trans (cmA_n h (by omega))), congrArg Int32.toInt ((show z38 = I (a0 Q p0 0) (19 + 8 * p2.toInt.toNat + 6) from fez38).trans (cmA_n h (by omega)))]); have e58 : z58.toInt = fv σ 7 p1.toInt.toNat p2.toInt.toNat := (by unfold fv; rw [bz58, congrArg Int32.toInt ((show z48 = I (a0 Q p0 0) (19 + 8 * p1.toInt.toNat + 7) from fez48).trans (cmA_n h (by omega))), congrArg Int32.toInt ((show z55 = I (a0 Q p0 0) (19 + 8 * p2.toInt.toNat + 7) from fez55).trans (cmA_n h (by omega)))]); have m1 := mul_40 ez77 ⟨by omega, by omega⟩ ⟨by omega, by omega⟩; have m2 := mul_40 ez82 ⟨by omega, by omega⟩ ⟨by omega, by omega⟩; have w := xpz83 σ.1 ok (cmA_rI h) (jz24 σ.1 ok (cmA_rI h) (cmA_rJ h)) (show p1.toInt.toNat < _ by omega) (show p2.toInt.toNat < _ by omega) ⟨⟨by omega, by omega⟩, by omega, by omega⟩; rw [m1.1, m2.1, e41, e58] at w; rcases Int.lt_or_le j v64_6.toInt with q | q; (exact g64 σ ok h j a q); (obtain rfl : j = v64_6.toInt := by omega); exact fun e => (w.mpr ⟨by omega, e⟩) t86) hP hS (lv_sub hl [1, 2, 3, 4, 5, 6, 0] rfl)
          · have t86 := tq_ne (k := z83.toInt) (q := (0)) c86 rfl (by decide +kernel)
            refine lv_iload hx hb dX7_first_89 (lv_at hl 6 rfl) ?_
            subst hR; subst hQz
            exact W.iret (v := v64_6) hx hb hr (fun t ht hW => ⟨⟨v64_6, (), rfl, (fun σ ok h => by have e := cm_1 h; have t := xpz3.mp t6; rw [e] at t; have e41 : z41.toInt = fv σ 6 p1.toInt.toNat p2.toInt.toNat := (by unfold fv; rw [bz41, congrArg Int32.toInt ((show z31 = I (a0 Q p0 0) (19 + 8 * p1.toInt.toNat + 6) from fez31).trans (cmA_n h (by omega))), congrArg Int32.toInt ((show z38 = I (a0 Q p0 0) (19 + 8 * p2.toInt.toNat + 6) from fez38).trans (cmA_n h (by omega)))]); have e58 : z58.toInt = fv σ 7 p1.toInt.toNat p2.toInt.toNat := (by unfold fv; rw [bz58, congrArg Int32.toInt ((show z48 = I (a0 Q p0 0) (19 + 8 * p1.toInt.toNat + 7) from fez48).trans (cmA_n h (by omega))), congrArg Int32.toInt ((show z55 = I (a0 Q p0 0) (19 + 8 * p2.toInt.toNat + 7) from fez55).trans (cmA_n h (by omega)))]); have m1 := mul_40 ez77 ⟨by omega, by omega⟩ ⟨by omega, by omega⟩; have m2 := mul_40 ez82 ⟨by omega, by omega⟩ ⟨by omega, by omega⟩; have w := xpz83 σ.1 ok (cmA_rI h) (jz24 σ.1 ok (cmA_rI h) (cmA_rJ h)) (show p1.toInt.toNat < _ by omega) (show p2.toInt.toNat < _ by omega) ⟨⟨by omega, by omega⟩, by omega, by omega⟩; rw [m1.1, m2.1, e41, e58] at w; exact ⟨fun _ => Or.inl ⟨v64_6.toInt, ⟨by omega, by omega⟩, (w.mp t86).2, g64 σ ok h, rfl⟩, fun q => absurd ⟨t, by omega, by omega⟩ q⟩), ⟨I, Jz24, ⟨hI, rfl, (fun σ A => cmA_fr hQ hLp0 hKp0 (fun _ _ => rfl) (fun b hb => dj_Jz24 b (by omega)) rfl A), dj_Jz24⟩, by rw [ht]; exact hP⟩⟩, hS.F ht⟩) hS.2.2 dX7_first_91)
      exact key64 _ 0 _ _ _ rfl ⟨by decide +kernel, by decide +kernel⟩ (fun σ ok h j a b => absurd b (by rw [show (0 : Int32).toInt = 0 from by decide +kernel]; omega)) hP hS (lv_sub hl [3, 4, 5, 6, 2, 1, 0] rfl)
    · have t18 := tq_eq (k := z15.toInt) (q := (0)) c18 rfl (by decide +kernel)
      refine lv_iconst (v := (-1)) hx hb dX7_first_21 (by decide +kernel) ?_
      subst hR; subst hQz
      exact W.iret (v := (-1)) hx hb hr (fun t ht hW => ⟨⟨(-1), (), rfl, (fun σ ok h => by have e := cm_1 h; exact ⟨fun w => absurd w (fun w => by first | (have t := w.1; unfold twV at t; rw [← e] at t; exact (xpz3.mpr t) t6) | exact xpz15 t18 ⟨by have a := w.2; omega, by have a := w.2; omega⟩), fun _ => by decide +kernel⟩), ⟨I, J, ⟨hI, rfl, (fun σ A => cmA_fr hQ hLp0 hKp0 (fun _ _ => rfl) (fun _ _ => rfl) rfl A), dj_J⟩, by rw [ht]; exact hP⟩⟩, hS.F ht⟩) hS.2.2 dX7_first_22

set_option maxHeartbeats 4000000 in
set_option maxRecDepth 100000 in
theorem s_X7_gap (l : Launch) (dC : Nat → ClassId) (dI : Nat → Nat → Nat) (cs : Nat → ClassId) (L : List Nat) (K G : Nat → Nat) (Q : Nat → Nat → Option Nat) (hQ : Sv L K G Q) (x0 m0 : Nat) (tx : GT) (tm : GT × Int) (sz : Nat) (I : Nat → Nat → Int32) (J : Nat → Nat → Int64) (hI : Iv L K x0 m0 tx tm I) (p0 : Nat) (hLp0 : p0 ∈ L) (hKp0 : K p0 = 7) (p1 : Int32) (p2 : Int32) (p3 : Int32) : Met l yX7_gap (.code yX7_gap cX7_gap 5 (some .int) :: pw) ({ frames := 5, cells := 0, slots := 0, locals := 122 }) (sP (dC, dI) cs [.ref p0, .int p1, .int p2, .int p3] sz L K I J Q) (va_Qi (fun (r : Int32) (_ : Unit) => (∀ σ : Sx, okF σ.1 → cmA Q I J p0 σ → gaR σ p1 p2 p3 r)) (fun _ t => sB (dC, dI) cs L K Q (fun I1 J1 => Iv L K x0 m0 tx tm I1 ∧ I1 = I ∧ (∀ σ : Sx, cmA Q I J p0 σ → cmA Q I1 J1 p0 σ) ∧ (∀ b, ¬ (K b = 25) → J1 b = J b)) t) (fun q => q ∈ L ∨ sz ≤ q)) 0 0 (fun q => q ∈ L ∨ sz ≤ q) := by
  refine Met.ofW (cc := cX7_gap) (maxL := 5) (ret := (some .int)) (by decide +kernel) rfl ?_
  intro p e s m args below meth c s₁ B hml hv
  obtain ⟨rfl, hsz, hP, hK, hD0, hN⟩ := hv
  have hx := B.exec
  have hb := B.bytes
  have hr := B.returns
  have hts := fun w (h : w ∈ pw) => atoms_spec (ws := Cond.code yX7_gap cX7_gap 5 (some .int) :: pw) B.pre w (List.mem_cons_of_mem _ h)
  have hown : s.vm.findClass RX7 = some m.cls := findClass_of_methodNamed B.named
  have hlocks := B.notSynchronized
  subst hsz
  have hBB : 999 ≤ tm.2 ∧ tm.2 ≤ 6000000 := hI.2.2.2.2.1
  have dj_J : (∀ b, ¬ (K b = 25) → J b = J b) := fun _ _ => rfl
  obtain ⟨A, hAe⟩ : ∃ A : Nat → Prop, A = (fun q => q ∈ L ∨ s.heap.size ≤ q) := ⟨_, rfl⟩
  rw [← hAe]
  have hAL : ∀ q, q ∈ L → A q := fun q h => by rw [hAe]; exact Or.inl h
  have hA : ∀ q, s.heap.size ≤ q → A q := fun q h => by rw [hAe]; exact Or.inr h
  have hD : ∀ F, va_D A (va_pl L F) := fun F => (hD0 F).weaken (fun k q hk _ => hAL _ (pl_mem hk))
  obtain ⟨H, hHe⟩ : ∃ H : Heap, H = s.heap := ⟨_, rfl⟩
  have hS : va_S A s.heap H [] := by rw [hHe]; exact va_S.rf
  rw [← hHe] at hP
  have hl := lv_entry ([.ref p0, .int p1, .int p2, .int p3]) (n := 5) (Nat.le_of_ble_eq_true rfl)
  rw [lg_entry_eq]
  generalize (lg_sl ([.ref p0, .int p1, .int p2, .int p3]) ++ List.replicate (5 - (lg_sl ([.ref p0, .int p1, .int p2, .int p3])).length) Slot.unset).toArray = ls at hl ⊢
  have hl : lv_has ls 5 [(0, .ref p0), (1, .int p1), (2, .int p2), (3, .int p3)] := hl
  rw [← hHe]
  refine namedW (fun R Qz hR hQz => ?_)
  refine lv_aload_n hx hb dX7_gap_0 rfl (lv_at hl 0 rfl) ?_
  refine lv_iload_n hx hb dX7_gap_1 rfl (lv_at hl 1 rfl) ?_
  refine lv_iload_n hx hb dX7_gap_2 rfl (lv_at hl 2 rfl) ?_
  refine ro_i (va_runV (As := [.int p1, .int p2]) (rest := []) ⟨hx, hb, hml, hown, hts⟩ (s_X7_areTwo l dC dI cs L K G Q hQ x0 m0 tx tm H.size I J hI p0 hLp0 hKp0 p1 p2) (cwV 2 hts (gV pq1571 pq1573 pq62 pq81 pq1574) rfl rfl rfl (by decide +kernel) ⟨(by rw [hR]; exact (Nat.le_of_ble_eq_true rfl)), (by rw [hR]; exact (Nat.le_of_ble_eq_true rfl))⟩) (sP_V hP hD hK hN hLp0 hKp0 rfl rfl) rfl rfl hl.1 rfl (lv_room (Nat.le_of_ble_eq_true rfl)) dX7_gap_3 ⟨(by rw [hR]; exact (Nat.le_of_ble_eq_true rfl)), (by rw [hR]; exact (Nat.le_of_ble_eq_true rfl))⟩) hS hP (fun z3 H locs hz3 hP hS => ?_)
  obtain ⟨bz3, imz3, xpz3⟩ := hz3
  refine lv_if_eq (tgt := 21) hx hb dX7_gap_6 (by decide) (fun c6 => ?_) (fun c6 => ?_)
  · have t6 := tq_eq (k := z3.toInt) (q := (0)) c6 rfl (by decide +kernel)
    refine lv_iconst (v := (-1)) hx hb dX7_gap_21 (by decide +kernel) ?_
    subst hR; subst hQz
    exact W.iret (v := (-1)) hx hb hr (fun t ht hW => ⟨⟨(-1), (), rfl, (fun σ ok h => by have e := cm_1 h; exact ⟨fun w => absurd w (fun w => by first | (have t := w.1; unfold twV at t; rw [← e] at t; exact (xpz3.mpr t) t6) | exact xpz15 t18 ⟨by have a := w.2; omega, by have a := w.2; omega⟩), fun _ => by decide +kernel⟩), ⟨I, J, ⟨hI, rfl, (fun σ A => cmA_fr hQ hLp0 hKp0 (fun _ _ => rfl) (fun _ _ => rfl) rfl A), dj_J⟩, by rw [ht]; exact hP⟩⟩, hS.F ht⟩) hS.2.2 dX7_gap_22
  · have t6 := tq_ne (k := z3.toInt) (q := (0)) c6 rfl (by decide +kernel)
    have i6 := imz3 t6
    refine lv_iload_n hx hb dX7_gap_9 rfl (lv_at hl 3 rfl) ?_
    refine lv_i2l hx hb dX7_gap_10 rfl ?_
    refine lv_topl (fun z10 ez10 => ?_)
    have bz10 := tq_i2l (k := p3.toInt) ez10 rfl
    refine lv_lconst (v := 0) hx hb dX7_gap_11 (by decide +kernel) ?_
    refine lv_ldc2 hx hb hown (hts _ pq1344) dX7_gap_12 ?_
    refine ro_i (va_runS (As := [.long z10, .long 0, .long 3]) (rest := []) ⟨hx, hb, hml, hown, hts⟩ (s_X7_in l dC dI cs L K Q H.size I J z10 0 3) (va_cwS 3 hts (gS pq1234 pq1235 pq81 pq1236) rfl rfl rfl (by decide +kernel) ⟨(by rw [hR]; exact (Nat.le_of_ble_eq_true rfl)), (by rw [hR]; exact (Nat.le_of_ble_eq_true rfl))⟩) (sP_S hP hD hK hN) rfl rfl hl.1 rfl (lv_room (Nat.le_of_ble_eq_true rfl)) dX7_gap_15 ⟨(by rw [hR]; exact (Nat.le_of_ble_eq_true rfl)), (by rw [hR]; exact (Nat.le_of_ble_eq_true rfl))⟩) hS hP (fun z15 H locs hz15 hP hS => ?_)
    have csl15_0 : (0 : Int64).toInt = 0 := by decide +kernel
    have csl15_3 : (3 : Int64).toInt = 3 := by decide +kernel
    obtain ⟨bz15, imz15, xpz15⟩ := hz15
    refine lv_if_ne (tgt := 23) hx hb dX7_gap_18 (by decide) (fun c18 => ?_) (fun c18 => ?_)
    · have t18 := tq_ne (k := z15.toInt) (q := (0)) c18 rfl (by decide +kernel)
      have i18 := imz15 t18
      refine lv_aload_n hx hb dX7_gap_23 rfl (lv_at hl 0 rfl) ?_
      refine sw_v (Z := (fun I1 J1 => Iv L K x0 m0 tx tm I1 ∧ I1 = I ∧ (∀ c : Fx, okF c → rI Q I p0 c → rJ Q J p0 c → ldA Q J1 p0 c) ∧ (∀ b, ¬ (K b = 25) → J1 b = J b))) (va_runV (As := []) (rest := []) ⟨hx, hb, hml, hown, hts⟩ (s_X7_laysAll l dC dI cs L K G Q hQ x0 m0 tx tm H.size I J hI p0 hLp0 hKp0) (cwV 0 hts (gV pq1427 pq1429 pq40 pq81 pq1430) rfl rfl rfl (by decide +kernel) ⟨(by rw [hR]; exact (Nat.le_of_ble_eq_true rfl)), (by rw [hR]; exact (Nat.le_of_ble_eq_true rfl))⟩) (sP_V hP hD hK hN hLp0 hKp0 rfl rfl) rfl rfl hl.1 rfl (lv_room (Nat.le_of_ble_eq_true rfl)) dX7_gap_24 ⟨(by rw [hR]; exact (Nat.le_of_ble_eq_true rfl)), (by rw [hR]; exact (Nat.le_of_ble_eq_true rfl))⟩) hS hAL hA (fun Iz24 Jz24 H locs hz24 hIz24 hP hS => ?_)
      obtain ⟨hIz24, sm24, jz24, djc24⟩ := hIz24
      have dj_Jz24 : (∀ b, ¬ (K b = 25) → Jz24 b = J b) := fun b hc => (djc24 b (fun z => hc (by omega))).trans (dj_J b hc)
      obtain rfl : I = Iz24 := sm24.symm
      refine lv_iconst (v := 0) hx hb dX7_gap_27 (by decide +kernel) ?_
      refine lv_istore (lv' := [(4, .int 0), (0, .ref p0), (1, .int p1), (2, .int p2), (3, .int p3)]) hx hb dX7_gap_28 hl (by decide) rfl (fun ls hl => ?_)
      have key30 := blocks (fun n => ∀ (v30_4 : Int32) (H : Heap) (lo : List Loc) (ls : Array Slot), (502 - v30_4.toInt).toNat = n → ((0) ≤ v30_4.toInt ∧ v30_4.toInt ≤ 501) → (∀ σ : Sx, okF σ.1 → cmA Q I J p0 σ → ∀ j : Int, 0 ≤ j → j < v30_4.toInt → ¬ gpP σ.1 p1.toInt.toNat p2.toInt.toNat (gx p3.toInt) (gy p3.toInt) j) → va_P (dC, dI) vwCl (Wd cs L K I Jz24 Q) H → va_S A s.heap H lo → lv_has ls 5 [(0, .ref p0), (1, .int p1), (2, .int p2), (3, .int p3), (4, .int v30_4)] → W p l e R s m (([.ref p0, .int p1, .int p2, .int p3] : List Value).toArray) below meth c H lo 0 0 Qz (F0 m 30 ls [])) (by
        intro n ih30
        intro v30_4 H lo ls hmu30 bv30_4 g30 hP hS hl
        refine lv_iload hx hb dX7_gap_30 (lv_at hl 4 rfl) ?_
        refine lv_sipush (v := 500) hx hb dX7_gap_32 (by decide +kernel) ?_
        refine lv_icmp_gt (tgt := 99) hx hb dX7_gap_35 (by decide) (fun c35 => ?_) (fun c35 => ?_)
        · have t35 := tq_lt (k := (500)) (q := v30_4.toInt) c35 (by decide +kernel) rfl
          refine lv_bipush (v := (-2)) hx hb dX7_gap_99 (by decide +kernel) ?_
          subst hR; subst hQz
          exact W.iret (v := (-2)) hx hb hr (fun t ht hW => ⟨⟨(-2), (), rfl, (fun σ ok h => by have e := cm_1 h; have t := xpz3.mp t6; rw [e] at t; exact ⟨fun _ => Or.inr ⟨fun j a b => g30 σ ok h j a (by omega), by decide +kernel⟩, fun q => absurd ⟨t, by omega, by omega⟩ q⟩), ⟨I, Jz24, ⟨hI, rfl, (fun σ A => cmA_fr hQ hLp0 hKp0 (fun _ _ => rfl) (fun b hb => dj_Jz24 b (by omega)) rfl A), dj_Jz24⟩, by rw [ht]; exact hP⟩⟩, hS.F ht⟩) hS.2.2 dX7_gap_101
        · have t35 := tq_nlt (k := (500)) (q := v30_4.toInt) c35 (by decide +kernel) rfl
          refine lv_aload_n hx hb dX7_gap_38 rfl (lv_at hl 0 rfl) ?_
          refine lv_iload_n hx hb dX7_gap_39 rfl (lv_at hl 1 rfl) ?_
          refine lv_iload_n hx hb dX7_gap_40 rfl (lv_at hl 2 rfl) ?_
          refine lv_iload_n hx hb dX7_gap_41 rfl (lv_at hl 3 rfl) ?_
          have j62 : ∀ (w62_3 : Int32) (H : Heap) (lo : List Loc) (ls : Array Slot), ((-500) ≤ w62_3.toInt ∧ w62_3.toInt ≤ 500) → w62_3.toInt = v30_4.toInt * gx p3.toInt → va_P (dC, dI) vwCl (Wd cs L K I Jz24 Q) H → va_S A s.heap H lo → lv_has ls 5 [(0, .ref p0), (1, .int p1), (2, .int p2), (3, .int p3), (4, .int v30_4)] → W p l e R s m (([.ref p0, .int p1, .int p2, .int p3] : List Value).toArray) below meth c H lo 0 0 Qz (F0 m 62 ls [.int w62_3, .int p2, .int p1, .ref p0]) := by
            intro w62_3 H lo ls bw62_3 g62 hP hS hl
            refine lv_iload_n hx hb dX7_gap_62 rfl (lv_at hl 3 rfl) ?_
            refine lv_iconst (v := 2) hx hb dX7_gap_63 (by decide +kernel) ?_
            have j84 : ∀ (w84_4 : Int32) (H : Heap) (lo : List Loc) (ls : Array Slot), ((-500) ≤ w84_4.toInt ∧ w84_4.toInt ≤ 500) → w84_4.toInt = v30_4.toInt * gy p3.toInt → va_P (dC, dI) vwCl (Wd cs L K I Jz24 Q) H → va_S A s.heap H lo → lv_has ls 5 [(0, .ref p0), (1, .int p1), (2, .int p2), (3, .int p3), (4, .int v30_4)] → W p l e R s m (([.ref p0, .int p1, .int p2, .int p3] : List Value).toArray) below meth c H lo 0 0 Qz (F0 m 84 ls [.int w84_4, .int w62_3, .int p2, .int p1, .ref p0]) := by
              intro w84_4 H lo ls bw84_4 g84 hP hS hl
              refine ro_i (va_runV (As := [.int p1, .int p2, .int w62_3, .int w84_4]) (rest := []) ⟨hx, hb, hml, hown, hts⟩ (s_X7_touches l dC dI cs L K G Q hQ x0 m0 tx tm H.size I Jz24 hI p0 hLp0 hKp0 p1 ⟨by omega, by omega⟩ p2 ⟨by omega, by omega⟩ w62_3 w84_4 ⟨by omega, by omega⟩) (cwV 4 hts (gV pq1448 pq1450 pq44 pq81 pq1451) rfl rfl rfl (by decide +kernel) ⟨(by rw [hR]; exact (Nat.le_of_ble_eq_true rfl)), (by rw [hR]; exact (Nat.le_of_ble_eq_true rfl))⟩) (sP_V hP hD hK hN hLp0 hKp0 rfl rfl) rfl rfl hl.1 rfl (lv_room (Nat.le_of_ble_eq_true rfl)) dX7_gap_84 ⟨(by rw [hR]; exact (Nat.le_of_ble_eq_true rfl)), (by rw [hR]; exact (Nat.le_of_ble_eq_true rfl))⟩) hS hP (fun z84 H locs hz84 hP hS => ?_)
              obtain ⟨bz84, xpz84⟩ := hz84
              refine lv_if_eq (tgt := 93) hx hb dX7_gap_87 (by decide) (fun c87 => ?_) (fun c87 => ?_)
              · have t87 := tq_eq (k := z84.toInt) (q := (0)) c87 rfl (by decide +kernel)
                obtain ⟨z93, ez93⟩ : ∃ y : Int32, y = v30_4 + 1 := ⟨_, rfl⟩
                refine lv_iinc (v := z93) (lv' := [(4, .int z93), (0, .ref p0), (1, .int p1), (2, .int p2), (3, .int p3)]) hx hb dX7_gap_93 hl (k := 4) rfl (by rw [ez93]; rfl) (by decide) rfl (fun ls hl => ?_)
                have bz93 := tq_add (k := v30_4.toInt) (q := 1) ez93 rfl (by decide +kernel) (by omega) (by omega)
                refine lv_goto (tgt := 30) hx hb dX7_gap_96 (by decide) ?_
                exact ih30 _ (by omega) z93 _ _ _ rfl ⟨by omega, by omega⟩ (fun σ ok h j a b => by have e := cm_1 h; have t := xpz3.mp t6; rw [e] at t; have w := xpz84 σ.1 ok (cmA_rI h) (jz24 σ.1 ok (cmA_rI h) (cmA_rJ h)) (show p1.toInt.toNat < _ by omega) (show p2.toInt.toNat < _ by omega) ⟨⟨by omega, by omega⟩, by omega, by omega⟩; rw [g62, g84] at w; rcases Int.lt_or_le j v30_4.toInt with q | q; (exact g30 σ ok h j a q); (obtain rfl : j = v30_4.toInt := by omega); exact fun e => (w.mpr ⟨by omega, e⟩) t87) hP hS (lv_sub hl [1, 2, 3, 4, 0] rfl)
              · have t87 := tq_ne (k := z84.toInt) (q := (0)) c87 rfl (by decide +kernel)
                refine lv_iload hx hb dX7_gap_90 (lv_at hl 4 rfl) ?_
                subst hR; subst hQz
                exact W.iret (v := v30_4) hx hb hr (fun t ht hW => ⟨⟨v30_4, (), rfl, (fun σ ok h => by have e := cm_1 h; have t := xpz3.mp t6; rw [e] at t; have w := xpz84 σ.1 ok (cmA_rI h) (jz24 σ.1 ok (cmA_rI h) (cmA_rJ h)) (show p1.toInt.toNat < _ by omega) (show p2.toInt.toNat < _ by omega) ⟨⟨by omega, by omega⟩, by omega, by omega⟩; rw [g62, g84] at w; exact ⟨fun _ => Or.inl ⟨v30_4.toInt, ⟨by omega, by omega⟩, (w.mp t87).2, g30 σ ok h, rfl⟩, fun q => absurd ⟨t, by omega, by omega⟩ q⟩), ⟨I, Jz24, ⟨hI, rfl, (fun σ A => cmA_fr hQ hLp0 hKp0 (fun _ _ => rfl) (fun b hb => dj_Jz24 b (by omega)) rfl A), dj_Jz24⟩, by rw [ht]; exact hP⟩⟩, hS.F ht⟩) hS.2.2 dX7_gap_92
            refine lv_icmp_ne (tgt := 72) hx hb dX7_gap_64 (by decide) (fun c64 => ?_) (fun c64 => ?_)
            · have t64 := tq_ne (k := p3.toInt) (q := (2)) c64 rfl (by decide +kernel)
              refine lv_iload_n hx hb dX7_gap_72 rfl (lv_at hl 3 rfl) ?_
              refine lv_iconst (v := 3) hx hb dX7_gap_73 (by decide +kernel) ?_
              refine lv_icmp_ne (tgt := 83) hx hb dX7_gap_74 (by decide) (fun c74 => ?_) (fun c74 => ?_)
              · have t74 := tq_ne (k := p3.toInt) (q := (3)) c74 rfl (by decide +kernel)
                refine lv_iconst (v := 0) hx hb dX7_gap_83 (by decide +kernel) ?_
                exact j84 0 _ _ _ ⟨by decide +kernel, by decide +kernel⟩ (by unfold gy; rw [if_neg t64, if_neg t74, Int.mul_zero]; decide +kernel) hP hS (lv_sub hl [0, 1, 2, 3, 4] rfl)
              · have t74 := tq_eq (k := p3.toInt) (q := (3)) c74 rfl (by decide +kernel)
                refine lv_iload hx hb dX7_gap_77 (lv_at hl 4 rfl) ?_
                refine lv_ineg hx hb dX7_gap_79 ?_
                refine lv_topi (fun z79 ez79 => ?_)
                have bz79 := tq_neg (k := v30_4.toInt) ez79 rfl (by omega) (by omega)
                refine lv_goto (tgt := 84) hx hb dX7_gap_80 (by decide) ?_
                exact j84 z79 _ _ _ ⟨by omega, by omega⟩ (by unfold gy; rw [if_neg t64, if_pos t74]; omega) hP hS (lv_sub hl [0, 1, 2, 3, 4] rfl)
            · have t64 := tq_eq (k := p3.toInt) (q := (2)) c64 rfl (by decide +kernel)
              refine lv_iload hx hb dX7_gap_67 (lv_at hl 4 rfl) ?_
              refine lv_goto (tgt := 84) hx hb dX7_gap_69 (by decide) ?_
              exact j84 v30_4 _ _ _ ⟨by omega, by omega⟩ (by unfold gy; rw [if_pos t64]; omega) hP hS (lv_sub hl [0, 1, 2, 3, 4] rfl)
          refine lv_if_ne (tgt := 50) hx hb dX7_gap_42 (by decide) (fun c42 => ?_) (fun c42 => ?_)
          · have t42 := tq_ne (k := p3.toInt) (q := (0)) c42 rfl (by decide +kernel)
            refine lv_iload_n hx hb dX7_gap_50 rfl (lv_at hl 3 rfl) ?_
            refine lv_iconst (v := 1) hx hb dX7_gap_51 (by decide +kernel) ?_
            refine lv_icmp_ne (tgt := 61) hx hb dX7_gap_52 (by decide) (fun c52 => ?_) (fun c52 => ?_)
            · have t52 := tq_ne (k := p3.toInt) (q := (1)) c52 rfl (by decide +kernel)
              refine lv_iconst (v := 0) hx hb dX7_gap_61 (by decide +kernel) ?_
              exact j62 0 _ _ _ ⟨by decide +kernel, by decide +kernel⟩ (by unfold gx; rw [if_neg t42, if_neg t52, Int.mul_zero]; decide +kernel) hP hS (lv_sub hl [0, 1, 2, 3, 4] rfl)
            · have t52 := tq_eq (k := p3.toInt) (q := (1)) c52 rfl (by decide +kernel)
              refine lv_iload hx hb dX7_gap_55 (lv_at hl 4 rfl) ?_
              refine lv_ineg hx hb dX7_gap_57 ?_
              refine lv_topi (fun z57 ez57 => ?_)
              have bz57 := tq_neg (k := v30_4.toInt) ez57 rfl (by omega) (by omega)
              refine lv_goto (tgt := 62) hx hb dX7_gap_58 (by decide) ?_
              exact j62 z57 _ _ _ ⟨by omega, by omega⟩ (by unfold gx; rw [if_neg t42, if_pos t52]; omega) hP hS (lv_sub hl [0, 1, 2, 3, 4] rfl)
          · have t42 := tq_eq (k := p3.toInt) (q := (0)) c42 rfl (by decide +kernel)
            refine lv_iload hx hb dX7_gap_45 (lv_at hl 4 rfl) ?_
            refine lv_goto (tgt := 62) hx hb dX7_gap_47 (by decide) ?_
            exact j62 v30_4 _ _ _ ⟨by omega, by omega⟩ (by unfold gx; rw [if_pos t42]; omega) hP hS (lv_sub hl [0, 1, 2, 3, 4] rfl))
      exact key30 _ 0 _ _ _ rfl ⟨by decide +kernel, by decide +kernel⟩ (fun σ ok h j a b => absurd b (by rw [show (0 : Int32).toInt = 0 from by decide +kernel]; omega)) hP hS (lv_sub hl [1, 2, 3, 4, 0] rfl)
    · have t18 := tq_eq (k := z15.toInt) (q := (0)) c18 rfl (by decide +kernel)
      refine lv_iconst (v := (-1)) hx hb dX7_gap_21 (by decide +kernel) ?_
      subst hR; subst hQz
      exact W.iret (v := (-1)) hx hb hr (fun t ht hW => ⟨⟨(-1), (), rfl, (fun σ ok h => by have e := cm_1 h; exact ⟨fun w => absurd w (fun w => by first | (have t := w.1; unfold twV at t; rw [← e] at t; exact (xpz3.mpr t) t6) | exact xpz15 t18 ⟨by have a := w.2; omega, by have a := w.2; omega⟩), fun _ => by decide +kernel⟩), ⟨I, J, ⟨hI, rfl, (fun σ A => cmA_fr hQ hLp0 hKp0 (fun _ _ => rfl) (fun _ _ => rfl) rfl A), dj_J⟩, by rw [ht]; exact hP⟩⟩, hS.F ht⟩) hS.2.2 dX7_gap_22
