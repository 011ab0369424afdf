def yX7_number : MethodName := ⟨RX7, "number", "(II)I"⟩
abbrev cX7_number : ByteArray := prog_9_method_15_code
abbrev cX7_laysBox : ByteArray := prog_9_method_19_code
abbrev cX7_laysDisk : ByteArray := prog_9_method_20_code
abbrev cX7_signed : ByteArray := prog_9_method_16_code
abbrev cX7_takes : ByteArray := prog_9_method_14_code
def yX7_laysBox : MethodName := ⟨RX7, "laysBox", "(IIIZ)V"⟩
def yX7_laysDisk : MethodName := ⟨RX7, "laysDisk", "(II)V"⟩
def yX7_signed : MethodName := ⟨RX7, "signed", "(I)I"⟩
def yX7_takes : MethodName := ⟨RX7, "takes", "(Ljava/lang/String;)Z"⟩
theorem dX7_laysBox_0 : decode cX7_laysBox 0 = .ok (.aload_n 0, 1) := by decide +kernel
theorem dX7_laysBox_1 : decode cX7_laysBox 1 = .ok (.getfield 13, 3) := by decide +kernel
theorem dX7_laysBox_4 : decode cX7_laysBox 4 = .ok (.iconst 3, 1) := by decide +kernel
theorem dX7_laysBox_5 : decode cX7_laysBox 5 = .ok (.iload_n 1, 1) := by decide +kernel
theorem dX7_laysBox_6 : decode cX7_laysBox 6 = .ok (.iadd, 1) := by decide +kernel
theorem dX7_laysBox_7 : decode cX7_laysBox 7 = .ok (.iload_n 2, 1) := by decide +kernel
theorem dX7_laysBox_8 : decode cX7_laysBox 8 = .ok (.iastore, 1) := by decide +kernel
theorem dX7_laysBox_9 : decode cX7_laysBox 9 = .ok (.aload_n 0, 1) := by decide +kernel
theorem dX7_laysBox_10 : decode cX7_laysBox 10 = .ok (.getfield 13, 3) := by decide +kernel
theorem dX7_laysBox_13 : decode cX7_laysBox 13 = .ok (.bipush 11, 2) := by decide +kernel
theorem dX7_laysBox_15 : decode cX7_laysBox 15 = .ok (.iload_n 1, 1) := by decide +kernel
theorem dX7_laysBox_16 : decode cX7_laysBox 16 = .ok (.iadd, 1) := by decide +kernel
theorem dX7_laysBox_17 : decode cX7_laysBox 17 = .ok (.iload_n 3, 1) := by decide +kernel
theorem dX7_laysBox_18 : decode cX7_laysBox 18 = .ok (.iastore, 1) := by decide +kernel
theorem dX7_laysBox_19 : decode cX7_laysBox 19 = .ok (.iconst 0, 1) := by decide +kernel
theorem dX7_laysBox_20 : decode cX7_laysBox 20 = .ok (.istore 5, 2) := by decide +kernel
theorem dX7_laysBox_22 : decode cX7_laysBox 22 = .ok (.iload 5, 2) := by decide +kernel
theorem dX7_laysBox_24 : decode cX7_laysBox 24 = .ok (.iload_n 3, 1) := by decide +kernel
theorem dX7_laysBox_25 : decode cX7_laysBox 25 = .ok (.if_icmp .ge 67, 3) := by decide +kernel
theorem dX7_laysBox_28 : decode cX7_laysBox 28 = .ok (.iconst 0, 1) := by decide +kernel
theorem dX7_laysBox_29 : decode cX7_laysBox 29 = .ok (.istore 6, 2) := by decide +kernel
theorem dX7_laysBox_31 : decode cX7_laysBox 31 = .ok (.iload 6, 2) := by decide +kernel
theorem dX7_laysBox_33 : decode cX7_laysBox 33 = .ok (.iload_n 2, 1) := by decide +kernel
theorem dX7_laysBox_34 : decode cX7_laysBox 34 = .ok (.if_icmp .ge 52, 3) := by decide +kernel
theorem dX7_laysBox_37 : decode cX7_laysBox 37 = .ok (.iload 4, 2) := by decide +kernel
theorem dX7_laysBox_39 : decode cX7_laysBox 39 = .ok (.ifCond .ne 29, 3) := by decide +kernel
theorem dX7_laysBox_42 : decode cX7_laysBox 42 = .ok (.iload 6, 2) := by decide +kernel
theorem dX7_laysBox_44 : decode cX7_laysBox 44 = .ok (.ifCond .eq 24, 3) := by decide +kernel
theorem dX7_laysBox_47 : decode cX7_laysBox 47 = .ok (.iload 5, 2) := by decide +kernel
theorem dX7_laysBox_49 : decode cX7_laysBox 49 = .ok (.ifCond .eq 19, 3) := by decide +kernel
theorem dX7_laysBox_52 : decode cX7_laysBox 52 = .ok (.iload 6, 2) := by decide +kernel
theorem dX7_laysBox_54 : decode cX7_laysBox 54 = .ok (.iload_n 2, 1) := by decide +kernel
theorem dX7_laysBox_55 : decode cX7_laysBox 55 = .ok (.iconst 1, 1) := by decide +kernel
theorem dX7_laysBox_56 : decode cX7_laysBox 56 = .ok (.isub, 1) := by decide +kernel
theorem dX7_laysBox_57 : decode cX7_laysBox 57 = .ok (.if_icmp .eq 11, 3) := by decide +kernel
theorem dX7_laysBox_60 : decode cX7_laysBox 60 = .ok (.iload 5, 2) := by decide +kernel
theorem dX7_laysBox_62 : decode cX7_laysBox 62 = .ok (.iload_n 3, 1) := by decide +kernel
theorem dX7_laysBox_63 : decode cX7_laysBox 63 = .ok (.iconst 1, 1) := by decide +kernel
theorem dX7_laysBox_64 : decode cX7_laysBox 64 = .ok (.isub, 1) := by decide +kernel
theorem dX7_laysBox_65 : decode cX7_laysBox 65 = .ok (.if_icmp .ne 15, 3) := by decide +kernel
theorem dX7_laysBox_68 : decode cX7_laysBox 68 = .ok (.aload_n 0, 1) := by decide +kernel
theorem dX7_laysBox_69 : decode cX7_laysBox 69 = .ok (.getfield 29, 3) := by decide +kernel
theorem dX7_laysBox_72 : decode cX7_laysBox 72 = .ok (.iload_n 1, 1) := by decide +kernel
theorem dX7_laysBox_73 : decode cX7_laysBox 73 = .ok (.iload 6, 2) := by decide +kernel
theorem dX7_laysBox_75 : decode cX7_laysBox 75 = .ok (.iload 5, 2) := by decide +kernel
theorem dX7_laysBox_77 : decode cX7_laysBox 77 = .ok (.invokestatic 157, 3) := by decide +kernel
theorem dX7_laysBox_80 : decode cX7_laysBox 80 = .ok (.iinc 6 1, 3) := by decide +kernel
theorem dX7_laysBox_83 : decode cX7_laysBox 83 = .ok (.goto (-52), 3) := by decide +kernel
theorem dX7_laysBox_86 : decode cX7_laysBox 86 = .ok (.iinc 5 1, 3) := by decide +kernel
theorem dX7_laysBox_89 : decode cX7_laysBox 89 = .ok (.goto (-67), 3) := by decide +kernel
theorem dX7_laysBox_92 : decode cX7_laysBox 92 = .ok (.return_, 1) := by decide +kernel
theorem dX7_laysDisk_0 : decode cX7_laysDisk 0 = .ok (.aload_n 0, 1) := by decide +kernel
theorem dX7_laysDisk_1 : decode cX7_laysDisk 1 = .ok (.getfield 13, 3) := by decide +kernel
theorem dX7_laysDisk_4 : decode cX7_laysDisk 4 = .ok (.iconst 3, 1) := by decide +kernel
theorem dX7_laysDisk_5 : decode cX7_laysDisk 5 = .ok (.iload_n 1, 1) := by decide +kernel
theorem dX7_laysDisk_6 : decode cX7_laysDisk 6 = .ok (.iadd, 1) := by decide +kernel
theorem dX7_laysDisk_7 : decode cX7_laysDisk 7 = .ok (.iconst 2, 1) := by decide +kernel
theorem dX7_laysDisk_8 : decode cX7_laysDisk 8 = .ok (.iload_n 2, 1) := by decide +kernel
theorem dX7_laysDisk_9 : decode cX7_laysDisk 9 = .ok (.imul, 1) := by decide +kernel
theorem dX7_laysDisk_10 : decode cX7_laysDisk 10 = .ok (.iconst 1, 1) := by decide +kernel
theorem dX7_laysDisk_11 : decode cX7_laysDisk 11 = .ok (.iadd, 1) := by decide +kernel
theorem dX7_laysDisk_12 : decode cX7_laysDisk 12 = .ok (.iastore, 1) := by decide +kernel
theorem dX7_laysDisk_13 : decode cX7_laysDisk 13 = .ok (.aload_n 0, 1) := by decide +kernel
theorem dX7_laysDisk_14 : decode cX7_laysDisk 14 = .ok (.getfield 13, 3) := by decide +kernel
theorem dX7_laysDisk_17 : decode cX7_laysDisk 17 = .ok (.bipush 11, 2) := by decide +kernel
theorem dX7_laysDisk_19 : decode cX7_laysDisk 19 = .ok (.iload_n 1, 1) := by decide +kernel
theorem dX7_laysDisk_20 : decode cX7_laysDisk 20 = .ok (.iadd, 1) := by decide +kernel
theorem dX7_laysDisk_21 : decode cX7_laysDisk 21 = .ok (.iconst 2, 1) := by decide +kernel
theorem dX7_laysDisk_22 : decode cX7_laysDisk 22 = .ok (.iload_n 2, 1) := by decide +kernel
theorem dX7_laysDisk_23 : decode cX7_laysDisk 23 = .ok (.imul, 1) := by decide +kernel
theorem dX7_laysDisk_24 : decode cX7_laysDisk 24 = .ok (.iconst 1, 1) := by decide +kernel
theorem dX7_laysDisk_25 : decode cX7_laysDisk 25 = .ok (.iadd, 1) := by decide +kernel
theorem dX7_laysDisk_26 : decode cX7_laysDisk 26 = .ok (.iastore, 1) := by decide +kernel
theorem dX7_laysDisk_27 : decode cX7_laysDisk 27 = .ok (.iconst 0, 1) := by decide +kernel
theorem dX7_laysDisk_28 : decode cX7_laysDisk 28 = .ok (.istore_n 3, 1) := by decide +kernel
theorem dX7_laysDisk_29 : decode cX7_laysDisk 29 = .ok (.iload_n 3, 1) := by decide +kernel
theorem dX7_laysDisk_30 : decode cX7_laysDisk 30 = .ok (.iconst 2, 1) := by decide +kernel
theorem dX7_laysDisk_31 : decode cX7_laysDisk 31 = .ok (.iload_n 2, 1) := by decide +kernel
theorem dX7_laysDisk_32 : decode cX7_laysDisk 32 = .ok (.imul, 1) := by decide +kernel
theorem dX7_laysDisk_33 : decode cX7_laysDisk 33 = .ok (.if_icmp .gt 60, 3) := by decide +kernel
theorem dX7_laysDisk_36 : decode cX7_laysDisk 36 = .ok (.iconst 0, 1) := by decide +kernel
theorem dX7_laysDisk_37 : decode cX7_laysDisk 37 = .ok (.istore 4, 2) := by decide +kernel
theorem dX7_laysDisk_39 : decode cX7_laysDisk 39 = .ok (.iload 4, 2) := by decide +kernel
theorem dX7_laysDisk_41 : decode cX7_laysDisk 41 = .ok (.iconst 2, 1) := by decide +kernel
theorem dX7_laysDisk_42 : decode cX7_laysDisk 42 = .ok (.iload_n 2, 1) := by decide +kernel
theorem dX7_laysDisk_43 : decode cX7_laysDisk 43 = .ok (.imul, 1) := by decide +kernel
theorem dX7_laysDisk_44 : decode cX7_laysDisk 44 = .ok (.if_icmp .gt 43, 3) := by decide +kernel
theorem dX7_laysDisk_47 : decode cX7_laysDisk 47 = .ok (.iload 4, 2) := by decide +kernel
theorem dX7_laysDisk_49 : decode cX7_laysDisk 49 = .ok (.iload_n 2, 1) := by decide +kernel
theorem dX7_laysDisk_50 : decode cX7_laysDisk 50 = .ok (.isub, 1) := by decide +kernel
theorem dX7_laysDisk_51 : decode cX7_laysDisk 51 = .ok (.iload 4, 2) := by decide +kernel
theorem dX7_laysDisk_53 : decode cX7_laysDisk 53 = .ok (.iload_n 2, 1) := by decide +kernel
theorem dX7_laysDisk_54 : decode cX7_laysDisk 54 = .ok (.isub, 1) := by decide +kernel
theorem dX7_laysDisk_55 : decode cX7_laysDisk 55 = .ok (.imul, 1) := by decide +kernel
theorem dX7_laysDisk_56 : decode cX7_laysDisk 56 = .ok (.iload_n 3, 1) := by decide +kernel
theorem dX7_laysDisk_57 : decode cX7_laysDisk 57 = .ok (.iload_n 2, 1) := by decide +kernel
theorem dX7_laysDisk_58 : decode cX7_laysDisk 58 = .ok (.isub, 1) := by decide +kernel
theorem dX7_laysDisk_59 : decode cX7_laysDisk 59 = .ok (.iload_n 3, 1) := by decide +kernel
theorem dX7_laysDisk_60 : decode cX7_laysDisk 60 = .ok (.iload_n 2, 1) := by decide +kernel
theorem dX7_laysDisk_61 : decode cX7_laysDisk 61 = .ok (.isub, 1) := by decide +kernel
theorem dX7_laysDisk_62 : decode cX7_laysDisk 62 = .ok (.imul, 1) := by decide +kernel
theorem dX7_laysDisk_63 : decode cX7_laysDisk 63 = .ok (.iadd, 1) := by decide +kernel
theorem dX7_laysDisk_64 : decode cX7_laysDisk 64 = .ok (.iload_n 2, 1) := by decide +kernel
theorem dX7_laysDisk_65 : decode cX7_laysDisk 65 = .ok (.iload_n 2, 1) := by decide +kernel
theorem dX7_laysDisk_66 : decode cX7_laysDisk 66 = .ok (.imul, 1) := by decide +kernel
theorem dX7_laysDisk_67 : decode cX7_laysDisk 67 = .ok (.if_icmp .gt 14, 3) := by decide +kernel
theorem dX7_laysDisk_70 : decode cX7_laysDisk 70 = .ok (.aload_n 0, 1) := by decide +kernel
theorem dX7_laysDisk_71 : decode cX7_laysDisk 71 = .ok (.getfield 29, 3) := by decide +kernel
theorem dX7_laysDisk_74 : decode cX7_laysDisk 74 = .ok (.iload_n 1, 1) := by decide +kernel
theorem dX7_laysDisk_75 : decode cX7_laysDisk 75 = .ok (.iload 4, 2) := by decide +kernel
theorem dX7_laysDisk_77 : decode cX7_laysDisk 77 = .ok (.iload_n 3, 1) := by decide +kernel
theorem dX7_laysDisk_78 : decode cX7_laysDisk 78 = .ok (.invokestatic 157, 3) := by decide +kernel
theorem dX7_laysDisk_81 : decode cX7_laysDisk 81 = .ok (.iinc 4 1, 3) := by decide +kernel
theorem dX7_laysDisk_84 : decode cX7_laysDisk 84 = .ok (.goto (-45), 3) := by decide +kernel
theorem dX7_laysDisk_87 : decode cX7_laysDisk 87 = .ok (.iinc 3 1, 3) := by decide +kernel
theorem dX7_laysDisk_90 : decode cX7_laysDisk 90 = .ok (.goto (-61), 3) := by decide +kernel
theorem dX7_laysDisk_93 : decode cX7_laysDisk 93 = .ok (.return_, 1) := by decide +kernel
theorem dX7_number_0 : decode cX7_number 0 = .ok (.aload_n 0, 1) := by decide +kernel
theorem dX7_number_1 : decode cX7_number 1 = .ok (.invokevirtual 85, 3) := by decide +kernel
theorem dX7_number_4 : decode cX7_number 4 = .ok (.ifCond .eq 20, 3) := by decide +kernel
theorem dX7_number_7 : decode cX7_number 7 = .ok (.aload_n 0, 1) := by decide +kernel
theorem dX7_number_8 : decode cX7_number 8 = .ok (.invokevirtual 89, 3) := by decide +kernel
theorem dX7_number_11 : decode cX7_number 11 = .ok (.i2l, 1) := by decide +kernel
theorem dX7_number_12 : decode cX7_number 12 = .ok (.ldc2_w 109, 3) := by decide +kernel
theorem dX7_number_15 : decode cX7_number 15 = .ok (.ldc2_w 111, 3) := by decide +kernel
theorem dX7_number_18 : decode cX7_number 18 = .ok (.invokestatic 96, 3) := by decide +kernel
theorem dX7_number_21 : decode cX7_number 21 = .ok (.ifCond .ne 14, 3) := by decide +kernel
theorem dX7_number_24 : decode cX7_number 24 = .ok (.aload_n 0, 1) := by decide +kernel
theorem dX7_number_25 : decode cX7_number 25 = .ok (.iconst 1, 1) := by decide +kernel
theorem dX7_number_26 : decode cX7_number 26 = .ok (.aload_n 0, 1) := by decide +kernel
theorem dX7_number_27 : decode cX7_number 27 = .ok (.getfield 75, 3) := by decide +kernel
theorem dX7_number_30 : decode cX7_number 30 = .ok (.invokevirtual 113, 3) := by decide +kernel
theorem dX7_number_33 : decode cX7_number 33 = .ok (.iconst 0, 1) := by decide +kernel
theorem dX7_number_34 : decode cX7_number 34 = .ok (.ireturn, 1) := by decide +kernel
theorem dX7_number_35 : decode cX7_number 35 = .ok (.aload_n 0, 1) := by decide +kernel
theorem dX7_number_36 : decode cX7_number 36 = .ok (.aload_n 0, 1) := by decide +kernel
theorem dX7_number_37 : decode cX7_number 37 = .ok (.getfield 75, 3) := by decide +kernel
theorem dX7_number_40 : decode cX7_number 40 = .ok (.putfield 117, 3) := by decide +kernel
theorem dX7_number_43 : decode cX7_number 43 = .ok (.iconst 0, 1) := by decide +kernel
theorem dX7_number_44 : decode cX7_number 44 = .ok (.istore_n 3, 1) := by decide +kernel
theorem dX7_number_45 : decode cX7_number 45 = .ok (.aload_n 0, 1) := by decide +kernel
theorem dX7_number_46 : decode cX7_number 46 = .ok (.invokevirtual 78, 3) := by decide +kernel
theorem dX7_number_49 : decode cX7_number 49 = .ok (.i2l, 1) := by decide +kernel
theorem dX7_number_50 : decode cX7_number 50 = .ok (.ldc2_w 109, 3) := by decide +kernel
theorem dX7_number_53 : decode cX7_number 53 = .ok (.ldc2_w 111, 3) := by decide +kernel
theorem dX7_number_56 : decode cX7_number 56 = .ok (.invokestatic 96, 3) := by decide +kernel
theorem dX7_number_59 : decode cX7_number 59 = .ok (.ifCond .eq 34, 3) := by decide +kernel
theorem dX7_number_62 : decode cX7_number 62 = .ok (.ldc 120, 2) := by decide +kernel
theorem dX7_number_64 : decode cX7_number 64 = .ok (.bipush 10, 2) := by decide +kernel
theorem dX7_number_66 : decode cX7_number 66 = .ok (.iload_n 3, 1) := by decide +kernel
theorem dX7_number_67 : decode cX7_number 67 = .ok (.imul, 1) := by decide +kernel
theorem dX7_number_68 : decode cX7_number 68 = .ok (.aload_n 0, 1) := by decide +kernel
theorem dX7_number_69 : decode cX7_number 69 = .ok (.invokevirtual 78, 3) := by decide +kernel
theorem dX7_number_72 : decode cX7_number 72 = .ok (.iadd, 1) := by decide +kernel
theorem dX7_number_73 : decode cX7_number 73 = .ok (.bipush 48, 2) := by decide +kernel
theorem dX7_number_75 : decode cX7_number 75 = .ok (.isub, 1) := by decide +kernel
theorem dX7_number_76 : decode cX7_number 76 = .ok (.invokestatic 121, 3) := by decide +kernel
theorem dX7_number_79 : decode cX7_number 79 = .ok (.istore_n 3, 1) := by decide +kernel
theorem dX7_number_80 : decode cX7_number 80 = .ok (.aload_n 0, 1) := by decide +kernel
theorem dX7_number_81 : decode cX7_number 81 = .ok (.dup, 1) := by decide +kernel
theorem dX7_number_82 : decode cX7_number 82 = .ok (.getfield 75, 3) := by decide +kernel
theorem dX7_number_85 : decode cX7_number 85 = .ok (.iconst 1, 1) := by decide +kernel
theorem dX7_number_86 : decode cX7_number 86 = .ok (.iadd, 1) := by decide +kernel
theorem dX7_number_87 : decode cX7_number 87 = .ok (.putfield 75, 3) := by decide +kernel
theorem dX7_number_90 : decode cX7_number 90 = .ok (.goto (-45), 3) := by decide +kernel
theorem dX7_number_93 : decode cX7_number 93 = .ok (.iload_n 3, 1) := by decide +kernel
theorem dX7_number_94 : decode cX7_number 94 = .ok (.i2l, 1) := by decide +kernel
theorem dX7_number_95 : decode cX7_number 95 = .ok (.iload_n 1, 1) := by decide +kernel
theorem dX7_number_96 : decode cX7_number 96 = .ok (.i2l, 1) := by decide +kernel
theorem dX7_number_97 : decode cX7_number 97 = .ok (.iload_n 2, 1) := by decide +kernel
theorem dX7_number_98 : decode cX7_number 98 = .ok (.i2l, 1) := by decide +kernel
theorem dX7_number_99 : decode cX7_number 99 = .ok (.invokestatic 96, 3) := by decide +kernel
theorem dX7_number_102 : decode cX7_number 102 = .ok (.ifCond .ne 12, 3) := by decide +kernel
theorem dX7_number_105 : decode cX7_number 105 = .ok (.aload_n 0, 1) := by decide +kernel
theorem dX7_number_106 : decode cX7_number 106 = .ok (.iconst 2, 1) := by decide +kernel
theorem dX7_number_107 : decode cX7_number 107 = .ok (.aload_n 0, 1) := by decide +kernel
theorem dX7_number_108 : decode cX7_number 108 = .ok (.getfield 117, 3) := by decide +kernel
theorem dX7_number_111 : decode cX7_number 111 = .ok (.invokevirtual 113, 3) := by decide +kernel
theorem dX7_number_114 : decode cX7_number 114 = .ok (.iload_n 3, 1) := by decide +kernel
theorem dX7_number_115 : decode cX7_number 115 = .ok (.ireturn, 1) := by decide +kernel
theorem dX7_signed_0 : decode cX7_signed 0 = .ok (.aload_n 0, 1) := by decide +kernel
theorem dX7_signed_1 : decode cX7_signed 1 = .ok (.invokevirtual 85, 3) := by decide +kernel
theorem dX7_signed_4 : decode cX7_signed 4 = .ok (.ifCond .eq 16, 3) := by decide +kernel
theorem dX7_signed_7 : decode cX7_signed 7 = .ok (.aload_n 0, 1) := by decide +kernel
theorem dX7_signed_8 : decode cX7_signed 8 = .ok (.invokevirtual 89, 3) := by decide +kernel
theorem dX7_signed_11 : decode cX7_signed 11 = .ok (.bipush 45, 2) := by decide +kernel
theorem dX7_signed_13 : decode cX7_signed 13 = .ok (.if_icmp .ne 7, 3) := by decide +kernel
theorem dX7_signed_16 : decode cX7_signed 16 = .ok (.iconst 1, 1) := by decide +kernel
theorem dX7_signed_17 : decode cX7_signed 17 = .ok (.goto 4, 3) := by decide +kernel
theorem dX7_signed_20 : decode cX7_signed 20 = .ok (.iconst 0, 1) := by decide +kernel
theorem dX7_signed_21 : decode cX7_signed 21 = .ok (.istore_n 2, 1) := by decide +kernel
theorem dX7_signed_22 : decode cX7_signed 22 = .ok (.aload_n 0, 1) := by decide +kernel
theorem dX7_signed_23 : decode cX7_signed 23 = .ok (.dup, 1) := by decide +kernel
theorem dX7_signed_24 : decode cX7_signed 24 = .ok (.getfield 75, 3) := by decide +kernel
theorem dX7_signed_27 : decode cX7_signed 27 = .ok (.iload_n 2, 1) := by decide +kernel
theorem dX7_signed_28 : decode cX7_signed 28 = .ok (.invokestatic 127, 3) := by decide +kernel
theorem dX7_signed_31 : decode cX7_signed 31 = .ok (.iadd, 1) := by decide +kernel
theorem dX7_signed_32 : decode cX7_signed 32 = .ok (.putfield 75, 3) := by decide +kernel
theorem dX7_signed_35 : decode cX7_signed 35 = .ok (.aload_n 0, 1) := by decide +kernel
theorem dX7_signed_36 : decode cX7_signed 36 = .ok (.iconst 0, 1) := by decide +kernel
theorem dX7_signed_37 : decode cX7_signed 37 = .ok (.iload_n 1, 1) := by decide +kernel
theorem dX7_signed_38 : decode cX7_signed 38 = .ok (.invokevirtual 131, 3) := by decide +kernel
theorem dX7_signed_41 : decode cX7_signed 41 = .ok (.istore_n 3, 1) := by decide +kernel
theorem dX7_signed_42 : decode cX7_signed 42 = .ok (.iload_n 2, 1) := by decide +kernel
theorem dX7_signed_43 : decode cX7_signed 43 = .ok (.ifCond .eq 8, 3) := by decide +kernel
theorem dX7_signed_46 : decode cX7_signed 46 = .ok (.iload_n 3, 1) := by decide +kernel
theorem dX7_signed_47 : decode cX7_signed 47 = .ok (.ineg, 1) := by decide +kernel
theorem dX7_signed_48 : decode cX7_signed 48 = .ok (.goto 4, 3) := by decide +kernel
theorem dX7_signed_51 : decode cX7_signed 51 = .ok (.iload_n 3, 1) := by decide +kernel
theorem dX7_signed_52 : decode cX7_signed 52 = .ok (.ireturn, 1) := by decide +kernel
theorem dX7_takes_0 : decode cX7_takes 0 = .ok (.aload_n 0, 1) := by decide +kernel
theorem dX7_takes_1 : decode cX7_takes 1 = .ok (.invokevirtual 89, 3) := by decide +kernel
theorem dX7_takes_4 : decode cX7_takes 4 = .ok (.pop, 1) := by decide +kernel
theorem dX7_takes_5 : decode cX7_takes 5 = .ok (.iconst 0, 1) := by decide +kernel
theorem dX7_takes_6 : decode cX7_takes 6 = .ok (.istore_n 2, 1) := by decide +kernel
theorem dX7_takes_7 : decode cX7_takes 7 = .ok (.aload_n 0, 1) := by decide +kernel
theorem dX7_takes_8 : decode cX7_takes 8 = .ok (.getfield 75, 3) := by decide +kernel
theorem dX7_takes_11 : decode cX7_takes 11 = .ok (.iload_n 2, 1) := by decide +kernel
theorem dX7_takes_12 : decode cX7_takes 12 = .ok (.iadd, 1) := by decide +kernel
theorem dX7_takes_13 : decode cX7_takes 13 = .ok (.aload_n 0, 1) := by decide +kernel
theorem dX7_takes_14 : decode cX7_takes 14 = .ok (.getfield 67, 3) := by decide +kernel
theorem dX7_takes_17 : decode cX7_takes 17 = .ok (.if_icmp .ge 33, 3) := by decide +kernel
theorem dX7_takes_20 : decode cX7_takes 20 = .ok (.aload_n 0, 1) := by decide +kernel
theorem dX7_takes_21 : decode cX7_takes 21 = .ok (.getfield 45, 3) := by decide +kernel
theorem dX7_takes_24 : decode cX7_takes 24 = .ok (.aload_n 0, 1) := by decide +kernel
theorem dX7_takes_25 : decode cX7_takes 25 = .ok (.getfield 75, 3) := by decide +kernel
theorem dX7_takes_28 : decode cX7_takes 28 = .ok (.iload_n 2, 1) := by decide +kernel
theorem dX7_takes_29 : decode cX7_takes 29 = .ok (.iadd, 1) := by decide +kernel
theorem dX7_takes_30 : decode cX7_takes 30 = .ok (.baload, 1) := by decide +kernel
theorem dX7_takes_31 : decode cX7_takes 31 = .ok (.i2l, 1) := by decide +kernel
theorem dX7_takes_32 : decode cX7_takes 32 = .ok (.ldc2_w 92, 3) := by decide +kernel
theorem dX7_takes_35 : decode cX7_takes 35 = .ok (.ldc2_w 94, 3) := by decide +kernel
theorem dX7_takes_38 : decode cX7_takes 38 = .ok (.invokestatic 96, 3) := by decide +kernel
theorem dX7_takes_41 : decode cX7_takes 41 = .ok (.ifCond .eq 9, 3) := by decide +kernel
theorem dX7_takes_44 : decode cX7_takes 44 = .ok (.iinc 2 1, 3) := by decide +kernel
theorem dX7_takes_47 : decode cX7_takes 47 = .ok (.goto (-40), 3) := by decide +kernel
theorem dX7_takes_50 : decode cX7_takes 50 = .ok (.iload_n 2, 1) := by decide +kernel
theorem dX7_takes_51 : decode cX7_takes 51 = .ok (.aload_n 1, 1) := by decide +kernel
theorem dX7_takes_52 : decode cX7_takes 52 = .ok (.invokevirtual 100, 3) := by decide +kernel
theorem dX7_takes_55 : decode cX7_takes 55 = .ok (.if_icmp .ne 7, 3) := by decide +kernel
theorem dX7_takes_58 : decode cX7_takes 58 = .ok (.iconst 1, 1) := by decide +kernel
theorem dX7_takes_59 : decode cX7_takes 59 = .ok (.goto 4, 3) := by decide +kernel
theorem dX7_takes_62 : decode cX7_takes 62 = .ok (.iconst 0, 1) := by decide +kernel
theorem dX7_takes_63 : decode cX7_takes 63 = .ok (.istore_n 3, 1) := by decide +kernel
theorem dX7_takes_64 : decode cX7_takes 64 = .ok (.iconst 0, 1) := by decide +kernel
theorem dX7_takes_65 : decode cX7_takes 65 = .ok (.istore 4, 2) := by decide +kernel
theorem dX7_takes_67 : decode cX7_takes 67 = .ok (.iload 4, 2) := by decide +kernel
theorem dX7_takes_69 : decode cX7_takes 69 = .ok (.iload_n 2, 1) := by decide +kernel
theorem dX7_takes_70 : decode cX7_takes 70 = .ok (.if_icmp .ge 40, 3) := by decide +kernel
theorem dX7_takes_73 : decode cX7_takes 73 = .ok (.iload_n 3, 1) := by decide +kernel
theorem dX7_takes_74 : decode cX7_takes 74 = .ok (.ifCond .eq 36, 3) := by decide +kernel
theorem dX7_takes_77 : decode cX7_takes 77 = .ok (.aload_n 0, 1) := by decide +kernel
theorem dX7_takes_78 : decode cX7_takes 78 = .ok (.getfield 45, 3) := by decide +kernel
theorem dX7_takes_81 : decode cX7_takes 81 = .ok (.aload_n 0, 1) := by decide +kernel
theorem dX7_takes_82 : decode cX7_takes 82 = .ok (.getfield 75, 3) := by decide +kernel
theorem dX7_takes_85 : decode cX7_takes 85 = .ok (.iload 4, 2) := by decide +kernel
theorem dX7_takes_87 : decode cX7_takes 87 = .ok (.iadd, 1) := by decide +kernel
theorem dX7_takes_88 : decode cX7_takes 88 = .ok (.baload, 1) := by decide +kernel
theorem dX7_takes_89 : decode cX7_takes 89 = .ok (.aload_n 1, 1) := by decide +kernel
theorem dX7_takes_90 : decode cX7_takes 90 = .ok (.iload 4, 2) := by decide +kernel
theorem dX7_takes_92 : decode cX7_takes 92 = .ok (.invokevirtual 105, 3) := by decide +kernel
theorem dX7_takes_95 : decode cX7_takes 95 = .ok (.if_icmp .ne 7, 3) := by decide +kernel
theorem dX7_takes_98 : decode cX7_takes 98 = .ok (.iconst 1, 1) := by decide +kernel
theorem dX7_takes_99 : decode cX7_takes 99 = .ok (.goto 4, 3) := by decide +kernel
theorem dX7_takes_102 : decode cX7_takes 102 = .ok (.iconst 0, 1) := by decide +kernel
theorem dX7_takes_103 : decode cX7_takes 103 = .ok (.istore_n 3, 1) := by decide +kernel
theorem dX7_takes_104 : decode cX7_takes 104 = .ok (.iinc 4 1, 3) := by decide +kernel
theorem dX7_takes_107 : decode cX7_takes 107 = .ok (.goto (-40), 3) := by decide +kernel
theorem dX7_takes_110 : decode cX7_takes 110 = .ok (.aload_n 0, 1) := by decide +kernel
theorem dX7_takes_111 : decode cX7_takes 111 = .ok (.dup, 1) := by decide +kernel
theorem dX7_takes_112 : decode cX7_takes 112 = .ok (.getfield 75, 3) := by decide +kernel
theorem dX7_takes_115 : decode cX7_takes 115 = .ok (.iload_n 3, 1) := by decide +kernel
theorem dX7_takes_116 : decode cX7_takes 116 = .ok (.ifCond .eq 7, 3) := by decide +kernel
theorem dX7_takes_119 : decode cX7_takes 119 = .ok (.iload_n 2, 1) := by decide +kernel
theorem dX7_takes_120 : decode cX7_takes 120 = .ok (.goto 4, 3) := by decide +kernel
theorem dX7_takes_123 : decode cX7_takes 123 = .ok (.iconst 0, 1) := by decide +kernel
theorem dX7_takes_124 : decode cX7_takes 124 = .ok (.iadd, 1) := by decide +kernel
theorem dX7_takes_125 : decode cX7_takes 125 = .ok (.putfield 75, 3) := by decide +kernel
theorem dX7_takes_128 : decode cX7_takes 128 = .ok (.iload_n 3, 1) := by decide +kernel
theorem dX7_takes_129 : decode cX7_takes 129 = .ok (.ireturn, 1) := by decide +kernel
set_option maxRecDepth 100000 in
theorem pq10 : Cond.selects RX7 yX7_next yX7_next ∈ pw := pw_mem (i := 10) (by decide +kernel) rfl
set_option maxRecDepth 100000 in
theorem pq15 : Cond.selects RX7 yX7_fails yX7_fails ∈ pw := pw_mem (i := 15) (by decide +kernel) rfl
set_option maxRecDepth 100000 in
theorem pq18 : Cond.selects RX7 yX7_number yX7_number ∈ pw := pw_mem (i := 18) (by decide +kernel) rfl
set_option maxRecDepth 100000 in
theorem pq1116 : Cond.fieldLink RX7 13 "MaskTouchModel" "heard" "[I" ∈ pw := pw_mem (i := 1116) (by decide +kernel) rfl
set_option maxRecDepth 100000 in
theorem pq1121 : Cond.fieldLink RX7 29 "MaskTouchModel" "heardDots" "[J" ∈ pw := pw_mem (i := 1121) (by decide +kernel) rfl
set_option maxRecDepth 100000 in
theorem pq1131 : Cond.fieldLink RX7 117 "MaskTouchModel" "numberAt" "I" ∈ pw := pw_mem (i := 1131) (by decide +kernel) rfl
set_option maxRecDepth 100000 in
theorem pq1211 : Cond.methodLink RX7 89 yX7_next ∈ pw := pw_mem (i := 1211) (by decide +kernel) rfl
set_option maxRecDepth 100000 in
theorem pq1213 : Cond.instanceMethod yX7_next ∈ pw := pw_mem (i := 1213) (by decide +kernel) rfl
set_option maxRecDepth 100000 in
theorem pq1214 : Cond.code yX7_next cX7_next 1 (some .int) ∈ pw := pw_mem (i := 1214) (by rfl) rfl
set_option maxRecDepth 100000 in
theorem pq1232 : Cond.constantLong RX7 92 (97) ∈ pw := pw_mem (i := 1232) (by decide +kernel) rfl
set_option maxRecDepth 100000 in
theorem pq1233 : Cond.constantLong RX7 94 (122) ∈ pw := pw_mem (i := 1233) (by decide +kernel) rfl
set_option maxRecDepth 100000 in
theorem pq1237 : Cond.methodLink RX7 100 yJ0_length_8abf5 ∈ pw := pw_mem (i := 1237) (by decide +kernel) rfl
set_option maxRecDepth 100000 in
theorem pq1238 : Cond.methodLink RX7 105 yJ0_charAt_5068e ∈ pw := pw_mem (i := 1238) (by decide +kernel) rfl
set_option maxRecDepth 100000 in
theorem pq1239 : Cond.methodLink RX7 113 yX7_fails ∈ pw := pw_mem (i := 1239) (by decide +kernel) rfl
set_option maxRecDepth 100000 in
theorem pq1241 : Cond.instanceMethod yX7_fails ∈ pw := pw_mem (i := 1241) (by decide +kernel) rfl
set_option maxRecDepth 100000 in
theorem pq1242 : Cond.code yX7_fails cX7_fails 3 none ∈ pw := pw_mem (i := 1242) (by rfl) rfl
set_option maxRecDepth 100000 in
theorem pq1262 : Cond.methodLink RX7 131 yX7_number ∈ pw := pw_mem (i := 1262) (by decide +kernel) rfl
set_option maxRecDepth 100000 in
theorem pq1264 : Cond.instanceMethod yX7_number ∈ pw := pw_mem (i := 1264) (by decide +kernel) rfl
set_option maxRecDepth 100000 in
theorem pq1265 : Cond.code yX7_number cX7_number 4 (some .int) ∈ pw := pw_mem (i := 1265) (by rfl) rfl
set_option maxRecDepth 100000 in
theorem pq1266 : Cond.constantLong RX7 109 (48) ∈ pw := pw_mem (i := 1266) (by decide +kernel) rfl
set_option maxRecDepth 100000 in
theorem pq1267 : Cond.constantLong RX7 111 (57) ∈ pw := pw_mem (i := 1267) (by decide +kernel) rfl
set_option maxRecDepth 100000 in
theorem pq1268 : Cond.constant RX7 120 (100000) ∈ pw := pw_mem (i := 1268) (by decide +kernel) rfl
set_option maxHeartbeats 4000000 in
set_option maxRecDepth 100000 in
theorem s_X7_takes (l : Launch) (dC : Nat → ClassId) (dI : Nat → Nat → Nat) (cs : Nat → ClassId) (L : List Nat) (K G : Nat → Nat) (Q : Nat → Nat → Option Nat) (hQ : Sv L K G Q) (x0 m0 : Nat) (tx : GT) (tm : GT × Int) (sz : Nat) (I : Nat → Nat → Int32) (J : Nat → Nat → Int64) (hI : Iv L K x0 m0 tx tm I) (p0 : Nat) (hLp0 : p0 ∈ L) (hKp0 : K p0 = 7) (p1 : Nat) (n1 : List Int32) : Met l yX7_takes (.code yX7_takes cX7_takes 5 (some .boolean) :: pw) ({ frames := 4, cells := 0, slots := 0, locals := 85 }) (sPX (dC, dI) cs [.ref p0, .ref p1] sz L K I J Q (fun q => q ∈ L ∨ sz ≤ q) (fun A U H => sOK p1 n1 A U H ∧ tS A U H)) (va_Qi (fun (r : Int32) (u : Int32) => u = r ∧ ((0) ≤ r.toInt ∧ r.toInt ≤ 1)) (fun u t => sB (dC, dI) cs L K Q (fun I1 J1 => Iv L K x0 m0 tx tm I1 ∧ (∀ b, ¬ (b = p0) → I1 b = I b) ∧ I1 p0 11 = I p0 11 ∧ ((I p0 14).toInt ≤ (I1 p0 14).toInt ∧ ((I1 p0 15).toInt = -1 → (I p0 15).toInt = -1) ∧ (∀ k, ¬ k = 14 → I1 p0 k = I p0 k) ∧ (¬ u.toInt = 0 → (n1.length : Int) ≤ (I1 p0 14).toInt)) ∧ ((tw (tb tm.1.2.2 (I p0 13).toInt) n1 (I p0 14).toInt → u.toInt = 1 ∧ (I1 p0 14).toInt = wr (tb tm.1.2.2 (I p0 13).toInt) (sk (tb tm.1.2.2 (I p0 13).toInt) (I p0 14).toInt)) ∧ (¬ tw (tb tm.1.2.2 (I p0 13).toInt) n1 (I p0 14).toInt → u.toInt = 0 ∧ (I1 p0 14).toInt = (sk (tb tm.1.2.2 (I p0 13).toInt) (I p0 14).toInt))) ∧ (∀ b, K b = 0 ∨ K b = 1 ∨ K b = 3 ∨ K b = 6 → I1 b = I b) ∧ J1 = J) t) (fun q => q ∈ L ∨ sz ≤ q)) 0 0 (fun q => q ∈ L ∨ sz ≤ q) := by
  refine Met.ofW (cc := cX7_takes) (maxL := 5) (ret := (some .boolean)) (by decide +kernel) rfl ?_
  intro p e s m args below meth c s₁ B hml hv
  obtain ⟨rfl, ⟨hsz, hP, hK, hD0, hN⟩, hXs⟩ := hv
  have hx := B.exec
  have hb := B.bytes
  have hr := B.returns
  have hts := fun w (h : w ∈ pw) => atoms_spec (ws := Cond.code yX7_takes cX7_takes 5 (some .boolean) :: pw) B.pre w (List.mem_cons_of_mem _ h)
  have hown : s.vm.findClass RX7 = some m.cls := findClass_of_methodNamed B.named
  have hlocks := B.notSynchronized
  subst hsz
  have hBB : 999 ≤ tm.2 ∧ tm.2 ≤ 6000000 := hI.2.2.2.2.1
  have dn_I : (∀ b, K b = 0 ∨ K b = 1 ∨ K b = 3 ∨ K b = 6 → I b = I b) := fun _ _ => rfl
  have dj_J : J = J := rfl
  have kp0_11_I : I p0 11 = I p0 11 := rfl
  have fr_I : ∀ b, ¬ (b = p0) → I b = I b := fun _ _ => rfl
  obtain ⟨A, hAe⟩ : ∃ A : Nat → Prop, A = (fun q => q ∈ L ∨ s.heap.size ≤ q) := ⟨_, rfl⟩
  rw [← hAe]
  have hAL : ∀ q, q ∈ L → A q := fun q h => by rw [hAe]; exact Or.inl h
  have hA : ∀ q, s.heap.size ≤ q → A q := fun q h => by rw [hAe]; exact Or.inr h
  have hD : ∀ F, va_D A (va_pl L F) := fun F => (hD0 F).weaken (fun k q hk _ => hAL _ (pl_mem hk))
  rw [← hAe] at hXs
  obtain ⟨hx_p1, hxt⟩ := hXs
  obtain ⟨H, hHe⟩ : ∃ H : Heap, H = s.heap := ⟨_, rfl⟩
  have hS : va_S A s.heap H [] := by rw [hHe]; exact va_S.rf
  rw [← hHe] at hP
  have hl := lv_entry ([.ref p0, .ref p1]) (n := 5) (Nat.le_of_ble_eq_true rfl)
  rw [lg_entry_eq]
  generalize (lg_sl ([.ref p0, .ref p1]) ++ List.replicate (5 - (lg_sl ([.ref p0, .ref p1])).length) Slot.unset).toArray = ls at hl ⊢
  have hl : lv_has ls 5 [(0, .ref p0), (1, .ref p1)] := hl
  rw [← hHe]
  refine namedW (fun R Qz hR hQz => ?_)
  refine lv_aload_n hx hb dX7_takes_0 rfl (lv_at hl 0 rfl) ?_
  refine sw_ir (Z := (fun u => (fun I1 J1 => Iv L K x0 m0 tx tm I1 ∧ (∀ b, ¬ (b = p0) → I1 b = I b) ∧ I1 p0 11 = I p0 11 ∧ ((I p0 14).toInt ≤ (I1 p0 14).toInt ∧ ((I1 p0 15).toInt = -1 → (I p0 15).toInt = -1) ∧ (∀ k, ¬ k = 14 → I1 p0 k = I p0 k) ∧ (¬ u.toInt = -1 → (I1 p0 14).toInt < (I1 p0 13).toInt)) ∧ (u.toInt = sgB ((tb tm.1.2.2 (I p0 13).toInt) (sk (tb tm.1.2.2 (I p0 13).toInt) (I p0 14).toInt)) ∧ (I1 p0 14).toInt = (sk (tb tm.1.2.2 (I p0 13).toInt) (I p0 14).toInt)) ∧ (∀ b, K b = 0 ∨ K b = 1 ∨ K b = 3 ∨ K b = 6 → I1 b = I b) ∧ J1 = J))) (va_runV (As := []) (rest := []) ⟨hx, hb, hml, hown, hts⟩ (s_X7_next l dC dI cs L K G Q hQ x0 m0 tx tm H.size I J hI p0 hLp0 hKp0) (cwV 0 hts (gV pq1211 pq1213 pq10 pq81 pq1214) rfl rfl rfl (by decide +kernel) ⟨(by rw [hR]; exact (Nat.le_of_ble_eq_true rfl)), (by rw [hR]; exact (Nat.le_of_ble_eq_true rfl))⟩) (sP_V hP hD hK hN hLp0 hKp0 rfl rfl) rfl rfl hl.1 rfl (lv_room (Nat.le_of_ble_eq_true rfl)) dX7_takes_1 ⟨(by rw [hR]; exact (Nat.le_of_ble_eq_true rfl)), (by rw [hR]; exact (Nat.le_of_ble_eq_true rfl))⟩) hS hAL hA (fun z1 Iz1 Jz1 H locs hz1 hIz1 hP hS => ?_)
  obtain ⟨hIz1, frc1, kc1_0_11, zr1, fz1, dnc1, djc1⟩ := hIz1
  obtain rfl : J = Jz1 := djc1.symm
  have dn_Iz1 : (∀ b, K b = 0 ∨ K b = 1 ∨ K b = 3 ∨ K b = 6 → Iz1 b = I b) := fun b hc => (dnc1 b (by omega)).trans (dn_I b hc)
  have kp0_11_Iz1 : Iz1 p0 11 = I p0 11 := kc1_0_11.trans kp0_11_I
  have fr_Iz1 : ∀ b, ¬ (b = p0) → Iz1 b = I b := fun b q => (frc1 b (fun z => q (z))).trans (fr_I b q)
  have bz1 := hz1
  refine lv_pop hx hb dX7_takes_4 rfl ?_
  have c14 := oI_7_14 (Iv_at hIz1 hLp0 hKp0)
  refine lv_iconst (v := 0) hx hb dX7_takes_5 (by decide +kernel) ?_
  refine lv_istore_n (lv' := [(2, .int 0), (0, .ref p0), (1, .ref p1)]) hx hb dX7_takes_6 rfl hl (by decide) rfl (fun ls hl => ?_)
  have key7 := blocks (fun n => ∀ (v7_2 : Int32) (H : Heap) (lo : List Loc) (ls : Array Slot), (401 - v7_2.toInt).toNat = n → ((0) ≤ v7_2.toInt ∧ v7_2.toInt ≤ 400) → (Iz1 p0 14).toInt + v7_2.toInt ≤ 400 → (∀ k, (Iz1 p0 14).toInt ≤ k → k < (Iz1 p0 14).toInt + v7_2.toInt → pL ((tb tm.1.2.2 (I p0 13).toInt) k) = true) → va_P (dC, dI) vwCl (Wd cs L K Iz1 J Q) H → va_S A s.heap H lo → lv_has ls 5 [(0, .ref p0), (1, .ref p1), (2, .int v7_2)] → W p l e R s m (([.ref p0, .ref p1] : List Value).toArray) below meth c H lo 0 0 Qz (F0 m 7 ls [])) (by
    intro n ih7
    intro v7_2 H lo ls hmu7 bv7_2 h7 h7b hP hS hl
    have b13 := oI_7_13 (Iv_at hIz1 hLp0 hKp0)
    have b14 := oI_7_14 (Iv_at hIz1 hLp0 hKp0)
    refine lv_aload_n hx hb dX7_takes_7 rfl (lv_at hl 0 rfl) ?_
    refine p_get hx hb hts inX7 hown hK hP hLp0 hKp0 rfl rfl 14 (by decide) (hts _ pq1129) rfl dX7_takes_8 ?_
    refine lv_topi (fun z8 ez8 => ?_)
    have cgz8 := congrArg Int32.toInt ez8
    have bz8 := oI_7_14 (Iv_at hIz1 hLp0 hKp0)
    rw [← ez8] at bz8
    refine lv_iload_n hx hb dX7_takes_11 rfl (lv_at hl 2 rfl) ?_
    refine lv_iadd hx hb dX7_takes_12 ?_
    refine lv_topi (fun z12 ez12 => ?_)
    have bz12 := tq_add (k := z8.toInt) (q := v7_2.toInt) ez12 rfl rfl (by omega) (by omega)
    refine lv_aload_n hx hb dX7_takes_13 rfl (lv_at hl 0 rfl) ?_
    refine p_get hx hb hts inX7 hown hK hP hLp0 hKp0 rfl rfl 13 (by decide) (hts _ pq1128) rfl dX7_takes_14 ?_
    refine lv_topi (fun z14 ez14 => ?_)
    have cgz14 := congrArg Int32.toInt ez14
    have bz14 := oI_7_13 (Iv_at hIz1 hLp0 hKp0)
    rw [← ez14] at bz14
    have j50 : ∀ (H : Heap) (lo : List Loc) (ls : Array Slot), (Iz1 p0 14).toInt + v7_2.toInt = wr (tb tm.1.2.2 (I p0 13).toInt) (Iz1 p0 14).toInt → va_P (dC, dI) vwCl (Wd cs L K Iz1 J Q) H → va_S A s.heap H lo → lv_has ls 5 [(0, .ref p0), (1, .ref p1), (2, .int v7_2)] → W p l e R s m (([.ref p0, .ref p1] : List Value).toArray) below meth c H lo 0 0 Qz (F0 m 50 ls []) := by
      intro H lo ls h50 hP hS hl
      refine lv_iload_n hx hb dX7_takes_50 rfl (lv_at hl 2 rfl) ?_
      refine lv_aload_n hx hb dX7_takes_51 rfl (lv_at hl 1 rfl) ?_
      refine ro_i (va_runV (As := []) (rest := [.int v7_2]) ⟨hx, hb, hml, hown, hts⟩ (s_J0_length l dC dI cs L K Q H.size Iz1 J p1 n1) (cwV 0 hts (gV pq1237 pq427 pq428 pq83 pq429) rfl rfl rfl (by decide +kernel) ⟨(by rw [hR]; exact (Nat.le_of_ble_eq_true rfl)), (by rw [hR]; exact (Nat.le_of_ble_eq_true rfl))⟩) (sPX_VS hP hD hK hN hx_p1 (gX_and (gX_s _ _) gX_t) hS ⟨hx_p1, hxt⟩ (fun _ h => False.elim h)) rfl rfl hl.1 rfl (lv_room (Nat.le_of_ble_eq_true rfl)) dX7_takes_52 ⟨(by rw [hR]; exact (Nat.le_of_ble_eq_true rfl)), (by rw [hR]; exact (Nat.le_of_ble_eq_true rfl))⟩) hS hP (fun z52 H locs hz52 hP hS => ?_)
      obtain ⟨bz52, xpz52⟩ := hz52
      have j63 : ∀ (w63_0 : Int32) (H : Heap) (lo : List Loc) (ls : Array Slot), ((0) ≤ w63_0.toInt ∧ w63_0.toInt ≤ 1) → (¬ w63_0.toInt = 0 → v7_2.toInt = (n1.length : Int)) → (w63_0.toInt = 0 → ¬ v7_2.toInt = (n1.length : Int)) → va_P (dC, dI) vwCl (Wd cs L K Iz1 J Q) H → va_S A s.heap H lo → lv_has ls 5 [(0, .ref p0), (1, .ref p1), (2, .int v7_2)] → W p l e R s m (([.ref p0, .ref p1] : List Value).toArray) below meth c H lo 0 0 Qz (F0 m 63 ls [.int w63_0]) := by
        intro w63_0 H lo ls bw63_0 h63 h63b hP hS hl
        refine lv_istore_n (lv' := [(3, .int w63_0), (0, .ref p0), (1, .ref p1), (2, .int v7_2)]) hx hb dX7_takes_63 rfl hl (by decide) rfl (fun ls hl => ?_)
        refine lv_iconst (v := 0) hx hb dX7_takes_64 (by decide +kernel) ?_
        refine lv_istore (lv' := [(4, .int 0), (3, .int w63_0), (0, .ref p0), (1, .ref p1), (2, .int v7_2)]) hx hb dX7_takes_65 hl (by decide) rfl (fun ls hl => ?_)
        have key67 := blocks (fun n => ∀ (v67_3 : Int32) (v67_4 : Int32) (H : Heap) (lo : List Loc) (ls : Array Slot), (402 - v67_4.toInt).toNat = n → ((0) ≤ v67_3.toInt ∧ v67_3.toInt ≤ 1) → ((0) ≤ v67_4.toInt ∧ v67_4.toInt ≤ 401) → (¬ v67_3.toInt = 0 → v7_2.toInt = (n1.length : Int)) → ((¬ v67_3.toInt = 0 → ∀ k : Nat, (k : Int) < v67_4.toInt → (tb tm.1.2.2 (I p0 13).toInt) ((Iz1 p0 14).toInt + k) = (n1.getD k 0).toInt) ∧ (v67_3.toInt = 0 → ¬ tw (tb tm.1.2.2 (I p0 13).toInt) n1 (I p0 14).toInt)) → va_P (dC, dI) vwCl (Wd cs L K Iz1 J Q) H → va_S A s.heap H lo → lv_has ls 5 [(0, .ref p0), (1, .ref p1), (2, .int v7_2), (3, .int v67_3), (4, .int v67_4)] → W p l e R s m (([.ref p0, .ref p1] : List Value).toArray) below meth c H lo 0 0 Qz (F0 m 67 ls [])) (by
          intro n ih67
          intro v67_3 v67_4 H lo ls hmu67 bv67_3 bv67_4 h67 h67b hP hS hl
          refine lv_iload hx hb dX7_takes_67 (lv_at hl 4 rfl) ?_
          refine lv_iload_n hx hb dX7_takes_69 rfl (lv_at hl 2 rfl) ?_
          have j110 : ∀ (H : Heap) (lo : List Loc) (ls : Array Slot), ((¬ v67_3.toInt = 0 → tw (tb tm.1.2.2 (I p0 13).toInt) n1 (I p0 14).toInt) ∧ (v67_3.toInt = 0 → ¬ tw (tb tm.1.2.2 (I p0 13).toInt) n1 (I p0 14).toInt)) → va_P (dC, dI) vwCl (Wd cs L K Iz1 J Q) H → va_S A s.heap H lo → lv_has ls 5 [(0, .ref p0), (1, .ref p1), (2, .int v7_2), (3, .int v67_3), (4, .int v67_4)] → W p l e R s m (([.ref p0, .ref p1] : List Value).toArray) below meth c H lo 0 0 Qz (F0 m 110 ls []) := by
            intro H lo ls h110 hP hS hl
            refine lv_aload_n hx hb dX7_takes_110 rfl (lv_at hl 0 rfl) ?_
            refine lv_dup hx hb dX7_takes_111 rfl ?_
            refine p_get hx hb hts inX7 hown hK hP hLp0 hKp0 rfl rfl 14 (by decide) (hts _ pq1129) rfl dX7_takes_112 ?_
            refine lv_topi (fun z112 ez112 => ?_)
            obtain rfl : z8 = z112 := ez8.trans ez112.symm
            refine lv_iload_n hx hb dX7_takes_115 rfl (lv_at hl 3 rfl) ?_
            refine lv_if_eq (tgt := 123) hx hb dX7_takes_116 (by decide) (fun c116 => ?_) (fun c116 => ?_)
            · have t116 := tq_eq (k := v67_3.toInt) (q := (0)) c116 rfl (by decide +kernel)
              refine lv_iconst (v := 0) hx hb dX7_takes_123 (by decide +kernel) ?_
              refine lv_iadd hx hb dX7_takes_124 ?_
              refine lv_topi (fun z124 ez124 => ?_)
              have bz124 := tq_add (k := z8.toInt) (q := (0)) ez124 rfl (by decide +kernel) (by omega) (by omega)
              refine p_put hx hb hts inX7 tyX7 tyX7_ok nmX7 hown hK hP hD hS hLp0 hKp0 rfl rfl 14 (by decide) (hts _ pq1129) rfl (by decide +kernel) (Nat.le_of_ble_eq_true rfl) (oS_7_14 cs _ _ _ _) dX7_takes_125 (fun H locs hP hS => ?_)
              obtain ⟨Iz125, hP, hIz125, qIz125⟩ : ∃ Iz125, va_P (dC, dI) vwCl (Wd cs L K Iz125 J Q) H ∧ Iv L K x0 m0 tx tm Iz125 ∧ Iz125 = va_up Iz1 p0 (upd (Iz1 p0) 14 z124) := ⟨_, hP, Iv_put hIz1 hKp0 (oP_7_14 (Iv_at hIz1 hLp0 hKp0) ⟨by omega, by omega⟩) (by decide) (by decide), rfl⟩
              have dn_Iz125 : (∀ b, K b = 0 ∨ K b = 1 ∨ K b = 3 ∨ K b = 6 → Iz125 b = I b) := fun b hc => (congrFun qIz125 b).trans ((va_up_ne _ _ (fun z => by have q := hKp0; rw [← z] at q; omega)).trans (dn_Iz1 b hc))
              have kp0_11_Iz125 : Iz125 p0 11 = I p0 11 := (congrFun (congrFun qIz125 p0) 11).trans ((rz_fr _ _ _ _ (by decide)).trans kp0_11_Iz1)
              have fr_Iz125 : ∀ b, ¬ (b = p0) → Iz125 b = I b := fun b q => (congrFun qIz125 b).trans ((va_up_ne _ _ (fun z => q z)).trans (fr_Iz1 b q))
              refine lv_iload_n hx hb dX7_takes_128 rfl (lv_at hl 3 rfl) ?_
              subst hR; subst hQz
              exact W.zret (v := v67_3) hx hb hr (nar01 (by omega) (by omega)) (fun t ht hW => ⟨⟨v67_3, v67_3, rfl, ⟨rfl, ⟨by omega, by omega⟩⟩, ⟨Iz125, J, ⟨hIz125, fr_Iz125, kp0_11_Iz125, ⟨by rw [qIz125, rz_at]; have := zr1.1; omega, fun h => zr1.2.1 (by rw [qIz125, rz_fr _ _ _ _ (by decide)] at h; exact h), fun k hk => by rw [qIz125, rz_fr _ _ _ _ hk]; exact zr1.2.2.1 k hk, fun h => by rw [qIz125, rz_at]; have := h67 h; omega⟩, (by have w : ¬ v67_3.toInt = 0 ∨ v67_3.toInt = 0 := (Int.lt_or_le 0 v67_3.toInt).elim (fun q => Or.inl (by omega)) (fun q => Or.inr (by omega)); exact w.elim (fun q => ⟨fun _ => ⟨by omega, by rw [qIz125, rz_at, ← fz1.2, ← h50]; omega⟩, fun h => absurd (h110.1 q) h⟩) (fun q => ⟨fun h => absurd h (h110.2 q), fun _ => ⟨q, by rw [qIz125, rz_at, ← fz1.2]; omega⟩⟩)), dn_Iz125, dj_J⟩, by rw [ht]; exact hP⟩⟩, hS.F ht⟩) hS.2.2 dX7_takes_129
            · have t116 := tq_ne (k := v67_3.toInt) (q := (0)) c116 rfl (by decide +kernel)
              refine lv_iload_n hx hb dX7_takes_119 rfl (lv_at hl 2 rfl) ?_
              refine lv_goto (tgt := 124) hx hb dX7_takes_120 (by decide) ?_
              refine lv_iadd hx hb dX7_takes_124 ?_
              refine lv_topi (fun z124 ez124 => ?_)
              have bz124 := tq_add (k := z8.toInt) (q := v7_2.toInt) ez124 rfl rfl (by omega) (by omega)
              refine p_put hx hb hts inX7 tyX7 tyX7_ok nmX7 hown hK hP hD hS hLp0 hKp0 rfl rfl 14 (by decide) (hts _ pq1129) rfl (by decide +kernel) (Nat.le_of_ble_eq_true rfl) (oS_7_14 cs _ _ _ _) dX7_takes_125 (fun H locs hP hS => ?_)
              obtain ⟨Iz125, hP, hIz125, qIz125⟩ : ∃ Iz125, va_P (dC, dI) vwCl (Wd cs L K Iz125 J Q) H ∧ Iv L K x0 m0 tx tm Iz125 ∧ Iz125 = va_up Iz1 p0 (upd (Iz1 p0) 14 z124) := ⟨_, hP, Iv_put hIz1 hKp0 (oP_7_14 (Iv_at hIz1 hLp0 hKp0) ⟨by omega, by omega⟩) (by decide) (by decide), rfl⟩
              have dn_Iz125 : (∀ b, K b = 0 ∨ K b = 1 ∨ K b = 3 ∨ K b = 6 → Iz125 b = I b) := fun b hc => (congrFun qIz125 b).trans ((va_up_ne _ _ (fun z => by have q := hKp0; rw [← z] at q; omega)).trans (dn_Iz1 b hc))
              have kp0_11_Iz125 : Iz125 p0 11 = I p0 11 := (congrFun (congrFun qIz125 p0) 11).trans ((rz_fr _ _ _ _ (by decide)).trans kp0_11_Iz1)
              have fr_Iz125 : ∀ b, ¬ (b = p0) → Iz125 b = I b := fun b q => (congrFun qIz125 b).trans ((va_up_ne _ _ (fun z => q z)).trans (fr_Iz1 b q))
              refine lv_iload_n hx hb dX7_takes_128 rfl (lv_at hl 3 rfl) ?_
              subst hR; subst hQz
              exact W.zret (v := v67_3) hx hb hr (nar01 (by omega) (by omega)) (fun t ht hW => ⟨⟨v67_3, v67_3, rfl, ⟨rfl, ⟨by omega, by omega⟩⟩, ⟨Iz125, J, ⟨hIz125, fr_Iz125, kp0_11_Iz125, ⟨by rw [qIz125, rz_at]; have := zr1.1; omega, fun h => zr1.2.1 (by rw [qIz125, rz_fr _ _ _ _ (by decide)] at h; exact h), fun k hk => by rw [qIz125, rz_fr _ _ _ _ hk]; exact zr1.2.2.1 k hk, fun h => by rw [qIz125, rz_at]; have := h67 h; omega⟩, (by have w : ¬ v67_3.toInt = 0 ∨ v67_3.toInt = 0 := (Int.lt_or_le 0 v67_3.toInt).elim (fun q => Or.inl (by omega)) (fun q => Or.inr (by omega)); exact w.elim (fun q => ⟨fun _ => ⟨by omega, by rw [qIz125, rz_at, ← fz1.2, ← h50]; omega⟩, fun h => absurd (h110.1 q) h⟩) (fun q => ⟨fun h => absurd h (h110.2 q), fun _ => ⟨q, by rw [qIz125, rz_at, ← fz1.2]; omega⟩⟩)), dn_Iz125, dj_J⟩, by rw [ht]; exact hP⟩⟩, hS.F ht⟩) hS.2.2 dX7_takes_129
          refine lv_icmp_ge (tgt := 110) hx hb dX7_takes_70 (by decide) (fun c70 => ?_) (fun c70 => ?_)
          · have t70 := tq_le (k := v7_2.toInt) (q := v67_4.toInt) c70 rfl rfl
            exact j110  _ _ _ ⟨fun h => ⟨by rw [← fz1.2, ← h50]; have := h67 h; omega, fun k hk => by rw [← fz1.2]; exact h67b.1 h k (by have := h67 h; omega)⟩, h67b.2⟩ hP hS (lv_sub hl [0, 1, 2, 3, 4] rfl)
          · have t70 := tq_nle (k := v7_2.toInt) (q := v67_4.toInt) c70 rfl rfl
            refine lv_iload_n hx hb dX7_takes_73 rfl (lv_at hl 3 rfl) ?_
            refine lv_if_eq (tgt := 110) hx hb dX7_takes_74 (by decide) (fun c74 => ?_) (fun c74 => ?_)
            · have t74 := tq_eq (k := v67_3.toInt) (q := (0)) c74 rfl (by decide +kernel)
              exact j110  _ _ _ ⟨fun h => absurd t74 h, h67b.2⟩ hP hS (lv_sub hl [0, 1, 2, 3, 4] rfl)
            · have t74 := tq_ne (k := v67_3.toInt) (q := (0)) c74 rfl (by decide +kernel)
              refine lv_aload_n hx hb dX7_takes_77 rfl (lv_at hl 0 rfl) ?_
              obtain ⟨y78, ey78, hLy78, hKy78⟩ := oQ_7_12 (Sv_at hQ hLp0 hKp0)
              refine p_get (v := .ref y78) hx hb hts inX7 hown hK hP hLp0 hKp0 rfl rfl 12 (by decide) (hts _ pq1127) (congrArg (fun q => some (va_rf q)) ey78) dX7_takes_78 ?_
              refine lv_aload_n hx hb dX7_takes_81 rfl (lv_at hl 0 rfl) ?_
              refine p_get hx hb hts inX7 hown hK hP hLp0 hKp0 rfl rfl 14 (by decide) (hts _ pq1129) rfl dX7_takes_82 ?_
              refine lv_topi (fun z82 ez82 => ?_)
              obtain rfl : z8 = z82 := ez8.trans ez82.symm
              refine lv_iload hx hb dX7_takes_85 (lv_at hl 4 rfl) ?_
              refine lv_iadd hx hb dX7_takes_87 ?_
              refine lv_topi (fun z87 ez87 => ?_)
              have bz87 := tq_add (k := z8.toInt) (q := v67_4.toInt) ez87 rfl rfl (by omega) (by omega)
              refine p_bald hx hb hK hP 21 hLy78 hKy78 rfl rfl (in_of (by omega) (by omega)) dX7_takes_88 ?_
              refine lv_topi (fun z88 ez88 => ?_)
              have tz88 : z88 = tm.1.2.2 (z87).toInt.toNat := ez88.trans (congrFun (hIz1.2.2.2.2.2.2 y78 hLy78 hKy78).2.1 _)
              refine lv_aload_n hx hb dX7_takes_89 rfl (lv_at hl 1 rfl) ?_
              refine lv_iload hx hb dX7_takes_90 (lv_at hl 4 rfl) ?_
              refine ro_i (va_runV (As := [.int v67_4]) (rest := [.int z88]) ⟨hx, hb, hml, hown, hts⟩ (s_J0_charAt l dC dI cs L K Q H.size Iz1 J p1 n1 v67_4 ⟨by omega, by have := fb_rng v67_4; omega⟩ (by have := h67 t74; omega)) (cwV 1 hts (gV pq1238 pq437 pq438 pq83 pq439) rfl rfl rfl (by decide +kernel) ⟨(by rw [hR]; exact (Nat.le_of_ble_eq_true rfl)), (by rw [hR]; exact (Nat.le_of_ble_eq_true rfl))⟩) (sPX_VS hP hD hK hN hx_p1 (gX_and (gX_s _ _) gX_t) hS ⟨hx_p1, hxt⟩ (fun _ h => False.elim h)) rfl rfl hl.1 rfl (lv_room (Nat.le_of_ble_eq_true rfl)) dX7_takes_92 ⟨(by rw [hR]; exact (Nat.le_of_ble_eq_true rfl)), (by rw [hR]; exact (Nat.le_of_ble_eq_true rfl))⟩) hS hP (fun z92 H locs hz92 hP hS => ?_)
              have xpz92 := hz92
              have j103 : ∀ (w103_0 : Int32) (H : Heap) (lo : List Loc) (ls : Array Slot), ((0) ≤ w103_0.toInt ∧ w103_0.toInt ≤ 1) → ((¬ w103_0.toInt = 0 → z88.toInt = z92.toInt) ∧ (w103_0.toInt = 0 → ¬ z88.toInt = z92.toInt)) → va_P (dC, dI) vwCl (Wd cs L K Iz1 J Q) H → va_S A s.heap H lo → lv_has ls 5 [(0, .ref p0), (1, .ref p1), (2, .int v7_2), (3, .int v67_3), (4, .int v67_4)] → W p l e R s m (([.ref p0, .ref p1] : List Value).toArray) below meth c H lo 0 0 Qz (F0 m 103 ls [.int w103_0]) := by
                intro w103_0 H lo ls bw103_0 h103 hP hS hl
                refine lv_istore_n (lv' := [(3, .int w103_0), (0, .ref p0), (1, .ref p1), (2, .int v7_2), (4, .int v67_4)]) hx hb dX7_takes_103 rfl hl (by decide) rfl (fun ls hl => ?_)
                obtain ⟨z104, ez104⟩ : ∃ y : Int32, y = v67_4 + 1 := ⟨_, rfl⟩
                refine lv_iinc (v := z104) (lv' := [(4, .int z104), (3, .int w103_0), (0, .ref p0), (1, .ref p1), (2, .int v7_2)]) hx hb dX7_takes_104 hl (k := 4) rfl (by rw [ez104]; rfl) (by decide) rfl (fun ls hl => ?_)
                have bz104 := tq_add (k := v67_4.toInt) (q := 1) ez104 rfl (by decide +kernel) (by omega) (by omega)
                refine lv_goto (tgt := 67) hx hb dX7_takes_107 (by decide) ?_
                exact ih67 _ (by omega) w103_0 z104 _ _ _ rfl ⟨by omega, by omega⟩ ⟨by omega, by omega⟩ (fun _ => h67 t74) ⟨fun h => tw_step (z := z88) (b := z87.toInt) (h67b.1 t74) (by omega) (by omega) (by omega) (by have := h67 t74; have w : wr (tb tm.1.2.2 (I p0 13).toInt) (Iz1 p0 14).toInt ≤ (I p0 13).toInt := rn_len2 (by decide) (show ¬ wr (tb tm.1.2.2 (I p0 13).toInt) (Iz1 p0 14).toInt - (Iz1 p0 14).toInt = 0 by rw [← h50]; omega); rw [← h50] at w; omega) tz88 ((h103.1 h).trans (congrArg Int32.toInt xpz92)) (by omega), fun h => tw_ne (k := v67_4.toInt.toNat) (by have := h67 t74; omega) (by rw [← fz1.2, tb_at (z := z88) (by omega) (by have := h67 t74; have w : wr (tb tm.1.2.2 (I p0 13).toInt) (Iz1 p0 14).toInt ≤ (I p0 13).toInt := rn_len2 (by decide) (show ¬ wr (tb tm.1.2.2 (I p0 13).toInt) (Iz1 p0 14).toInt - (Iz1 p0 14).toInt = 0 by rw [← h50]; omega); rw [← h50] at w; omega) (by rw [show (Iz1 p0 14).toInt + (v67_4.toInt.toNat : Int) = z87.toInt by omega]; exact tz88)]; rw [← congrArg Int32.toInt xpz92]; exact h103.2 h)⟩ hP hS (lv_sub hl [2, 3, 4, 1, 0] rfl)
              refine lv_icmp_ne (tgt := 102) hx hb dX7_takes_95 (by decide) (fun c95 => ?_) (fun c95 => ?_)
              · have t95 := tq_ne (k := z88.toInt) (q := z92.toInt) c95 rfl rfl
                refine lv_iconst (v := 0) hx hb dX7_takes_102 (by decide +kernel) ?_
                exact j103 0 _ _ _ ⟨by decide +kernel, by decide +kernel⟩ ⟨fun h => absurd (by decide +kernel) h, fun _ => t95⟩ hP hS (lv_sub hl [0, 1, 2, 3, 4] rfl)
              · have t95 := tq_eq (k := z88.toInt) (q := z92.toInt) c95 rfl rfl
                refine lv_iconst (v := 1) hx hb dX7_takes_98 (by decide +kernel) ?_
                refine lv_goto (tgt := 103) hx hb dX7_takes_99 (by decide) ?_
                exact j103 1 _ _ _ ⟨by decide +kernel, by decide +kernel⟩ ⟨fun _ => t95, fun h => absurd h (by decide +kernel)⟩ hP hS (lv_sub hl [0, 1, 2, 3, 4] rfl))
        exact key67 _ w63_0 0 _ _ _ rfl ⟨by omega, by omega⟩ ⟨by decide +kernel, by decide +kernel⟩ (fun h => h63 h) ⟨fun _ k hk => absurd hk (by rw [show (0 : Int32).toInt = 0 from by decide +kernel]; omega), fun h => tw_no (by rw [← fz1.2, ← h50]; have := h63b h; omega)⟩ hP hS (lv_sub hl [2, 3, 4, 1, 0] rfl)
      refine lv_icmp_ne (tgt := 62) hx hb dX7_takes_55 (by decide) (fun c55 => ?_) (fun c55 => ?_)
      · have t55 := tq_ne (k := v7_2.toInt) (q := z52.toInt) c55 rfl rfl
        refine lv_iconst (v := 0) hx hb dX7_takes_62 (by decide +kernel) ?_
        exact j63 0 _ _ _ ⟨by decide +kernel, by decide +kernel⟩ (fun h => absurd (by decide +kernel) h) (fun _ => by omega) hP hS (lv_sub hl [0, 1, 2] rfl)
      · have t55 := tq_eq (k := v7_2.toInt) (q := z52.toInt) c55 rfl rfl
        refine lv_iconst (v := 1) hx hb dX7_takes_58 (by decide +kernel) ?_
        refine lv_goto (tgt := 63) hx hb dX7_takes_59 (by decide) ?_
        exact j63 1 _ _ _ ⟨by decide +kernel, by decide +kernel⟩ (fun _ => by omega) (fun h => absurd h (by decide +kernel)) hP hS (lv_sub hl [0, 1, 2] rfl)
    refine lv_icmp_ge (tgt := 50) hx hb dX7_takes_17 (by decide) (fun c17 => ?_) (fun c17 => ?_)
    · have t17 := tq_le (k := z14.toInt) (q := z12.toInt) c17 rfl rfl
      exact j50  _ _ _ (rn_out (by decide) (by omega) (by omega) h7b (by rw [← zr1.2.2.1 13 (by decide), ← ez14]; omega)) hP hS (lv_sub hl [0, 1, 2] rfl)
    · have t17 := tq_nle (k := z14.toInt) (q := z12.toInt) c17 rfl rfl
      refine lv_aload_n hx hb dX7_takes_20 rfl (lv_at hl 0 rfl) ?_
      obtain ⟨y21, ey21, hLy21, hKy21⟩ := oQ_7_12 (Sv_at hQ hLp0 hKp0)
      refine p_get (v := .ref y21) hx hb hts inX7 hown hK hP hLp0 hKp0 rfl rfl 12 (by decide) (hts _ pq1127) (congrArg (fun q => some (va_rf q)) ey21) dX7_takes_21 ?_
      refine lv_aload_n hx hb dX7_takes_24 rfl (lv_at hl 0 rfl) ?_
      refine p_get hx hb hts inX7 hown hK hP hLp0 hKp0 rfl rfl 14 (by decide) (hts _ pq1129) rfl dX7_takes_25 ?_
      refine lv_topi (fun z25 ez25 => ?_)
      obtain rfl : z8 = z25 := ez8.trans ez25.symm
      refine lv_iload_n hx hb dX7_takes_28 rfl (lv_at hl 2 rfl) ?_
      refine lv_iadd hx hb dX7_takes_29 ?_
      refine lv_topi (fun z29 ez29 => ?_)
      have bz29 := tq_add (k := z8.toInt) (q := v7_2.toInt) ez29 rfl rfl (by omega) (by omega)
      refine p_bald hx hb hK hP 21 hLy21 hKy21 rfl rfl (in_of (by omega) (by omega)) dX7_takes_30 ?_
      refine lv_topi (fun z30 ez30 => ?_)
      have tz30 : z30 = tm.1.2.2 (z29).toInt.toNat := ez30.trans (congrFun (hIz1.2.2.2.2.2.2 y21 hLy21 hKy21).2.1 _)
      refine lv_i2l hx hb dX7_takes_31 rfl ?_
      refine lv_topl (fun z31 ez31 => ?_)
      have bz31 := tq_i2l (k := z30.toInt) ez31 rfl
      refine lv_ldc2 hx hb hown (hts _ pq1232) dX7_takes_32 ?_
      refine lv_ldc2 hx hb hown (hts _ pq1233) dX7_takes_35 ?_
      refine ro_i (va_runS (As := [.long z31, .long 97, .long 122]) (rest := []) ⟨hx, hb, hml, hown, hts⟩ (s_X7_in l dC dI cs L K Q H.size Iz1 J z31 97 122) (va_cwS 3 hts (gS pq1234 pq1235 pq81 pq1236) rfl rfl rfl (by decide +kernel) ⟨(by rw [hR]; exact (Nat.le_of_ble_eq_true rfl)), (by rw [hR]; exact (Nat.le_of_ble_eq_true rfl))⟩) (sP_S hP hD hK hN) rfl rfl hl.1 rfl (lv_room (Nat.le_of_ble_eq_true rfl)) dX7_takes_38 ⟨(by rw [hR]; exact (Nat.le_of_ble_eq_true rfl)), (by rw [hR]; exact (Nat.le_of_ble_eq_true rfl))⟩) hS hP (fun z38 H locs hz38 hP hS => ?_)
      have csl38_97 : (97 : Int64).toInt = 97 := by decide +kernel
      have csl38_122 : (122 : Int64).toInt = 122 := by decide +kernel
      obtain ⟨bz38, imz38, xpz38⟩ := hz38
      refine lv_if_eq (tgt := 50) hx hb dX7_takes_41 (by decide) (fun c41 => ?_) (fun c41 => ?_)
      · have t41 := tq_eq (k := z38.toInt) (q := (0)) c41 rfl (by decide +kernel)
        exact j50  _ _ _ (rn_hit (z := z30) (by omega) (by omega) h7b (by omega) (by rw [← zr1.2.2.1 13 (by decide), ← ez14]; omega) (by rw [show (Iz1 p0 14).toInt + v7_2.toInt = z29.toInt by omega]; exact tz30) (decide_eq_false (fun h => xpz38 t41 (by omega)))) hP hS (lv_sub hl [0, 1, 2] rfl)
      · have t41 := tq_ne (k := z38.toInt) (q := (0)) c41 rfl (by decide +kernel)
        have i41 := imz38 t41
        obtain ⟨z44, ez44⟩ : ∃ y : Int32, y = v7_2 + 1 := ⟨_, rfl⟩
        refine lv_iinc (v := z44) (lv' := [(2, .int z44), (0, .ref p0), (1, .ref p1)]) hx hb dX7_takes_44 hl (k := 2) rfl (by rw [ez44]; rfl) (by decide) rfl (fun ls hl => ?_)
        have bz44 := tq_add (k := v7_2.toInt) (q := 1) ez44 rfl (by decide +kernel) (by omega) (by omega)
        refine lv_goto (tgt := 7) hx hb dX7_takes_47 (by decide) ?_
        exact ih7 _ (by omega) z44 _ _ _ rfl ⟨by omega, by omega⟩ (by omega) (rn_step (z := z30) h7b (by omega) (by rw [← zr1.2.2.1 13 (by decide), ← ez14]; omega) (by rw [show (Iz1 p0 14).toInt + v7_2.toInt = z29.toInt by omega]; exact tz30) (decide_eq_true (by have := i41; exact ⟨by omega, by omega⟩)) (by omega)) hP hS (lv_sub hl [1, 2, 0] rfl))
  exact key7 _ 0 _ _ _ rfl ⟨by decide +kernel, by decide +kernel⟩ (by have := oI_7_14 (Iv_at hIz1 hLp0 hKp0); rw [show (0 : Int32).toInt = 0 from by decide +kernel]; omega) (rn_nil (by rw [show (0 : Int32).toInt = 0 from by decide +kernel]; omega)) hP hS (lv_sub hl [1, 2, 0] rfl)

theorem vl_st2 {t : Int → Int} {j s s2 b : Int} (h : j ≤ s) (e : t s = b) (h2 : s2 = s + 1) : vl t j (s2 - j).toNat = 10 * vl t j (s - j).toNat + (b - 48) := by
  rw [show (s2 - j).toNat = (s - j).toNat + 1 by omega]
  show 10 * vl t j (s - j).toNat + (t (j + ((s - j).toNat : Nat)) - 48) = _
  rw [show j + (((s - j).toNat : Nat) : Int) = s by omega, e]

set_option maxHeartbeats 4000000 in
set_option maxRecDepth 100000 in
theorem s_X7_number (l : Launch) (dC : Nat → ClassId) (dI : Nat → Nat → Nat) (cs : Nat → ClassId) (L : List Nat) (K G : Nat → Nat) (Q : Nat → Nat → Option Nat) (hQ : Sv L K G Q) (x0 m0 : Nat) (tx : GT) (tm : GT × Int) (sz : Nat) (I : Nat → Nat → Int32) (J : Nat → Nat → Int64) (hI : Iv L K x0 m0 tx tm I) (p0 : Nat) (hLp0 : p0 ∈ L) (hKp0 : K p0 = 7) (p1 : Int32) (bp1 : (0) ≤ p1.toInt ∧ p1.toInt ≤ 1) (p2 : Int32) (bp2 : (-1) ≤ p2.toInt ∧ p2.toInt ≤ 1000) : Met l yX7_number (.code yX7_number cX7_number 4 (some .int) :: pw) ({ frames := 2, cells := 0, slots := 0, locals := 42 }) (sP (dC, dI) cs [.ref p0, .int p1, .int p2] sz L K I J Q) (va_Qi (fun (r : Int32) (u : Int32) => u = r ∧ ((0) ≤ r.toInt ∧ r.toInt ≤ 100000)) (fun u t => sB (dC, dI) cs L K Q (fun I1 J1 => Iv L K x0 m0 tx tm I1 ∧ (∀ b, ¬ (b = p0) → I1 b = I b) ∧ I1 p0 11 = I p0 11 ∧ ((I p0 14).toInt ≤ (I1 p0 14).toInt ∧ ((I1 p0 15).toInt = -1 → (I p0 15).toInt = -1) ∧ ((I1 p0 15).toInt = -1 → p1.toInt ≤ u.toInt ∧ u.toInt ≤ p2.toInt)) ∧ mdQ I I1 p0 (pn (tb tm.1.2.2 (I p0 13).toInt) p1.toInt p2.toInt (I p0 14).toInt) ∧ (∀ b, K b = 0 ∨ K b = 1 ∨ K b = 3 ∨ K b = 6 → I1 b = I b) ∧ ((I1 p0 15).toInt = -1 → u.toInt = nv (tb tm.1.2.2 (I p0 13).toInt) (I p0 14).toInt) ∧ J1 = J) t) (fun q => q ∈ L ∨ sz ≤ q)) 0 0 (fun q => q ∈ L ∨ sz ≤ q) := by
  refine Met.ofW (cc := cX7_number) (maxL := 4) (ret := (some .int)) (by decide +kernel) rfl ?_
  intro p e s m args below meth c s₁ B hml hv
  obtain ⟨rfl, hsz, hP, hK, hD0, hN⟩ := hv
  have hx := B.exec
  have hb := B.bytes
  have hr := B.returns
  have hts := fun w (h : w ∈ pw) => atoms_spec (ws := Cond.code yX7_number cX7_number 4 (some .int) :: pw) B.pre w (List.mem_cons_of_mem _ h)
  have hown : s.vm.findClass RX7 = some m.cls := findClass_of_methodNamed B.named
  have hlocks := B.notSynchronized
  subst hsz
  have hBB : 999 ≤ tm.2 ∧ tm.2 ≤ 6000000 := hI.2.2.2.2.1
  have dn_I : (∀ b, K b = 0 ∨ K b = 1 ∨ K b = 3 ∨ K b = 6 → I b = I b) := fun _ _ => rfl
  have dj_J : J = J := rfl
  have kp0_11_I : I p0 11 = I p0 11 := rfl
  have fr_I : ∀ b, ¬ (b = p0) → I b = I b := fun _ _ => rfl
  obtain ⟨A, hAe⟩ : ∃ A : Nat → Prop, A = (fun q => q ∈ L ∨ s.heap.size ≤ q) := ⟨_, rfl⟩
  rw [← hAe]
  have hAL : ∀ q, q ∈ L → A q := fun q h => by rw [hAe]; exact Or.inl h
  have hA : ∀ q, s.heap.size ≤ q → A q := fun q h => by rw [hAe]; exact Or.inr h
  have hD : ∀ F, va_D A (va_pl L F) := fun F => (hD0 F).weaken (fun k q hk _ => hAL _ (pl_mem hk))
  obtain ⟨H, hHe⟩ : ∃ H : Heap, H = s.heap := ⟨_, rfl⟩
  have hS : va_S A s.heap H [] := by rw [hHe]; exact va_S.rf
  rw [← hHe] at hP
  have hl := lv_entry ([.ref p0, .int p1, .int p2]) (n := 4) (Nat.le_of_ble_eq_true rfl)
  rw [lg_entry_eq]
  generalize (lg_sl ([.ref p0, .int p1, .int p2]) ++ List.replicate (4 - (lg_sl ([.ref p0, .int p1, .int p2])).length) Slot.unset).toArray = ls at hl ⊢
  have hl : lv_has ls 4 [(0, .ref p0), (1, .int p1), (2, .int p2)] := hl
  rw [← hHe]
  refine namedW (fun R Qz hR hQz => ?_)
  have hby := tpB hQ hI hLp0 hKp0
  refine lv_aload_n hx hb dX7_number_0 rfl (lv_at hl 0 rfl) ?_
  refine ro_i (va_runV (As := []) (rest := []) ⟨hx, hb, hml, hown, hts⟩ (s_X7_isRight l dC dI cs L K G Q hQ x0 m0 tx tm H.size I J hI p0 hLp0 hKp0) (cwV 0 hts (gV pq1219 pq1221 pq12 pq81 pq1222) rfl rfl rfl (by decide +kernel) ⟨(by rw [hR]; exact (Nat.le_of_ble_eq_true rfl)), (by rw [hR]; exact (Nat.le_of_ble_eq_true rfl))⟩) (sP_V hP hD hK hN hLp0 hKp0 rfl rfl) rfl rfl hl.1 rfl (lv_room (Nat.le_of_ble_eq_true rfl)) dX7_number_1 ⟨(by rw [hR]; exact (Nat.le_of_ble_eq_true rfl)), (by rw [hR]; exact (Nat.le_of_ble_eq_true rfl))⟩) hS hP (fun z1 H locs hz1 hP hS => ?_)
  obtain ⟨bz1, xpz1⟩ := hz1
  have j24 : ∀ (I24 : Nat → Nat → Int32) (H : Heap) (lo : List Loc) (ls : Array Slot), Iv L K x0 m0 tx tm I24 → I24 p0 11 = I p0 11 → (∀ b, ¬ (b = p0) → I24 b = I b) → (∀ b, K b = 0 ∨ K b = 1 ∨ K b = 3 ∨ K b = 6 → I24 b = I b) → (I p0 14).toInt ≤ (I24 p0 14).toInt → (((I p0 15).toInt = -1 → (I24 p0 14).toInt = (sk (tb tm.1.2.2 (I p0 13).toInt) (I p0 14).toInt) ∧ dg (tb tm.1.2.2 (I p0 13).toInt) (sk (tb tm.1.2.2 (I p0 13).toInt) (I p0 14).toInt) = (sk (tb tm.1.2.2 (I p0 13).toInt) (I p0 14).toInt)) ∧ I24 p0 13 = I p0 13 ∧ I24 p0 15 = I p0 15) → va_P (dC, dI) vwCl (Wd cs L K I24 J Q) H → va_S A s.heap H lo → lv_has ls 4 [(0, .ref p0), (1, .int p1), (2, .int p2)] → W p l e R s m (([.ref p0, .int p1, .int p2] : List Value).toArray) below meth c H lo 0 0 Qz (F0 m 24 ls []) := by
    intro I24 H lo ls hI24 kp0_11_I24 fr_I24 dn_I24 hm24 h24 hP hS hl
    refine lv_aload_n hx hb dX7_number_24 rfl (lv_at hl 0 rfl) ?_
    refine lv_iconst (v := 1) hx hb dX7_number_25 (by decide +kernel) ?_
    refine lv_aload_n hx hb dX7_number_26 rfl (lv_at hl 0 rfl) ?_
    refine p_get hx hb hts inX7 hown hK hP hLp0 hKp0 rfl rfl 14 (by decide) (hts _ pq1129) rfl dX7_number_27 ?_
    refine lv_topi (fun z27 ez27 => ?_)
    have cgz27 := congrArg Int32.toInt ez27
    have bz27 := oI_7_14 (Iv_at hI24 hLp0 hKp0)
    rw [← ez27] at bz27
    refine sw_v (Z := (fun I1 J1 => Iv L K x0 m0 tx tm I1 ∧ (∀ b, ¬ (b = p0) → I1 b = I24 b) ∧ I1 p0 11 = I24 p0 11 ∧ (((I24 p0 14).toInt ≤ (I1 p0 14).toInt ∧ ((I1 p0 15).toInt = -1 → (I24 p0 15).toInt = -1) ∧ (∀ k, ¬ k = 15 → I1 p0 k = I24 p0 k) ∧ ¬ (I1 p0 15).toInt = -1)) ∧ (((I24 p0 15).toInt = -1 → (I1 p0 15).toInt = 8 * z27.toInt + (1 : Int32).toInt) ∧ (¬ (I24 p0 15).toInt = -1 → I1 p0 15 = I24 p0 15)) ∧ (∀ b, K b = 0 ∨ K b = 1 ∨ K b = 3 ∨ K b = 6 → I1 b = I24 b) ∧ J1 = J)) (va_runV (As := [.int 1, .int z27]) (rest := []) ⟨hx, hb, hml, hown, hts⟩ (s_X7_fails l dC dI cs L K G Q hQ x0 m0 tx tm H.size I24 J hI24 p0 hLp0 hKp0 1 ⟨by decide +kernel, by decide +kernel⟩ z27 ⟨by omega, by omega⟩) (cwV 2 hts (gV pq1239 pq1241 pq15 pq81 pq1242) rfl rfl rfl (by decide +kernel) ⟨(by rw [hR]; exact (Nat.le_of_ble_eq_true rfl)), (by rw [hR]; exact (Nat.le_of_ble_eq_true rfl))⟩) (sP_V hP hD hK hN hLp0 hKp0 rfl rfl) rfl rfl hl.1 rfl (lv_room (Nat.le_of_ble_eq_true rfl)) dX7_number_30 ⟨(by rw [hR]; exact (Nat.le_of_ble_eq_true rfl)), (by rw [hR]; exact (Nat.le_of_ble_eq_true rfl))⟩) hS hAL hA (fun Iz30 Jz30 H locs hz30 hIz30 hP hS => ?_)
    obtain ⟨hIz30, frc30, kc30_0_11, zp30, fz30, dnc30, djc30⟩ := hIz30
    obtain rfl : J = Jz30 := djc30.symm
    have dn_Iz30 : (∀ b, K b = 0 ∨ K b = 1 ∨ K b = 3 ∨ K b = 6 → Iz30 b = I b) := fun b hc => (dnc30 b (by omega)).trans (dn_I24 b hc)
    have kp0_11_Iz30 : Iz30 p0 11 = I p0 11 := kc30_0_11.trans kp0_11_I24
    have fr_Iz30 : ∀ b, ¬ (b = p0) → Iz30 b = I b := fun b q => (frc30 b (fun z => q (z))).trans (fr_I24 b q)
    have cst30_1 : (1 : Int32).toInt = 1 := by decide +kernel
    refine lv_iconst (v := 0) hx hb dX7_number_33 (by decide +kernel) ?_
    subst hR; subst hQz
    exact W.iret (v := 0) hx hb hr (fun t ht hW => ⟨⟨0, 0, rfl, ⟨rfl, ⟨by decide +kernel, by decide +kernel⟩⟩, ⟨Iz30, J, ⟨hIz30, fr_Iz30, kp0_11_Iz30, ⟨Int.le_trans hm24 zp30.1, fun h => absurd h zp30.2.2.2, fun h => absurd h zp30.2.2.2⟩, (by have w := fz30; rw [cst30_1, h24.2.2, congrArg Int32.toInt ez27] at w; have k13 : Iz30 p0 13 = I p0 13 := (zp30.2.2.1 13 (by decide)).trans h24.2.1; exact ⟨k13, fun q => by rw [pn_none (h24.1 q).2]; have h0 := (oI_7_14 (Iv_at hI24 hLp0 hKp0)).1; rw [(h24.1 q).1] at h0; exact (mdQ_no k13 q (by omega) ((w.1 q).trans (by rw [(h24.1 q).1]))).2.1 q, fun q => (w.2 q)⟩), dn_Iz30, (fun h => absurd h zp30.2.2.2), dj_J⟩, by rw [ht]; exact hP⟩⟩, hS.F ht⟩) hS.2.2 dX7_number_34
  refine lv_if_eq (tgt := 24) hx hb dX7_number_4 (by decide) (fun c4 => ?_) (fun c4 => ?_)
  · have t4 := tq_eq (k := z1.toInt) (q := (0)) c4 rfl (by decide +kernel)
    exact j24 I _ _ _ hI kp0_11_I fr_I dn_I (Int.le_refl _) ⟨fun h => absurd h (xpz1.2 t4), rfl, rfl⟩ hP hS (lv_sub hl [0, 1, 2] rfl)
  · have t4 := tq_ne (k := z1.toInt) (q := (0)) c4 rfl (by decide +kernel)
    refine lv_aload_n hx hb dX7_number_7 rfl (lv_at hl 0 rfl) ?_
    refine sw_ir (Z := (fun u => (fun I1 J1 => Iv L K x0 m0 tx tm I1 ∧ (∀ b, ¬ (b = p0) → I1 b = I b) ∧ I1 p0 11 = I p0 11 ∧ ((I p0 14).toInt ≤ (I1 p0 14).toInt ∧ ((I1 p0 15).toInt = -1 → (I p0 15).toInt = -1) ∧ (∀ k, ¬ k = 14 → I1 p0 k = I p0 k) ∧ (¬ u.toInt = -1 → (I1 p0 14).toInt < (I1 p0 13).toInt)) ∧ (u.toInt = sgB ((tb tm.1.2.2 (I p0 13).toInt) (sk (tb tm.1.2.2 (I p0 13).toInt) (I p0 14).toInt)) ∧ (I1 p0 14).toInt = (sk (tb tm.1.2.2 (I p0 13).toInt) (I p0 14).toInt)) ∧ (∀ b, K b = 0 ∨ K b = 1 ∨ K b = 3 ∨ K b = 6 → I1 b = I b) ∧ J1 = J))) (va_runV (As := []) (rest := []) ⟨hx, hb, hml, hown, hts⟩ (s_X7_next l dC dI cs L K G Q hQ x0 m0 tx tm H.size I J hI p0 hLp0 hKp0) (cwV 0 hts (gV pq1211 pq1213 pq10 pq81 pq1214) rfl rfl rfl (by decide +kernel) ⟨(by rw [hR]; exact (Nat.le_of_ble_eq_true rfl)), (by rw [hR]; exact (Nat.le_of_ble_eq_true rfl))⟩) (sP_V hP hD hK hN hLp0 hKp0 rfl rfl) rfl rfl hl.1 rfl (lv_room (Nat.le_of_ble_eq_true rfl)) dX7_number_8 ⟨(by rw [hR]; exact (Nat.le_of_ble_eq_true rfl)), (by rw [hR]; exact (Nat.le_of_ble_eq_true rfl))⟩) hS hAL hA (fun z8 Iz8 Jz8 H locs hz8 hIz8 hP hS => ?_)
    obtain ⟨hIz8, frc8, kc8_0_11, zr8, fz8, dnc8, djc8⟩ := hIz8
    obtain rfl : J = Jz8 := djc8.symm
    have dn_Iz8 : (∀ b, K b = 0 ∨ K b = 1 ∨ K b = 3 ∨ K b = 6 → Iz8 b = I b) := fun b hc => (dnc8 b (by omega)).trans (dn_I b hc)
    have kp0_11_Iz8 : Iz8 p0 11 = I p0 11 := kc8_0_11.trans kp0_11_I
    have fr_Iz8 : ∀ b, ¬ (b = p0) → Iz8 b = I b := fun b q => (frc8 b (fun z => q (z))).trans (fr_I b q)
    have bz8 := hz8
    refine lv_i2l hx hb dX7_number_11 rfl ?_
    refine lv_topl (fun z11 ez11 => ?_)
    have bz11 := tq_i2l (k := z8.toInt) ez11 rfl
    refine lv_ldc2 hx hb hown (hts _ pq1266) dX7_number_12 ?_
    refine lv_ldc2 hx hb hown (hts _ pq1267) dX7_number_15 ?_
    refine ro_i (va_runS (As := [.long z11, .long 48, .long 57]) (rest := []) ⟨hx, hb, hml, hown, hts⟩ (s_X7_in l dC dI cs L K Q H.size Iz8 J z11 48 57) (va_cwS 3 hts (gS pq1234 pq1235 pq81 pq1236) rfl rfl rfl (by decide +kernel) ⟨(by rw [hR]; exact (Nat.le_of_ble_eq_true rfl)), (by rw [hR]; exact (Nat.le_of_ble_eq_true rfl))⟩) (sP_S hP hD hK hN) rfl rfl hl.1 rfl (lv_room (Nat.le_of_ble_eq_true rfl)) dX7_number_18 ⟨(by rw [hR]; exact (Nat.le_of_ble_eq_true rfl)), (by rw [hR]; exact (Nat.le_of_ble_eq_true rfl))⟩) hS hP (fun z18 H locs hz18 hP hS => ?_)
    have csl18_48 : (48 : Int64).toInt = 48 := by decide +kernel
    have csl18_57 : (57 : Int64).toInt = 57 := by decide +kernel
    obtain ⟨bz18, imz18, xpz18⟩ := hz18
    refine lv_if_ne (tgt := 35) hx hb dX7_number_21 (by decide) (fun c21 => ?_) (fun c21 => ?_)
    · have t21 := tq_ne (k := z18.toInt) (q := (0)) c21 rfl (by decide +kernel)
      have i21 := imz18 t21
      have hnd : ¬ dg (tb tm.1.2.2 (I p0 13).toInt) (sk (tb tm.1.2.2 (I p0 13).toInt) (I p0 14).toInt) = (sk (tb tm.1.2.2 (I p0 13).toInt) (I p0 14).toInt) := dg_ne (decide_eq_true (by have v := i21; have w := fz8.1; exact (sg_d (tb_rng hby) 48 57 (by decide)).mp (by rw [← w]; exact ⟨by omega, by omega⟩)))
      refine lv_aload_n hx hb dX7_number_35 rfl (lv_at hl 0 rfl) ?_
      refine lv_aload_n hx hb dX7_number_36 rfl (lv_at hl 0 rfl) ?_
      refine p_get hx hb hts inX7 hown hK hP hLp0 hKp0 rfl rfl 14 (by decide) (hts _ pq1129) rfl dX7_number_37 ?_
      refine lv_topi (fun z37 ez37 => ?_)
      have cgz37 := congrArg Int32.toInt ez37
      have bz37 := oI_7_14 (Iv_at hIz8 hLp0 hKp0)
      rw [← ez37] at bz37
      refine p_put hx hb hts inX7 tyX7 tyX7_ok nmX7 hown hK hP hD hS hLp0 hKp0 rfl rfl 16 (by decide) (hts _ pq1131) rfl (by decide +kernel) (Nat.le_of_ble_eq_true rfl) (oS_7_16 cs _ _ _ _) dX7_number_40 (fun H locs hP hS => ?_)
      obtain ⟨Iz40, hP, hIz40, qIz40⟩ : ∃ Iz40, va_P (dC, dI) vwCl (Wd cs L K Iz40 J Q) H ∧ Iv L K x0 m0 tx tm Iz40 ∧ Iz40 = va_up Iz8 p0 (upd (Iz8 p0) 16 z37) := ⟨_, hP, Iv_put hIz8 hKp0 (oP_7_16 (Iv_at hIz8 hLp0 hKp0) ⟨by omega, by omega⟩) (by decide) (by decide), rfl⟩
      have dn_Iz40 : (∀ b, K b = 0 ∨ K b = 1 ∨ K b = 3 ∨ K b = 6 → Iz40 b = I b) := fun b hc => (congrFun qIz40 b).trans ((va_up_ne _ _ (fun z => by have q := hKp0; rw [← z] at q; omega)).trans (dn_Iz8 b hc))
      have kp0_11_Iz40 : Iz40 p0 11 = I p0 11 := (congrFun (congrFun qIz40 p0) 11).trans ((rz_fr _ _ _ _ (by decide)).trans kp0_11_Iz8)
      have fr_Iz40 : ∀ b, ¬ (b = p0) → Iz40 b = I b := fun b q => (congrFun qIz40 b).trans ((va_up_ne _ _ (fun z => q z)).trans (fr_Iz8 b q))
      refine lv_iconst (v := 0) hx hb dX7_number_43 (by decide +kernel) ?_
      refine lv_istore_n (lv' := [(3, .int 0), (0, .ref p0), (1, .int p1), (2, .int p2)]) hx hb dX7_number_44 rfl hl (by decide) rfl (fun ls hl => ?_)
      have key45 := blocks (fun n => ∀ (v45_3 : Int32) (I45 : Nat → Nat → Int32) (H : Heap) (lo : List Loc) (ls : Array Slot), (401 - (I45 p0 14).toInt).toNat = n → ((0) ≤ v45_3.toInt ∧ v45_3.toInt ≤ 100000) → Iv L K x0 m0 tx tm I45 → I45 p0 11 = I p0 11 → (∀ b, ¬ (b = p0) → I45 b = I b) → (∀ b, K b = 0 ∨ K b = 1 ∨ K b = 3 ∨ K b = 6 → I45 b = I b) → ((I p0 14).toInt ≤ (I45 p0 14).toInt ∧ (I45 p0 15).toInt = -1) → (I45 p0 13 = I p0 13 ∧ I45 p0 16 = z37 ∧ z37.toInt ≤ (I45 p0 14).toInt ∧ (∀ k, z37.toInt ≤ k → k < (I45 p0 14).toInt → pD ((tb tm.1.2.2 (I p0 13).toInt) k) = true) ∧ cl6 100000 v45_3.toInt (vl (tb tm.1.2.2 (I p0 13).toInt) z37.toInt ((I45 p0 14).toInt - z37.toInt).toNat)) → va_P (dC, dI) vwCl (Wd cs L K I45 J Q) H → va_S A s.heap H lo → lv_has ls 4 [(0, .ref p0), (1, .int p1), (2, .int p2), (3, .int v45_3)] → W p l e R s m (([.ref p0, .int p1, .int p2] : List Value).toArray) below meth c H lo 0 0 Qz (F0 m 45 ls [])) (by
        intro n ih45
        intro v45_3 I45 H lo ls hmu45 bv45_3 hI45 kp0_11_I45 fr_I45 dn_I45 hm45 h45 hP hS hl
        have b13 := oI_7_13 (Iv_at hI45 hLp0 hKp0)
        have b14 := oI_7_14 (Iv_at hI45 hLp0 hKp0)
        refine lv_aload_n hx hb dX7_number_45 rfl (lv_at hl 0 rfl) ?_
        refine ro_i (va_runV (As := []) (rest := []) ⟨hx, hb, hml, hown, hts⟩ (s_X7_sign l dC dI cs L K G Q hQ x0 m0 tx tm H.size I45 J hI45 p0 hLp0 hKp0) (cwV 0 hts (gV pq1215 pq1217 pq11 pq81 pq1218) rfl rfl rfl (by decide +kernel) ⟨(by rw [hR]; exact (Nat.le_of_ble_eq_true rfl)), (by rw [hR]; exact (Nat.le_of_ble_eq_true rfl))⟩) (sP_V hP hD hK hN hLp0 hKp0 rfl rfl) rfl rfl hl.1 rfl (lv_room (Nat.le_of_ble_eq_true rfl)) dX7_number_46 ⟨(by rw [hR]; exact (Nat.le_of_ble_eq_true rfl)), (by rw [hR]; exact (Nat.le_of_ble_eq_true rfl))⟩) hS hP (fun z46 H locs hz46 hP hS => ?_)
        obtain ⟨bz46, fez46, xpz46⟩ := hz46
        refine lv_i2l hx hb dX7_number_49 rfl ?_
        refine lv_topl (fun z49 ez49 => ?_)
        have bz49 := tq_i2l (k := z46.toInt) ez49 rfl
        refine lv_ldc2 hx hb hown (hts _ pq1266) dX7_number_50 ?_
        refine lv_ldc2 hx hb hown (hts _ pq1267) dX7_number_53 ?_
        refine ro_i (va_runS (As := [.long z49, .long 48, .long 57]) (rest := []) ⟨hx, hb, hml, hown, hts⟩ (s_X7_in l dC dI cs L K Q H.size I45 J z49 48 57) (va_cwS 3 hts (gS pq1234 pq1235 pq81 pq1236) rfl rfl rfl (by decide +kernel) ⟨(by rw [hR]; exact (Nat.le_of_ble_eq_true rfl)), (by rw [hR]; exact (Nat.le_of_ble_eq_true rfl))⟩) (sP_S hP hD hK hN) rfl rfl hl.1 rfl (lv_room (Nat.le_of_ble_eq_true rfl)) dX7_number_56 ⟨(by rw [hR]; exact (Nat.le_of_ble_eq_true rfl)), (by rw [hR]; exact (Nat.le_of_ble_eq_true rfl))⟩) hS hP (fun z56 H locs hz56 hP hS => ?_)
        have csl56_48 : (48 : Int64).toInt = 48 := by decide +kernel
        have csl56_57 : (57 : Int64).toInt = 57 := by decide +kernel
        obtain ⟨bz56, imz56, xpz56⟩ := hz56
        refine lv_if_eq (tgt := 93) hx hb dX7_number_59 (by decide) (fun c59 => ?_) (fun c59 => ?_)
        · have t59 := tq_eq (k := z56.toInt) (q := (0)) c59 rfl (by decide +kernel)
          have h93 : (I45 p0 14).toInt = dg (tb tm.1.2.2 (I p0 13).toInt) z37.toInt := rn_eq h45.2.2.1 (by omega) h45.2.2.2.1 (decide_eq_false (fun h => xpz56 t59 (by have w := xpz46.2; rw [h45.1] at w; have v := (sg_d (tb_rng hby) 48 57 (by decide)).mpr h; rw [← w] at v; exact ⟨by omega, by omega⟩)))
          refine lv_iload_n hx hb dX7_number_93 rfl (lv_at hl 3 rfl) ?_
          refine lv_i2l hx hb dX7_number_94 rfl ?_
          refine lv_topl (fun z94 ez94 => ?_)
          have bz94 := tq_i2l (k := v45_3.toInt) ez94 rfl
          refine lv_iload_n hx hb dX7_number_95 rfl (lv_at hl 1 rfl) ?_
          refine lv_i2l hx hb dX7_number_96 rfl ?_
          refine lv_topl (fun z96 ez96 => ?_)
          have bz96 := tq_i2l (k := p1.toInt) ez96 rfl
          refine lv_iload_n hx hb dX7_number_97 rfl (lv_at hl 2 rfl) ?_
          refine lv_i2l hx hb dX7_number_98 rfl ?_
          refine lv_topl (fun z98 ez98 => ?_)
          have bz98 := tq_i2l (k := p2.toInt) ez98 rfl
          refine ro_i (va_runS (As := [.long z94, .long z96, .long z98]) (rest := []) ⟨hx, hb, hml, hown, hts⟩ (s_X7_in l dC dI cs L K Q H.size I45 J z94 z96 z98) (va_cwS 3 hts (gS pq1234 pq1235 pq81 pq1236) rfl rfl rfl (by decide +kernel) ⟨(by rw [hR]; exact (Nat.le_of_ble_eq_true rfl)), (by rw [hR]; exact (Nat.le_of_ble_eq_true rfl))⟩) (sP_S hP hD hK hN) rfl rfl hl.1 rfl (lv_room (Nat.le_of_ble_eq_true rfl)) dX7_number_99 ⟨(by rw [hR]; exact (Nat.le_of_ble_eq_true rfl)), (by rw [hR]; exact (Nat.le_of_ble_eq_true rfl))⟩) hS hP (fun z99 H locs hz99 hP hS => ?_)
          obtain ⟨bz99, imz99, xpz99⟩ := hz99
          refine lv_if_ne (tgt := 114) hx hb dX7_number_102 (by decide) (fun c102 => ?_) (fun c102 => ?_)
          · have t102 := tq_ne (k := z99.toInt) (q := (0)) c102 rfl (by decide +kernel)
            have i102 := imz99 t102
            refine lv_iload_n hx hb dX7_number_114 rfl (lv_at hl 3 rfl) ?_
            subst hR; subst hQz
            exact W.iret (v := v45_3) hx hb hr (fun t ht hW => ⟨⟨v45_3, v45_3, rfl, ⟨rfl, ⟨by omega, by omega⟩⟩, ⟨I45, J, ⟨hI45, fr_I45, kp0_11_I45, ⟨hm45.1, fun _ => xpz1.1 t4, fun _ => by have := i102; exact ⟨by omega, by omega⟩⟩, (by have f := xpz1.1 t4; have e37 : z37.toInt = (sk (tb tm.1.2.2 (I p0 13).toInt) (I p0 14).toInt) := cgz37.trans fz8.2; have e93 : (I45 p0 14).toInt = dg (tb tm.1.2.2 (I p0 13).toInt) z37.toInt := h93; have nd : ¬ dg (tb tm.1.2.2 (I p0 13).toInt) (sk (tb tm.1.2.2 (I p0 13).toInt) (I p0 14).toInt) = (sk (tb tm.1.2.2 (I p0 13).toInt) (I p0 14).toInt) := hnd; have V := h45.2.2.2.2; rw [e93, e37] at V; rw [pn_ok nd V (by have := i102; exact ⟨by omega, by omega⟩) (by omega)]; exact mdQ_ok h45.1 f hm45.2 (by rw [e93, e37])), dn_I45, (fun _ => by have e37 : z37.toInt = (sk (tb tm.1.2.2 (I p0 13).toInt) (I p0 14).toInt) := cgz37.trans fz8.2; have e93 : (I45 p0 14).toInt = dg (tb tm.1.2.2 (I p0 13).toInt) z37.toInt := h93; have V := h45.2.2.2.2; rw [e93, e37] at V; unfold nv; exact cl6_lt V (by have := i102; omega)), dj_J⟩, by rw [ht]; exact hP⟩⟩, hS.F ht⟩) hS.2.2 dX7_number_115
          · have t102 := tq_eq (k := z99.toInt) (q := (0)) c102 rfl (by decide +kernel)
            refine lv_aload_n hx hb dX7_number_105 rfl (lv_at hl 0 rfl) ?_
            refine lv_iconst (v := 2) hx hb dX7_number_106 (by decide +kernel) ?_
            refine lv_aload_n hx hb dX7_number_107 rfl (lv_at hl 0 rfl) ?_
            refine p_get hx hb hts inX7 hown hK hP hLp0 hKp0 rfl rfl 16 (by decide) (hts _ pq1131) rfl dX7_number_108 ?_
            refine lv_topi (fun z108 ez108 => ?_)
            have bz108 := oI_7_16 (Iv_at hI45 hLp0 hKp0)
            rw [← ez108] at bz108
            refine sw_v (Z := (fun I1 J1 => Iv L K x0 m0 tx tm I1 ∧ (∀ b, ¬ (b = p0) → I1 b = I45 b) ∧ I1 p0 11 = I45 p0 11 ∧ (((I45 p0 14).toInt ≤ (I1 p0 14).toInt ∧ ((I1 p0 15).toInt = -1 → (I45 p0 15).toInt = -1) ∧ (∀ k, ¬ k = 15 → I1 p0 k = I45 p0 k) ∧ ¬ (I1 p0 15).toInt = -1)) ∧ (((I45 p0 15).toInt = -1 → (I1 p0 15).toInt = 8 * z108.toInt + (2 : Int32).toInt) ∧ (¬ (I45 p0 15).toInt = -1 → I1 p0 15 = I45 p0 15)) ∧ (∀ b, K b = 0 ∨ K b = 1 ∨ K b = 3 ∨ K b = 6 → I1 b = I45 b) ∧ J1 = J)) (va_runV (As := [.int 2, .int z108]) (rest := []) ⟨hx, hb, hml, hown, hts⟩ (s_X7_fails l dC dI cs L K G Q hQ x0 m0 tx tm H.size I45 J hI45 p0 hLp0 hKp0 2 ⟨by decide +kernel, by decide +kernel⟩ z108 ⟨by omega, by omega⟩) (cwV 2 hts (gV pq1239 pq1241 pq15 pq81 pq1242) rfl rfl rfl (by decide +kernel) ⟨(by rw [hR]; exact (Nat.le_of_ble_eq_true rfl)), (by rw [hR]; exact (Nat.le_of_ble_eq_true rfl))⟩) (sP_V hP hD hK hN hLp0 hKp0 rfl rfl) rfl rfl hl.1 rfl (lv_room (Nat.le_of_ble_eq_true rfl)) dX7_number_111 ⟨(by rw [hR]; exact (Nat.le_of_ble_eq_true rfl)), (by rw [hR]; exact (Nat.le_of_ble_eq_true rfl))⟩) hS hAL hA (fun Iz111 Jz111 H locs hz111 hIz111 hP hS => ?_)
            obtain ⟨hIz111, frc111, kc111_0_11, zp111, fz111, dnc111, djc111⟩ := hIz111
            obtain rfl : J = Jz111 := djc111.symm
            have dn_Iz111 : (∀ b, K b = 0 ∨ K b = 1 ∨ K b = 3 ∨ K b = 6 → Iz111 b = I b) := fun b hc => (dnc111 b (by omega)).trans (dn_I45 b hc)
            have kp0_11_Iz111 : Iz111 p0 11 = I p0 11 := kc111_0_11.trans kp0_11_I45
            have fr_Iz111 : ∀ b, ¬ (b = p0) → Iz111 b = I b := fun b q => (frc111 b (fun z => q (z))).trans (fr_I45 b q)
            have cst111_2 : (2 : Int32).toInt = 2 := by decide +kernel
            refine lv_iload_n hx hb dX7_number_114 rfl (lv_at hl 3 rfl) ?_
            subst hR; subst hQz
            exact W.iret (v := v45_3) hx hb hr (fun t ht hW => ⟨⟨v45_3, v45_3, rfl, ⟨rfl, ⟨by omega, by omega⟩⟩, ⟨Iz111, J, ⟨hIz111, fr_Iz111, kp0_11_Iz111, ⟨Int.le_trans hm45.1 zp111.1, fun h => absurd h zp111.2.2.2, fun h => absurd h zp111.2.2.2⟩, (by have f := xpz1.1 t4; have e37 : z37.toInt = (sk (tb tm.1.2.2 (I p0 13).toInt) (I p0 14).toInt) := cgz37.trans fz8.2; have e93 : (I45 p0 14).toInt = dg (tb tm.1.2.2 (I p0 13).toInt) z37.toInt := h93; have nd : ¬ dg (tb tm.1.2.2 (I p0 13).toInt) (sk (tb tm.1.2.2 (I p0 13).toInt) (I p0 14).toInt) = (sk (tb tm.1.2.2 (I p0 13).toInt) (I p0 14).toInt) := hnd; have V := h45.2.2.2.2; rw [e93, e37] at V; rw [pn_bad nd V (fun h => xpz99 t102 (by exact ⟨by omega, by omega⟩)) (by omega) (by omega)]; have w := fz111; rw [cst111_2, congrArg Int32.toInt (ez108.trans h45.2.1), e37] at w; have h0 := (oI_7_14 (Iv_at hIz8 hLp0 hKp0)).1; rw [fz8.2] at h0; exact mdQ_no ((zp111.2.2.1 13 (by decide)).trans h45.1) f (by omega) (w.1 hm45.2)), dn_Iz111, (fun h => absurd h zp111.2.2.2), dj_J⟩, by rw [ht]; exact hP⟩⟩, hS.F ht⟩) hS.2.2 dX7_number_115
        · have t59 := tq_ne (k := z56.toInt) (q := (0)) c59 rfl (by decide +kernel)
          have i59 := imz56 t59
          refine lv_ldc hx hb hown (hts _ pq1268) dX7_number_62 ?_
          refine lv_bipush (v := 10) hx hb dX7_number_64 (by decide +kernel) ?_
          refine lv_iload_n hx hb dX7_number_66 rfl (lv_at hl 3 rfl) ?_
          refine lv_imul hx hb dX7_number_67 ?_
          refine lv_topi (fun z67 ez67 => ?_)
          have bz67 := tq_mul (k := (10)) (q := v45_3.toInt) ez67 (by decide +kernel) rfl (by omega) (by omega)
          refine lv_aload_n hx hb dX7_number_68 rfl (lv_at hl 0 rfl) ?_
          refine ro_i (va_runV (As := []) (rest := [.int z67, .int 100000]) ⟨hx, hb, hml, hown, hts⟩ (s_X7_sign l dC dI cs L K G Q hQ x0 m0 tx tm H.size I45 J hI45 p0 hLp0 hKp0) (cwV 0 hts (gV pq1215 pq1217 pq11 pq81 pq1218) rfl rfl rfl (by decide +kernel) ⟨(by rw [hR]; exact (Nat.le_of_ble_eq_true rfl)), (by rw [hR]; exact (Nat.le_of_ble_eq_true rfl))⟩) (sP_V hP hD hK hN hLp0 hKp0 rfl rfl) rfl rfl hl.1 rfl (lv_room (Nat.le_of_ble_eq_true rfl)) dX7_number_69 ⟨(by rw [hR]; exact (Nat.le_of_ble_eq_true rfl)), (by rw [hR]; exact (Nat.le_of_ble_eq_true rfl))⟩) hS hP (fun z69 H locs hz69 hP hS => ?_)
          obtain ⟨bz69, fez69, xpz69⟩ := hz69
          obtain rfl : z46 = z69 := fez46.trans fez69.symm
          refine lv_iadd hx hb dX7_number_72 ?_
          refine lv_topi (fun z72 ez72 => ?_)
          have bz72 := tq_add (k := z67.toInt) (q := z46.toInt) ez72 rfl rfl (by omega) (by omega)
          refine lv_bipush (v := 48) hx hb dX7_number_73 (by decide +kernel) ?_
          refine lv_isub hx hb dX7_number_75 ?_
          refine lv_topi (fun z75 ez75 => ?_)
          have bz75 := tq_sub (k := z72.toInt) (q := (48)) ez75 rfl (by decide +kernel) (by omega) (by omega)
          refine va_mmin hx hb (hml.trans hl.1.symm) hown (hts _ pq1269) (hts _ pq407) (hts _ pq82) (hts _ pq408) (by rw [hR]; exact (Nat.le_of_ble_eq_true rfl)) (by rw [hR]; exact (Nat.le_of_ble_eq_true rfl)) (by rw [hR]; exact (Nat.le_of_ble_eq_true rfl)) (by rw [hR]; exact (Nat.le_of_ble_eq_true rfl)) dX7_number_76 ?_
          refine lv_topi (fun z76 ez76 => ?_)
          have bz76 := tq_min ez76
          have bz76x : (100000 : Int32).toInt = 100000 := by decide +kernel
          refine lv_istore_n (lv' := [(3, .int z76), (0, .ref p0), (1, .int p1), (2, .int p2)]) hx hb dX7_number_79 rfl hl (by decide) rfl (fun ls hl => ?_)
          refine lv_aload_n hx hb dX7_number_80 rfl (lv_at hl 1 rfl) ?_
          refine lv_dup hx hb dX7_number_81 rfl ?_
          refine p_get hx hb hts inX7 hown hK hP hLp0 hKp0 rfl rfl 14 (by decide) (hts _ pq1129) rfl dX7_number_82 ?_
          refine lv_topi (fun z82 ez82 => ?_)
          have cgz82 := congrArg Int32.toInt ez82
          have bz82 := oI_7_14 (Iv_at hI45 hLp0 hKp0)
          rw [← ez82] at bz82
          refine lv_iconst (v := 1) hx hb dX7_number_85 (by decide +kernel) ?_
          refine lv_iadd hx hb dX7_number_86 ?_
          refine lv_topi (fun z86 ez86 => ?_)
          have bz86 := tq_add (k := z82.toInt) (q := (1)) ez86 rfl (by decide +kernel) (by omega) (by omega)
          refine p_put hx hb hts inX7 tyX7 tyX7_ok nmX7 hown hK hP hD hS hLp0 hKp0 rfl rfl 14 (by decide) (hts _ pq1129) rfl (by decide +kernel) (Nat.le_of_ble_eq_true rfl) (oS_7_14 cs _ _ _ _) dX7_number_87 (fun H locs hP hS => ?_)
          obtain ⟨Iz87, hP, hIz87, qIz87⟩ : ∃ Iz87, va_P (dC, dI) vwCl (Wd cs L K Iz87 J Q) H ∧ Iv L K x0 m0 tx tm Iz87 ∧ Iz87 = va_up I45 p0 (upd (I45 p0) 14 z86) := ⟨_, hP, Iv_put hI45 hKp0 (oP_7_14 (Iv_at hI45 hLp0 hKp0) ⟨by omega, by omega⟩) (by decide) (by decide), rfl⟩
          have dn_Iz87 : (∀ b, K b = 0 ∨ K b = 1 ∨ K b = 3 ∨ K b = 6 → Iz87 b = I b) := fun b hc => (congrFun qIz87 b).trans ((va_up_ne _ _ (fun z => by have q := hKp0; rw [← z] at q; omega)).trans (dn_I45 b hc))
          have kp0_11_Iz87 : Iz87 p0 11 = I p0 11 := (congrFun (congrFun qIz87 p0) 11).trans ((rz_fr _ _ _ _ (by decide)).trans kp0_11_I45)
          have fr_Iz87 : ∀ b, ¬ (b = p0) → Iz87 b = I b := fun b q => (congrFun qIz87 b).trans ((va_up_ne _ _ (fun z => q z)).trans (fr_I45 b q))
          refine lv_goto (tgt := 45) hx hb dX7_number_90 (by decide) ?_
          exact ih45 _ (by rw [qIz87, rz_at]; omega) z76 Iz87 _ _ _ rfl ⟨by omega, by omega⟩ hIz87 kp0_11_Iz87 fr_Iz87 dn_Iz87 ⟨by rw [qIz87, rz_at]; omega, by rw [qIz87, rz_fr _ _ _ _ (by decide)]; exact hm45.2⟩ ⟨by rw [qIz87, rz_fr _ _ _ _ (by decide)]; exact h45.1, by rw [qIz87, rz_fr _ _ _ _ (by decide)]; exact h45.2.1, by rw [qIz87, rz_at]; omega, (fun k a b => by rw [qIz87, rz_at, bz86, cgz82] at b; rcases Int.lt_or_le k (I45 p0 14).toInt with q | q; exact h45.2.2.2.1 k a q; obtain rfl : k = (I45 p0 14).toInt := (by omega); have w := (show z46.toInt = tb tm.1.2.2 (I p0 13).toInt (I45 p0 14).toInt from (by have w := xpz46.2; rw [h45.1] at w; exact w.trans (sg_v (tb_rng hby) (Or.inr (by rw [← w]; have := i59; omega))))); have v := i59; exact decide_eq_true (by rw [← w]; exact ⟨by omega, by omega⟩)), by rw [vl_st2 (b := z46.toInt) h45.2.2.1 (Eq.symm (show z46.toInt = tb tm.1.2.2 (I p0 13).toInt (I45 p0 14).toInt from (by have w := xpz46.2; rw [h45.1] at w; exact w.trans (sg_v (tb_rng hby) (Or.inr (by rw [← w]; have := i59; omega)))))) (by rw [qIz87, rz_at]; omega)]; exact cl6_step h45.2.2.2.2 ⟨by have := i59; omega, by have := i59; omega⟩ (by omega) (by decide) (by omega) (by omega) (by omega)⟩ hP hS (lv_sub hl [1, 2, 3, 0] rfl))
      exact key45 _ 0 Iz40 _ _ _ rfl ⟨by decide +kernel, by decide +kernel⟩ hIz40 kp0_11_Iz40 fr_Iz40 dn_Iz40 ⟨by rw [qIz40, rz_fr _ _ _ _ (by decide)]; exact zr8.1, by rw [qIz40, rz_fr _ _ _ _ (by decide), zr8.2.2.1 15 (by decide)]; exact xpz1.1 t4⟩ ⟨by rw [qIz40, rz_fr _ _ _ _ (by decide)]; exact zr8.2.2.1 13 (by decide), by rw [qIz40, rz_at], by rw [qIz40, rz_fr _ _ _ _ (by decide)]; omega, rn_nil (by rw [qIz40, rz_fr _ _ _ _ (by decide)]; omega), by rw [qIz40, rz_fr _ _ _ _ (by decide), ← cgz37, Int.sub_self]; exact Or.inl ⟨rfl, (show (0 : Int) ≤ 100000 by decide)⟩⟩ hP hS (lv_sub hl [1, 2, 3, 0] rfl)
    · have t21 := tq_eq (k := z18.toInt) (q := (0)) c21 rfl (by decide +kernel)
      exact j24 Iz8 _ _ _ hIz8 kp0_11_Iz8 fr_Iz8 dn_Iz8 zr8.1 ⟨fun _ => ⟨fz8.2, rn_stay (decide_eq_false (fun h => xpz18 t21 (by have w := fz8.1; have v := (sg_d (tb_rng hby) 48 57 (by decide)).mpr h; rw [← w] at v; exact ⟨by omega, by omega⟩)))⟩, zr8.2.2.1 13 (by decide), zr8.2.2.1 15 (by decide)⟩ hP hS (lv_sub hl [0, 1, 2] rfl)

set_option maxHeartbeats 4000000 in
set_option maxRecDepth 100000 in
theorem s_X7_signed (l : Launch) (dC : Nat → ClassId) (dI : Nat → Nat → Nat) (cs : Nat → ClassId) (L : List Nat) (K G : Nat → Nat) (Q : Nat → Nat → Option Nat) (hQ : Sv L K G Q) (x0 m0 : Nat) (tx : GT) (tm : GT × Int) (sz : Nat) (I : Nat → Nat → Int32) (J : Nat → Nat → Int64) (hI : Iv L K x0 m0 tx tm I) (p0 : Nat) (hLp0 : p0 ∈ L) (hKp0 : K p0 = 7) (p1 : Int32) (bp1 : (0) ≤ p1.toInt ∧ p1.toInt ≤ 1000) : Met l yX7_signed (.code yX7_signed cX7_signed 4 (some .int) :: pw) ({ frames := 3, cells := 0, slots := 0, locals := 65 }) (sP (dC, dI) cs [.ref p0, .int p1] sz L K I J Q) (va_Qi (fun (r : Int32) (u : Int32) => u = r ∧ ((-100000) ≤ r.toInt ∧ r.toInt ≤ 100000)) (fun u t => sB (dC, dI) cs L K Q (fun I1 J1 => Iv L K x0 m0 tx tm I1 ∧ (∀ b, ¬ (b = p0) → I1 b = I b) ∧ I1 p0 11 = I p0 11 ∧ ((I p0 14).toInt ≤ (I1 p0 14).toInt ∧ ((I1 p0 15).toInt = -1 → (I p0 15).toInt = -1) ∧ ((I1 p0 15).toInt = -1 → -p1.toInt ≤ u.toInt ∧ u.toInt ≤ p1.toInt)) ∧ mdQ I I1 p0 (ps (tb tm.1.2.2 (I p0 13).toInt) p1.toInt (I p0 14).toInt) ∧ (∀ b, K b = 0 ∨ K b = 1 ∨ K b = 3 ∨ K b = 6 → I1 b = I b) ∧ ((I1 p0 15).toInt = -1 → u.toInt = sv (tb tm.1.2.2 (I p0 13).toInt) (I p0 14).toInt) ∧ J1 = J) t) (fun q => q ∈ L ∨ sz ≤ q)) 0 0 (fun q => q ∈ L ∨ sz ≤ q) := by
  refine Met.ofW (cc := cX7_signed) (maxL := 4) (ret := (some .int)) (by decide +kernel) rfl ?_
  intro p e s m args below meth c s₁ B hml hv
  obtain ⟨rfl, hsz, hP, hK, hD0, hN⟩ := hv
  have hx := B.exec
  have hb := B.bytes
  have hr := B.returns
  have hts := fun w (h : w ∈ pw) => atoms_spec (ws := Cond.code yX7_signed cX7_signed 4 (some .int) :: pw) B.pre w (List.mem_cons_of_mem _ h)
  have hown : s.vm.findClass RX7 = some m.cls := findClass_of_methodNamed B.named
  have hlocks := B.notSynchronized
  subst hsz
  have hBB : 999 ≤ tm.2 ∧ tm.2 ≤ 6000000 := hI.2.2.2.2.1
  have dn_I : (∀ b, K b = 0 ∨ K b = 1 ∨ K b = 3 ∨ K b = 6 → I b = I b) := fun _ _ => rfl
  have dj_J : J = J := rfl
  have kp0_11_I : I p0 11 = I p0 11 := rfl
  have fr_I : ∀ b, ¬ (b = p0) → I b = I b := fun _ _ => rfl
  obtain ⟨A, hAe⟩ : ∃ A : Nat → Prop, A = (fun q => q ∈ L ∨ s.heap.size ≤ q) := ⟨_, rfl⟩
  rw [← hAe]
  have hAL : ∀ q, q ∈ L → A q := fun q h => by rw [hAe]; exact Or.inl h
  have hA : ∀ q, s.heap.size ≤ q → A q := fun q h => by rw [hAe]; exact Or.inr h
  have hD : ∀ F, va_D A (va_pl L F) := fun F => (hD0 F).weaken (fun k q hk _ => hAL _ (pl_mem hk))
  obtain ⟨H, hHe⟩ : ∃ H : Heap, H = s.heap := ⟨_, rfl⟩
  have hS : va_S A s.heap H [] := by rw [hHe]; exact va_S.rf
  rw [← hHe] at hP
  have hl := lv_entry ([.ref p0, .int p1]) (n := 4) (Nat.le_of_ble_eq_true rfl)
  rw [lg_entry_eq]
  generalize (lg_sl ([.ref p0, .int p1]) ++ List.replicate (4 - (lg_sl ([.ref p0, .int p1])).length) Slot.unset).toArray = ls at hl ⊢
  have hl : lv_has ls 4 [(0, .ref p0), (1, .int p1)] := hl
  rw [← hHe]
  refine namedW (fun R Qz hR hQz => ?_)
  have hby := tpB hQ hI hLp0 hKp0
  refine lv_aload_n hx hb dX7_signed_0 rfl (lv_at hl 0 rfl) ?_
  refine ro_i (va_runV (As := []) (rest := []) ⟨hx, hb, hml, hown, hts⟩ (s_X7_isRight l dC dI cs L K G Q hQ x0 m0 tx tm H.size I J hI p0 hLp0 hKp0) (cwV 0 hts (gV pq1219 pq1221 pq12 pq81 pq1222) rfl rfl rfl (by decide +kernel) ⟨(by rw [hR]; exact (Nat.le_of_ble_eq_true rfl)), (by rw [hR]; exact (Nat.le_of_ble_eq_true rfl))⟩) (sP_V hP hD hK hN hLp0 hKp0 rfl rfl) rfl rfl hl.1 rfl (lv_room (Nat.le_of_ble_eq_true rfl)) dX7_signed_1 ⟨(by rw [hR]; exact (Nat.le_of_ble_eq_true rfl)), (by rw [hR]; exact (Nat.le_of_ble_eq_true rfl))⟩) hS hP (fun z1 H locs hz1 hP hS => ?_)
  obtain ⟨bz1, xpz1⟩ := hz1
  have j21 : ∀ (w21_0 : Int32) (I21 : Nat → Nat → Int32) (H : Heap) (lo : List Loc) (ls : Array Slot), ((0) ≤ w21_0.toInt ∧ w21_0.toInt ≤ 1) → Iv L K x0 m0 tx tm I21 → I21 p0 11 = I p0 11 → (∀ b, ¬ (b = p0) → I21 b = I b) → (∀ b, K b = 0 ∨ K b = 1 ∨ K b = 3 ∨ K b = 6 → I21 b = I b) → ((I p0 14).toInt ≤ (I21 p0 14).toInt ∧ ((I21 p0 15).toInt = -1 → (I p0 15).toInt = -1) ∧ (¬ w21_0.toInt = 0 → (I21 p0 14).toInt ≤ 399)) → (I21 p0 13 = I p0 13 ∧ I21 p0 15 = I p0 15 ∧ ((I p0 15).toInt = -1 → (I21 p0 14).toInt = (sk (tb tm.1.2.2 (I p0 13).toInt) (I p0 14).toInt) ∧ ((w21_0.toInt = 1 ∧ (tb tm.1.2.2 (I p0 13).toInt) (sk (tb tm.1.2.2 (I p0 13).toInt) (I p0 14).toInt) = 45) ∨ (w21_0.toInt = 0 ∧ ¬ (tb tm.1.2.2 (I p0 13).toInt) (sk (tb tm.1.2.2 (I p0 13).toInt) (I p0 14).toInt) = 45)))) → va_P (dC, dI) vwCl (Wd cs L K I21 J Q) H → va_S A s.heap H lo → lv_has ls 4 [(0, .ref p0), (1, .int p1)] → W p l e R s m (([.ref p0, .int p1] : List Value).toArray) below meth c H lo 0 0 Qz (F0 m 21 ls [.int w21_0]) := by
    intro w21_0 I21 H lo ls bw21_0 hI21 kp0_11_I21 fr_I21 dn_I21 h21 h21b hP hS hl
    refine lv_istore_n (lv' := [(2, .int w21_0), (0, .ref p0), (1, .int p1)]) hx hb dX7_signed_21 rfl hl (by decide) rfl (fun ls hl => ?_)
    refine lv_aload_n hx hb dX7_signed_22 rfl (lv_at hl 1 rfl) ?_
    refine lv_dup hx hb dX7_signed_23 rfl ?_
    refine p_get hx hb hts inX7 hown hK hP hLp0 hKp0 rfl rfl 14 (by decide) (hts _ pq1129) rfl dX7_signed_24 ?_
    refine lv_topi (fun z24 ez24 => ?_)
    have cgz24 := congrArg Int32.toInt ez24
    have bz24 := oI_7_14 (Iv_at hI21 hLp0 hKp0)
    rw [← ez24] at bz24
    refine lv_iload_n hx hb dX7_signed_27 rfl (lv_at hl 0 rfl) ?_
    refine ro_i (va_runS (As := [.int w21_0]) (rest := [.int z24, .ref p0]) ⟨hx, hb, hml, hown, hts⟩ (s_X7_truth l dC dI cs L K Q H.size I21 J w21_0) (va_cwS 1 hts (gS pq1257 pq1258 pq81 pq1259) rfl rfl rfl (by decide +kernel) ⟨(by rw [hR]; exact (Nat.le_of_ble_eq_true rfl)), (by rw [hR]; exact (Nat.le_of_ble_eq_true rfl))⟩) (sP_S hP hD hK hN) rfl rfl hl.1 rfl (lv_room (Nat.le_of_ble_eq_true rfl)) dX7_signed_28 ⟨(by rw [hR]; exact (Nat.le_of_ble_eq_true rfl)), (by rw [hR]; exact (Nat.le_of_ble_eq_true rfl))⟩) hS hP (fun z28 H locs hz28 hP hS => ?_)
    obtain ⟨bz28, xpz28⟩ := hz28
    refine lv_iadd hx hb dX7_signed_31 ?_
    refine lv_topi (fun z31 ez31 => ?_)
    have bz31 := tq_add (k := z24.toInt) (q := z28.toInt) ez31 rfl rfl (by omega) (by omega)
    refine p_put hx hb hts inX7 tyX7 tyX7_ok nmX7 hown hK hP hD hS hLp0 hKp0 rfl rfl 14 (by decide) (hts _ pq1129) rfl (by decide +kernel) (Nat.le_of_ble_eq_true rfl) (oS_7_14 cs _ _ _ _) dX7_signed_32 (fun H locs hP hS => ?_)
    obtain ⟨Iz32, hP, hIz32, qIz32⟩ : ∃ Iz32, va_P (dC, dI) vwCl (Wd cs L K Iz32 J Q) H ∧ Iv L K x0 m0 tx tm Iz32 ∧ Iz32 = va_up I21 p0 (upd (I21 p0) 14 z31) := ⟨_, hP, Iv_put hI21 hKp0 (oP_7_14 (Iv_at hI21 hLp0 hKp0) ⟨by omega, by omega⟩) (by decide) (by decide), rfl⟩
    have dn_Iz32 : (∀ b, K b = 0 ∨ K b = 1 ∨ K b = 3 ∨ K b = 6 → Iz32 b = I b) := fun b hc => (congrFun qIz32 b).trans ((va_up_ne _ _ (fun z => by have q := hKp0; rw [← z] at q; omega)).trans (dn_I21 b hc))
    have kp0_11_Iz32 : Iz32 p0 11 = I p0 11 := (congrFun (congrFun qIz32 p0) 11).trans ((rz_fr _ _ _ _ (by decide)).trans kp0_11_I21)
    have fr_Iz32 : ∀ b, ¬ (b = p0) → Iz32 b = I b := fun b q => (congrFun qIz32 b).trans ((va_up_ne _ _ (fun z => q z)).trans (fr_I21 b q))
    refine lv_aload_n hx hb dX7_signed_35 rfl (lv_at hl 1 rfl) ?_
    refine lv_iconst (v := 0) hx hb dX7_signed_36 (by decide +kernel) ?_
    refine lv_iload_n hx hb dX7_signed_37 rfl (lv_at hl 2 rfl) ?_
    refine sw_ir (Z := (fun u => (fun I1 J1 => Iv L K x0 m0 tx tm I1 ∧ (∀ b, ¬ (b = p0) → I1 b = Iz32 b) ∧ I1 p0 11 = Iz32 p0 11 ∧ ((Iz32 p0 14).toInt ≤ (I1 p0 14).toInt ∧ ((I1 p0 15).toInt = -1 → (Iz32 p0 15).toInt = -1) ∧ ((I1 p0 15).toInt = -1 → (0 : Int32).toInt ≤ u.toInt ∧ u.toInt ≤ p1.toInt)) ∧ mdQ Iz32 I1 p0 (pn (tb tm.1.2.2 (Iz32 p0 13).toInt) (0 : Int32).toInt p1.toInt (Iz32 p0 14).toInt) ∧ (∀ b, K b = 0 ∨ K b = 1 ∨ K b = 3 ∨ K b = 6 → I1 b = Iz32 b) ∧ ((I1 p0 15).toInt = -1 → u.toInt = nv (tb tm.1.2.2 (Iz32 p0 13).toInt) (Iz32 p0 14).toInt) ∧ J1 = J))) (va_runV (As := [.int 0, .int p1]) (rest := []) ⟨hx, hb, hml, hown, hts⟩ (s_X7_number l dC dI cs L K G Q hQ x0 m0 tx tm H.size Iz32 J hIz32 p0 hLp0 hKp0 0 ⟨by decide +kernel, by decide +kernel⟩ p1 ⟨by omega, by omega⟩) (cwV 2 hts (gV pq1262 pq1264 pq18 pq81 pq1265) rfl rfl rfl (by decide +kernel) ⟨(by rw [hR]; exact (Nat.le_of_ble_eq_true rfl)), (by rw [hR]; exact (Nat.le_of_ble_eq_true rfl))⟩) (sP_V hP hD hK hN hLp0 hKp0 rfl rfl) rfl rfl hl.1 rfl (lv_room (Nat.le_of_ble_eq_true rfl)) dX7_signed_38 ⟨(by rw [hR]; exact (Nat.le_of_ble_eq_true rfl)), (by rw [hR]; exact (Nat.le_of_ble_eq_true rfl))⟩) hS hAL hA (fun z38 Iz38 Jz38 H locs hz38 hIz38 hP hS => ?_)
    obtain ⟨hIz38, frc38, kc38_0_11, zr38, fz38, dnc38, jz38, djc38⟩ := hIz38
    obtain rfl : J = Jz38 := djc38.symm
    have dn_Iz38 : (∀ b, K b = 0 ∨ K b = 1 ∨ K b = 3 ∨ K b = 6 → Iz38 b = I b) := fun b hc => (dnc38 b (by omega)).trans (dn_Iz32 b hc)
    have kp0_11_Iz38 : Iz38 p0 11 = I p0 11 := kc38_0_11.trans kp0_11_Iz32
    have fr_Iz38 : ∀ b, ¬ (b = p0) → Iz38 b = I b := fun b q => (frc38 b (fun z => q (z))).trans (fr_Iz32 b q)
    have cst38_0 : (0 : Int32).toInt = 0 := by decide +kernel
    have bz38 := hz38
    refine lv_istore_n (lv' := [(3, .int z38), (2, .int w21_0), (0, .ref p0), (1, .int p1)]) hx hb dX7_signed_41 rfl hl (by decide) rfl (fun ls hl => ?_)
    refine lv_iload_n hx hb dX7_signed_42 rfl (lv_at hl 1 rfl) ?_
    refine lv_if_eq (tgt := 51) hx hb dX7_signed_43 (by decide) (fun c43 => ?_) (fun c43 => ?_)
    · have t43 := tq_eq (k := w21_0.toInt) (q := (0)) c43 rfl (by decide +kernel)
      refine lv_iload_n hx hb dX7_signed_51 rfl (lv_at hl 0 rfl) ?_
      subst hR; subst hQz
      exact W.iret (v := z38) hx hb hr (fun t ht hW => ⟨⟨z38, z38, rfl, ⟨rfl, ⟨by omega, by omega⟩⟩, ⟨Iz38, J, ⟨hIz38, fr_Iz38, kp0_11_Iz38, ⟨by have := zr38.1; rw [qIz32, rz_at] at this; omega, fun h => h21.2.1 (by have := zr38.2.1 h; rw [qIz32, rz_fr _ _ _ _ (by decide)] at this; exact this), fun h => by have := zr38.2.2 h; exact ⟨by omega, by omega⟩⟩, (mdQ_sgn (Ia := Iz32) (by rw [qIz32, rz_fr _ _ _ _ (by decide)]; exact h21b.1) (by rw [qIz32, rz_fr _ _ _ _ (by decide)]; exact h21b.2.1) (fun q => by have w := (h21b.2.2 q); have v1 := xpz28.1; have v2 := xpz28.2; exact w.2.elim (fun e => Or.inl ⟨e.2, by rw [qIz32, rz_at]; omega⟩) (fun e => Or.inr ⟨e.2, by rw [qIz32, rz_at]; omega⟩)) fz38), dn_Iz38, (fun h => sv_m (Ia := Iz32) (b := w21_0.toInt) (by rw [qIz32, rz_fr _ _ _ _ (by decide)]; exact h21b.1) (by have w := h21b.2.2 (h21.2.1 (by have := zr38.2.1 h; rw [qIz32, rz_fr _ _ _ _ (by decide)] at this; exact this)); have v1 := xpz28.1; have v2 := xpz28.2; exact w.2.elim (fun e => Or.inl ⟨e.2, e.1, by rw [qIz32, rz_at]; omega⟩) (fun e => Or.inr ⟨e.2, e.1, by rw [qIz32, rz_at]; omega⟩)) (jz38 h) (by omega)), dj_J⟩, by rw [ht]; exact hP⟩⟩, hS.F ht⟩) hS.2.2 dX7_signed_52
    · have t43 := tq_ne (k := w21_0.toInt) (q := (0)) c43 rfl (by decide +kernel)
      refine lv_iload_n hx hb dX7_signed_46 rfl (lv_at hl 0 rfl) ?_
      refine lv_ineg hx hb dX7_signed_47 ?_
      refine lv_topi (fun z47 ez47 => ?_)
      have bz47 := tq_neg (k := z38.toInt) ez47 rfl (by omega) (by omega)
      refine lv_goto (tgt := 52) hx hb dX7_signed_48 (by decide) ?_
      subst hR; subst hQz
      exact W.iret (v := z47) hx hb hr (fun t ht hW => ⟨⟨z47, z47, rfl, ⟨rfl, ⟨by omega, by omega⟩⟩, ⟨Iz38, J, ⟨hIz38, fr_Iz38, kp0_11_Iz38, ⟨by have := zr38.1; rw [qIz32, rz_at] at this; omega, fun h => h21.2.1 (by have := zr38.2.1 h; rw [qIz32, rz_fr _ _ _ _ (by decide)] at this; exact this), fun h => by have := zr38.2.2 h; exact ⟨by omega, by omega⟩⟩, (mdQ_sgn (Ia := Iz32) (by rw [qIz32, rz_fr _ _ _ _ (by decide)]; exact h21b.1) (by rw [qIz32, rz_fr _ _ _ _ (by decide)]; exact h21b.2.1) (fun q => by have w := (h21b.2.2 q); have v1 := xpz28.1; have v2 := xpz28.2; exact w.2.elim (fun e => Or.inl ⟨e.2, by rw [qIz32, rz_at]; omega⟩) (fun e => Or.inr ⟨e.2, by rw [qIz32, rz_at]; omega⟩)) fz38), dn_Iz38, (fun h => sv_m (Ia := Iz32) (b := w21_0.toInt) (by rw [qIz32, rz_fr _ _ _ _ (by decide)]; exact h21b.1) (by have w := h21b.2.2 (h21.2.1 (by have := zr38.2.1 h; rw [qIz32, rz_fr _ _ _ _ (by decide)] at this; exact this)); have v1 := xpz28.1; have v2 := xpz28.2; exact w.2.elim (fun e => Or.inl ⟨e.2, e.1, by rw [qIz32, rz_at]; omega⟩) (fun e => Or.inr ⟨e.2, e.1, by rw [qIz32, rz_at]; omega⟩)) (jz38 h) (by omega)), dj_J⟩, by rw [ht]; exact hP⟩⟩, hS.F ht⟩) hS.2.2 dX7_signed_52
  have j20 : ∀ (I20 : Nat → Nat → Int32) (H : Heap) (lo : List Loc) (ls : Array Slot), Iv L K x0 m0 tx tm I20 → I20 p0 11 = I p0 11 → (∀ b, ¬ (b = p0) → I20 b = I b) → (∀ b, K b = 0 ∨ K b = 1 ∨ K b = 3 ∨ K b = 6 → I20 b = I b) → ((I p0 14).toInt ≤ (I20 p0 14).toInt ∧ ((I20 p0 15).toInt = -1 → (I p0 15).toInt = -1)) → (I20 p0 13 = I p0 13 ∧ I20 p0 15 = I p0 15 ∧ ((I p0 15).toInt = -1 → (I20 p0 14).toInt = (sk (tb tm.1.2.2 (I p0 13).toInt) (I p0 14).toInt) ∧ ¬ (tb tm.1.2.2 (I p0 13).toInt) (sk (tb tm.1.2.2 (I p0 13).toInt) (I p0 14).toInt) = 45)) → va_P (dC, dI) vwCl (Wd cs L K I20 J Q) H → va_S A s.heap H lo → lv_has ls 4 [(0, .ref p0), (1, .int p1)] → W p l e R s m (([.ref p0, .int p1] : List Value).toArray) below meth c H lo 0 0 Qz (F0 m 20 ls []) := by
    intro I20 H lo ls hI20 kp0_11_I20 fr_I20 dn_I20 h20 h20b hP hS hl
    refine lv_iconst (v := 0) hx hb dX7_signed_20 (by decide +kernel) ?_
    exact j21 0 I20 _ _ _ ⟨by decide +kernel, by decide +kernel⟩ hI20 kp0_11_I20 fr_I20 dn_I20 ⟨h20.1, h20.2, (fun h => absurd (by decide +kernel) h)⟩ ⟨h20b.1, h20b.2.1, fun q => ⟨(h20b.2.2 q).1, Or.inr ⟨by decide +kernel, (h20b.2.2 q).2⟩⟩⟩ hP hS (lv_sub hl [0, 1] rfl)
  refine lv_if_eq (tgt := 20) hx hb dX7_signed_4 (by decide) (fun c4 => ?_) (fun c4 => ?_)
  · have t4 := tq_eq (k := z1.toInt) (q := (0)) c4 rfl (by decide +kernel)
    exact j20 I _ _ _ hI kp0_11_I fr_I dn_I ⟨Int.le_refl _, fun h => h⟩ ⟨rfl, rfl, fun h => absurd h (xpz1.2 t4)⟩ hP hS (lv_sub hl [0, 1] rfl)
  · have t4 := tq_ne (k := z1.toInt) (q := (0)) c4 rfl (by decide +kernel)
    refine lv_aload_n hx hb dX7_signed_7 rfl (lv_at hl 0 rfl) ?_
    refine sw_ir (Z := (fun u => (fun I1 J1 => Iv L K x0 m0 tx tm I1 ∧ (∀ b, ¬ (b = p0) → I1 b = I b) ∧ I1 p0 11 = I p0 11 ∧ ((I p0 14).toInt ≤ (I1 p0 14).toInt ∧ ((I1 p0 15).toInt = -1 → (I p0 15).toInt = -1) ∧ (∀ k, ¬ k = 14 → I1 p0 k = I p0 k) ∧ (¬ u.toInt = -1 → (I1 p0 14).toInt < (I1 p0 13).toInt)) ∧ (u.toInt = sgB ((tb tm.1.2.2 (I p0 13).toInt) (sk (tb tm.1.2.2 (I p0 13).toInt) (I p0 14).toInt)) ∧ (I1 p0 14).toInt = (sk (tb tm.1.2.2 (I p0 13).toInt) (I p0 14).toInt)) ∧ (∀ b, K b = 0 ∨ K b = 1 ∨ K b = 3 ∨ K b = 6 → I1 b = I b) ∧ J1 = J))) (va_runV (As := []) (rest := []) ⟨hx, hb, hml, hown, hts⟩ (s_X7_next l dC dI cs L K G Q hQ x0 m0 tx tm H.size I J hI p0 hLp0 hKp0) (cwV 0 hts (gV pq1211 pq1213 pq10 pq81 pq1214) rfl rfl rfl (by decide +kernel) ⟨(by rw [hR]; exact (Nat.le_of_ble_eq_true rfl)), (by rw [hR]; exact (Nat.le_of_ble_eq_true rfl))⟩) (sP_V hP hD hK hN hLp0 hKp0 rfl rfl) rfl rfl hl.1 rfl (lv_room (Nat.le_of_ble_eq_true rfl)) dX7_signed_8 ⟨(by rw [hR]; exact (Nat.le_of_ble_eq_true rfl)), (by rw [hR]; exact (Nat.le_of_ble_eq_true rfl))⟩) hS hAL hA (fun z8 Iz8 Jz8 H locs hz8 hIz8 hP hS => ?_)
    obtain ⟨hIz8, frc8, kc8_0_11, zr8, fz8, dnc8, djc8⟩ := hIz8
    obtain rfl : J = Jz8 := djc8.symm
    have dn_Iz8 : (∀ b, K b = 0 ∨ K b = 1 ∨ K b = 3 ∨ K b = 6 → Iz8 b = I b) := fun b hc => (dnc8 b (by omega)).trans (dn_I b hc)
    have kp0_11_Iz8 : Iz8 p0 11 = I p0 11 := kc8_0_11.trans kp0_11_I
    have fr_Iz8 : ∀ b, ¬ (b = p0) → Iz8 b = I b := fun b q => (frc8 b (fun z => q (z))).trans (fr_I b q)
    have bz8 := hz8
    refine lv_bipush (v := 45) hx hb dX7_signed_11 (by decide +kernel) ?_
    refine lv_icmp_ne (tgt := 20) hx hb dX7_signed_13 (by decide) (fun c13 => ?_) (fun c13 => ?_)
    · have t13 := tq_ne (k := z8.toInt) (q := (45)) c13 rfl (by decide +kernel)
      exact j20 Iz8 _ _ _ hIz8 kp0_11_Iz8 fr_Iz8 dn_Iz8 ⟨zr8.1, zr8.2.1⟩ ⟨zr8.2.2.1 13 (by decide), zr8.2.2.1 15 (by decide), fun _ => ⟨fz8.2, fun h => t13 (fz8.1.trans (by rw [h]; exact sg_c (by decide)))⟩⟩ hP hS (lv_sub hl [0, 1] rfl)
    · have t13 := tq_eq (k := z8.toInt) (q := (45)) c13 rfl (by decide +kernel)
      refine lv_iconst (v := 1) hx hb dX7_signed_16 (by decide +kernel) ?_
      refine lv_goto (tgt := 21) hx hb dX7_signed_17 (by decide) ?_
      exact j21 1 Iz8 _ _ _ ⟨by decide +kernel, by decide +kernel⟩ hIz8 kp0_11_Iz8 fr_Iz8 dn_Iz8 ⟨zr8.1, zr8.2.1, fun _ => by have := zr8.2.2.2 (by omega); have := oI_7_13 (Iv_at hIz8 hLp0 hKp0); omega⟩ ⟨zr8.2.2.1 13 (by decide), zr8.2.2.1 15 (by decide), fun _ => ⟨fz8.2, Or.inl ⟨by decide +kernel, sg_t (tb_rng hby) (by decide) (fz8.1.symm.trans t13)⟩⟩⟩ hP hS (lv_sub hl [0, 1] rfl)

set_option maxHeartbeats 4000000 in
set_option maxRecDepth 100000 in
theorem s_X7_laysBox (l : Launch) (dC : Nat → ClassId) (dI : Nat → Nat → Nat) (cs : Nat → ClassId) (L : List Nat) (K G : Nat → Nat) (Q : Nat → Nat → Option Nat) (hQ : Sv L K G Q) (x0 m0 : Nat) (tx : GT) (tm : GT × Int) (sz : Nat) (I : Nat → Nat → Int32) (J : Nat → Nat → Int64) (hI : Iv L K x0 m0 tx tm I) (p0 : Nat) (hLp0 : p0 ∈ L) (hKp0 : K p0 = 7) (p1 : Int32) (bp1 : (0) ≤ p1.toInt ∧ p1.toInt ≤ 7) (p2 : Int32) (bp2 : (1) ≤ p2.toInt ∧ p2.toInt ≤ 100) (p3 : Int32) (bp3 : (1) ≤ p3.toInt ∧ p3.toInt ≤ 40) (p4 : Int32) (ho : hOK Q I p0) : Met l yX7_laysBox (.code yX7_laysBox cX7_laysBox 7 none :: pw) ({ frames := 1, cells := 0, slots := 0, locals := 23 }) (sP (dC, dI) cs [.ref p0, .int p1, .int p2, .int p3, .int p4] sz L K I J Q) (va_Qv (fun (_ : Unit) => True) (fun _ t => sB (dC, dI) cs L K Q (fun I1 J1 => Iv L K x0 m0 tx tm I1 ∧ (∀ b, ¬ (K b = 28) → I1 b = I b) ∧ (hHK Q I I1 p0) ∧ (∀ b, K b = 0 ∨ K b = 1 ∨ K b = 3 ∨ K b = 6 → I1 b = I b) ∧ ((I1 (a0 Q p0 1) = upd (upd (I (a0 Q p0 1)) (3 + p1.toInt.toNat) p2) (11 + p1.toInt.toNat) p3) ∧ ((∀ k, k < 80 → mo (J (a0 Q p0 6)) p1.toInt.toNat k = 0) → ∀ x y : Int, md (mo (J1 (a0 Q p0 6)) p1.toInt.toNat) x y = lbxD p2.toInt p3.toInt p4.toInt x y) ∧ (∀ k, (k < 80 * p1.toInt.toNat ∨ 80 * p1.toInt.toNat + 80 ≤ k) → J1 (a0 Q p0 6) k = J (a0 Q p0 6) k)) ∧ (∀ b, ¬ (K b = 32) → J1 b = J b)) t) (fun q => q ∈ L ∨ sz ≤ q)) 0 0 (fun q => q ∈ L ∨ sz ≤ q) := by
  refine Met.ofW (cc := cX7_laysBox) (maxL := 7) (ret := none) (by decide +kernel) rfl ?_
  intro p e s m args below meth c s₁ B hml hv
  obtain ⟨rfl, hsz, hP, hK, hD0, hN⟩ := hv
  have hx := B.exec
  have hb := B.bytes
  have hr := B.returns
  have hts := fun w (h : w ∈ pw) => atoms_spec (ws := Cond.code yX7_laysBox cX7_laysBox 7 none :: pw) B.pre w (List.mem_cons_of_mem _ h)
  have hown : s.vm.findClass RX7 = some m.cls := findClass_of_methodNamed B.named
  have hlocks := B.notSynchronized
  subst hsz
  have hBB : 999 ≤ tm.2 ∧ tm.2 ≤ 6000000 := hI.2.2.2.2.1
  have hk_I : hHK Q I I p0 := hK_refl ho
  have dn_I : (∀ b, K b = 0 ∨ K b = 1 ∨ K b = 3 ∨ K b = 6 → I b = I b) := fun _ _ => rfl
  have dj_J : (∀ b, ¬ (K b = 32) → J b = J b) := fun _ _ => rfl
  have fr_I : ∀ b, ¬ (K b = 28) → I b = I b := fun _ _ => rfl
  obtain ⟨A, hAe⟩ : ∃ A : Nat → Prop, A = (fun q => q ∈ L ∨ s.heap.size ≤ q) := ⟨_, rfl⟩
  rw [← hAe]
  have hAL : ∀ q, q ∈ L → A q := fun q h => by rw [hAe]; exact Or.inl h
  have hA : ∀ q, s.heap.size ≤ q → A q := fun q h => by rw [hAe]; exact Or.inr h
  have hD : ∀ F, va_D A (va_pl L F) := fun F => (hD0 F).weaken (fun k q hk _ => hAL _ (pl_mem hk))
  obtain ⟨H, hHe⟩ : ∃ H : Heap, H = s.heap := ⟨_, rfl⟩
  have hS : va_S A s.heap H [] := by rw [hHe]; exact va_S.rf
  rw [← hHe] at hP
  have hl := lv_entry ([.ref p0, .int p1, .int p2, .int p3, .int p4]) (n := 7) (Nat.le_of_ble_eq_true rfl)
  rw [lg_entry_eq]
  generalize (lg_sl ([.ref p0, .int p1, .int p2, .int p3, .int p4]) ++ List.replicate (7 - (lg_sl ([.ref p0, .int p1, .int p2, .int p3, .int p4])).length) Slot.unset).toArray = ls at hl ⊢
  have hl : lv_has ls 7 [(0, .ref p0), (1, .int p1), (2, .int p2), (3, .int p3), (4, .int p4)] := hl
  rw [← hHe]
  refine namedW (fun R Qz hR hQz => ?_)
  refine lv_aload_n hx hb dX7_laysBox_0 rfl (lv_at hl 0 rfl) ?_
  obtain ⟨y1, ey1, hLy1, hKy1⟩ := oQ_7_1 (Sv_at hQ hLp0 hKp0)
  refine p_get (v := .ref y1) hx hb hts inX7 hown hK hP hLp0 hKp0 rfl rfl 1 (by decide) (hts _ pq1116) (congrArg (fun q => some (va_rf q)) ey1) dX7_laysBox_1 ?_
  refine lv_iconst (v := 3) hx hb dX7_laysBox_4 (by decide +kernel) ?_
  refine lv_iload_n hx hb dX7_laysBox_5 rfl (lv_at hl 1 rfl) ?_
  refine lv_iadd hx hb dX7_laysBox_6 ?_
  refine lv_topi (fun z6 ez6 => ?_)
  have bz6 := tq_add (k := (3)) (q := p1.toInt) ez6 (by decide +kernel) rfl (by omega) (by omega)
  refine lv_iload_n hx hb dX7_laysBox_7 rfl (lv_at hl 2 rfl) ?_
  refine p_iast hx hb hK hP hD hS 18 hLy1 hKy1 rfl (fun _ => rfl) rfl (in_of (by omega) (by omega)) dX7_laysBox_8 (fun H locs hP hS => ?_)
  obtain ⟨Iz8, hP, hIz8, qIz8⟩ : ∃ Iz8, va_P (dC, dI) vwCl (Wd cs L K Iz8 J Q) H ∧ Iv L K x0 m0 tx tm Iz8 ∧ Iz8 = va_up I y1 (upd (I y1) z6.toNatClampNeg p2) := ⟨_, hP, Iv_put hI hKy1 (show okI _ 28 _ from trivial) (Or.inl (by decide)) (Or.inl (by decide)), rfl⟩
  have dn_Iz8 : (∀ b, K b = 0 ∨ K b = 1 ∨ K b = 3 ∨ K b = 6 → Iz8 b = I b) := fun b hc => (congrFun qIz8 b).trans ((va_up_ne _ _ (fun z => by have q := hKy1; rw [← z] at q; omega)).trans (dn_I b hc))
  have hk_Iz8 := hK_put hQ hLp0 hKp0 ey1 qIz8 ⟨by omega, fun _ => by unfold rng; omega⟩ hk_I
  have fr_Iz8 : ∀ b, ¬ (K b = 28) → Iz8 b = I b := fun b q => (congrFun qIz8 b).trans ((va_up_ne _ _ (fun z => q (by rw [z]; have := hKy1; omega))).trans (fr_I b q))
  refine lv_aload_n hx hb dX7_laysBox_9 rfl (lv_at hl 0 rfl) ?_
  refine p_get (v := .ref y1) hx hb hts inX7 hown hK hP hLp0 hKp0 rfl rfl 1 (by decide) (hts _ pq1116) (congrArg (fun q => some (va_rf q)) ey1) dX7_laysBox_10 ?_
  refine lv_bipush (v := 11) hx hb dX7_laysBox_13 (by decide +kernel) ?_
  refine lv_iload_n hx hb dX7_laysBox_15 rfl (lv_at hl 1 rfl) ?_
  refine lv_iadd hx hb dX7_laysBox_16 ?_
  refine lv_topi (fun z16 ez16 => ?_)
  have bz16 := tq_add (k := (11)) (q := p1.toInt) ez16 (by decide +kernel) rfl (by omega) (by omega)
  refine lv_iload_n hx hb dX7_laysBox_17 rfl (lv_at hl 3 rfl) ?_
  refine p_iast hx hb hK hP hD hS 18 hLy1 hKy1 rfl (fun _ => rfl) rfl (in_of (by omega) (by omega)) dX7_laysBox_18 (fun H locs hP hS => ?_)
  obtain ⟨Iz18, hP, hIz18, qIz18⟩ : ∃ Iz18, va_P (dC, dI) vwCl (Wd cs L K Iz18 J Q) H ∧ Iv L K x0 m0 tx tm Iz18 ∧ Iz18 = va_up Iz8 y1 (upd (Iz8 y1) z16.toNatClampNeg p3) := ⟨_, hP, Iv_put hIz8 hKy1 (show okI _ 28 _ from trivial) (Or.inl (by decide)) (Or.inl (by decide)), rfl⟩
  have dn_Iz18 : (∀ b, K b = 0 ∨ K b = 1 ∨ K b = 3 ∨ K b = 6 → Iz18 b = I b) := fun b hc => (congrFun qIz18 b).trans ((va_up_ne _ _ (fun z => by have q := hKy1; rw [← z] at q; omega)).trans (dn_Iz8 b hc))
  have hk_Iz18 := hK_put hQ hLp0 hKp0 ey1 qIz18 ⟨by omega, fun _ => by unfold rng; omega⟩ hk_Iz8
  have fr_Iz18 : ∀ b, ¬ (K b = 28) → Iz18 b = I b := fun b q => (congrFun qIz18 b).trans ((va_up_ne _ _ (fun z => q (by rw [z]; have := hKy1; omega))).trans (fr_Iz8 b q))
  refine lv_iconst (v := 0) hx hb dX7_laysBox_19 (by decide +kernel) ?_
  refine lv_istore (lv' := [(5, .int 0), (0, .ref p0), (1, .int p1), (2, .int p2), (3, .int p3), (4, .int p4)]) hx hb dX7_laysBox_20 hl (by decide) rfl (fun ls hl => ?_)
  have key22 := blocks (fun n => ∀ (v22_5 : Int32) (J22 : Nat → Nat → Int64) (H : Heap) (lo : List Loc) (ls : Array Slot), (41 - v22_5.toInt).toNat = n → ((0) ≤ v22_5.toInt ∧ v22_5.toInt ≤ 40) → (∀ b, ¬ (K b = 32) → J22 b = J b) → (((∀ k, k < 80 → mo (J (a0 Q p0 6)) p1.toInt.toNat k = 0) → rowI (lbxD p2.toInt p3.toInt p4.toInt) (mo (J22 (a0 Q p0 6)) p1.toInt.toNat) v22_5.toInt 0) ∧ (∀ k, (k < 80 * p1.toInt.toNat ∨ 80 * p1.toInt.toNat + 80 ≤ k) → J22 (a0 Q p0 6) k = J (a0 Q p0 6) k)) → va_P (dC, dI) vwCl (Wd cs L K Iz18 J22 Q) H → va_S A s.heap H lo → lv_has ls 7 [(0, .ref p0), (1, .int p1), (2, .int p2), (3, .int p3), (4, .int p4), (5, .int v22_5)] → W p l e R s m (([.ref p0, .int p1, .int p2, .int p3, .int p4] : List Value).toArray) below meth c H lo 0 0 Qz (F0 m 22 ls [])) (by
    intro n ih22
    intro v22_5 J22 H lo ls hmu22 bv22_5 dj_J22 h22 hP hS hl
    refine lv_iload hx hb dX7_laysBox_22 (lv_at hl 5 rfl) ?_
    refine lv_iload_n hx hb dX7_laysBox_24 rfl (lv_at hl 3 rfl) ?_
    refine lv_icmp_ge (tgt := 92) hx hb dX7_laysBox_25 (by decide) (fun c25 => ?_) (fun c25 => ?_)
    · have t25 := tq_le (k := p3.toInt) (q := v22_5.toInt) c25 rfl rfl
      subst hR; subst hQz
      exact W.vret hx hb hr (fun t ht hW => ⟨⟨(), rfl, trivial, ⟨Iz18, J22, ⟨hIz18, fr_Iz18, hk_Iz18, dn_Iz18, ⟨by rw [show a0 Q p0 1 = y1 from gd_of ey1, qIz18, va_up_self, qIz8, va_up_self, show z6.toNatClampNeg = 3 + p1.toInt.toNat from (by show z6.toInt.toNat = _; omega), show z16.toNatClampNeg = 11 + p1.toInt.toNat from (by show z16.toInt.toNat = _; omega)], fun hz => ri_fin (h22.1 hz) (fun x y q => by have := lbxD_in q; omega), h22.2⟩, dj_J22⟩, by rw [ht]; exact hP⟩⟩, hS.F ht⟩) hS.2.2 dX7_laysBox_92
    · have t25 := tq_nle (k := p3.toInt) (q := v22_5.toInt) c25 rfl rfl
      refine lv_iconst (v := 0) hx hb dX7_laysBox_28 (by decide +kernel) ?_
      refine lv_istore (lv' := [(6, .int 0), (0, .ref p0), (1, .int p1), (2, .int p2), (3, .int p3), (4, .int p4), (5, .int v22_5)]) hx hb dX7_laysBox_29 hl (by decide) rfl (fun ls hl => ?_)
      have key31 := blocks (fun n => ∀ (v31_6 : Int32) (J31 : Nat → Nat → Int64) (H : Heap) (lo : List Loc) (ls : Array Slot), (101 - v31_6.toInt).toNat = n → ((0) ≤ v31_6.toInt ∧ v31_6.toInt ≤ 100) → (∀ b, ¬ (K b = 32) → J31 b = J b) → (((∀ k, k < 80 → mo (J (a0 Q p0 6)) p1.toInt.toNat k = 0) → rowI (lbxD p2.toInt p3.toInt p4.toInt) (mo (J31 (a0 Q p0 6)) p1.toInt.toNat) v22_5.toInt v31_6.toInt) ∧ (∀ k, (k < 80 * p1.toInt.toNat ∨ 80 * p1.toInt.toNat + 80 ≤ k) → J31 (a0 Q p0 6) k = J (a0 Q p0 6) k)) → va_P (dC, dI) vwCl (Wd cs L K Iz18 J31 Q) H → va_S A s.heap H lo → lv_has ls 7 [(0, .ref p0), (1, .int p1), (2, .int p2), (3, .int p3), (4, .int p4), (5, .int v22_5), (6, .int v31_6)] → W p l e R s m (([.ref p0, .int p1, .int p2, .int p3, .int p4] : List Value).toArray) below meth c H lo 0 0 Qz (F0 m 31 ls [])) (by
        intro n ih31
        intro v31_6 J31 H lo ls hmu31 bv31_6 dj_J31 h31 hP hS hl
        refine lv_iload hx hb dX7_laysBox_31 (lv_at hl 6 rfl) ?_
        refine lv_iload_n hx hb dX7_laysBox_33 rfl (lv_at hl 2 rfl) ?_
        refine lv_icmp_ge (tgt := 86) hx hb dX7_laysBox_34 (by decide) (fun c34 => ?_) (fun c34 => ?_)
        · have t34 := tq_le (k := p2.toInt) (q := v31_6.toInt) c34 rfl rfl
          obtain ⟨z86, ez86⟩ : ∃ y : Int32, y = v22_5 + 1 := ⟨_, rfl⟩
          refine lv_iinc (v := z86) (lv' := [(5, .int z86), (0, .ref p0), (1, .int p1), (2, .int p2), (3, .int p3), (4, .int p4), (6, .int v31_6)]) hx hb dX7_laysBox_86 hl (k := 5) rfl (by rw [ez86]; rfl) (by decide) rfl (fun ls hl => ?_)
          have bz86 := tq_add (k := v22_5.toInt) (q := 1) ez86 rfl (by decide +kernel) (by omega) (by omega)
          refine lv_goto (tgt := 22) hx hb dX7_laysBox_89 (by decide) ?_
          exact ih22 _ (by omega) z86 J31 _ _ _ rfl ⟨by omega, by omega⟩ dj_J31 ⟨fun hz => ri_nl (fun x y q => by have := lbxD_in q; omega) (h31.1 hz) (fun x q => by have := lbxD_in q; omega) (by omega) rfl, h31.2⟩ hP hS (lv_sub hl [1, 2, 3, 4, 5, 0] rfl)
        · have t34 := tq_nle (k := p2.toInt) (q := v31_6.toInt) c34 rfl rfl
          refine lv_iload hx hb dX7_laysBox_37 (lv_at hl 4 rfl) ?_
          have j80 : ∀ (J80 : Nat → Nat → Int64) (H : Heap) (lo : List Loc) (ls : Array Slot), (∀ b, ¬ (K b = 32) → J80 b = J b) → (((∀ k, k < 80 → mo (J (a0 Q p0 6)) p1.toInt.toNat k = 0) → rowI (lbxD p2.toInt p3.toInt p4.toInt) (mo (J80 (a0 Q p0 6)) p1.toInt.toNat) v22_5.toInt (v31_6.toInt + 1)) ∧ (∀ k, (k < 80 * p1.toInt.toNat ∨ 80 * p1.toInt.toNat + 80 ≤ k) → J80 (a0 Q p0 6) k = J (a0 Q p0 6) k)) → va_P (dC, dI) vwCl (Wd cs L K Iz18 J80 Q) H → va_S A s.heap H lo → lv_has ls 7 [(0, .ref p0), (1, .int p1), (2, .int p2), (3, .int p3), (4, .int p4), (5, .int v22_5), (6, .int v31_6)] → W p l e R s m (([.ref p0, .int p1, .int p2, .int p3, .int p4] : List Value).toArray) below meth c H lo 0 0 Qz (F0 m 80 ls []) := by
            intro J80 H lo ls dj_J80 h80 hP hS hl
            obtain ⟨z80, ez80⟩ : ∃ y : Int32, y = v31_6 + 1 := ⟨_, rfl⟩
            refine lv_iinc (v := z80) (lv' := [(6, .int z80), (0, .ref p0), (1, .int p1), (2, .int p2), (3, .int p3), (4, .int p4), (5, .int v22_5)]) hx hb dX7_laysBox_80 hl (k := 6) rfl (by rw [ez80]; rfl) (by decide) rfl (fun ls hl => ?_)
            have bz80 := tq_add (k := v31_6.toInt) (q := 1) ez80 rfl (by decide +kernel) (by omega) (by omega)
            refine lv_goto (tgt := 31) hx hb dX7_laysBox_83 (by decide) ?_
            exact ih31 _ (by omega) z80 J80 _ _ _ rfl ⟨by omega, by omega⟩ dj_J80 ⟨fun hz => ri_eq (h80.1 hz) rfl rfl (by omega), h80.2⟩ hP hS (lv_sub hl [1, 2, 3, 4, 5, 6, 0] rfl)
          have j68 : ∀ (H : Heap) (lo : List Loc) (ls : Array Slot), (¬ p4.toInt = 0 ∨ v31_6.toInt = 0 ∨ v22_5.toInt = 0 ∨ v31_6.toInt = p2.toInt - 1 ∨ v22_5.toInt = p3.toInt - 1) → va_P (dC, dI) vwCl (Wd cs L K Iz18 J31 Q) H → va_S A s.heap H lo → lv_has ls 7 [(0, .ref p0), (1, .int p1), (2, .int p2), (3, .int p3), (4, .int p4), (5, .int v22_5), (6, .int v31_6)] → W p l e R s m (([.ref p0, .int p1, .int p2, .int p3, .int p4] : List Value).toArray) below meth c H lo 0 0 Qz (F0 m 68 ls []) := by
            intro H lo ls h68 hP hS hl
            refine lv_aload_n hx hb dX7_laysBox_68 rfl (lv_at hl 0 rfl) ?_
            obtain ⟨y69, ey69, hLy69, hKy69⟩ := oQ_7_6 (Sv_at hQ hLp0 hKp0)
            refine p_get (v := .ref y69) hx hb hts inX7 hown hK hP hLp0 hKp0 rfl rfl 6 (by decide) (hts _ pq1121) (congrArg (fun q => some (va_rf q)) ey69) dX7_laysBox_69 ?_
            refine lv_iload_n hx hb dX7_laysBox_72 rfl (lv_at hl 1 rfl) ?_
            refine lv_iload hx hb dX7_laysBox_73 (lv_at hl 6 rfl) ?_
            refine lv_iload hx hb dX7_laysBox_75 (lv_at hl 5 rfl) ?_
            refine sw_v (Z := (fun I1 J1 => Iv L K x0 m0 tx tm I1 ∧ I1 = Iz18 ∧ ((∀ x y : Int, md (mo (J1 y69) p1.toInt.toNat) x y = (md (mo (J31 y69) p1.toInt.toNat) x y || decide (x = v31_6.toInt ∧ y = v22_5.toInt))) ∧ ∀ k, (k < 80 * p1.toInt.toNat ∨ 80 * p1.toInt.toNat + 80 ≤ k) → J1 y69 k = J31 y69 k) ∧ (∀ b, ¬ (K b = 32) → J1 b = J31 b))) (va_runS (As := [.ref y69, .int p1, .int v31_6, .int v22_5]) (rest := []) ⟨hx, hb, hml, hown, hts⟩ (s_X7_setsDot l dC dI cs L K G Q hQ x0 m0 tx tm H.size Iz18 J31 hIz18 y69 hLy69 hKy69 p1 ⟨by omega, by omega⟩ v31_6 ⟨by omega, by omega⟩ v22_5 ⟨by omega, by omega⟩) (va_cwS 4 hts (gS pq1254 pq1255 pq81 pq1256) rfl rfl rfl (by decide +kernel) ⟨(by rw [hR]; exact (Nat.le_of_ble_eq_true rfl)), (by rw [hR]; exact (Nat.le_of_ble_eq_true rfl))⟩) (sP_S hP hD hK hN) rfl rfl hl.1 rfl (lv_room (Nat.le_of_ble_eq_true rfl)) dX7_laysBox_77 ⟨(by rw [hR]; exact (Nat.le_of_ble_eq_true rfl)), (by rw [hR]; exact (Nat.le_of_ble_eq_true rfl))⟩) hS hAL hA (fun Iz77 Jz77 H locs hz77 hIz77 hP hS => ?_)
            obtain ⟨hIz77, sm77, jz77, djc77⟩ := hIz77
            have dj_Jz77 : (∀ b, ¬ (K b = 32) → Jz77 b = J b) := fun b hc => (djc77 b (fun z => hc (by omega))).trans (dj_J31 b hc)
            obtain rfl : Iz18 = Iz77 := sm77.symm
            exact j80 Jz77 _ _ _ dj_Jz77 ⟨fun hz => ri_or (h31.1 hz) (decide_eq_true (by omega)) (by rw [show (a0 Q p0 6) = y69 from gd_of ey69]; exact jz77.1) rfl rfl rfl, fun k hk => by have q := jz77.2 k hk; have q2 := h31.2 k hk; rw [show (a0 Q p0 6) = y69 from gd_of ey69] at q2 ⊢; exact q.trans q2⟩ hP hS (lv_sub hl [0, 1, 2, 3, 4, 5, 6] rfl)
          refine lv_if_ne (tgt := 68) hx hb dX7_laysBox_39 (by decide) (fun c39 => ?_) (fun c39 => ?_)
          · have t39 := tq_ne (k := p4.toInt) (q := (0)) c39 rfl (by decide +kernel)
            exact j68  _ _ _ (by omega) hP hS (lv_sub hl [0, 1, 2, 3, 4, 5, 6] rfl)
          · have t39 := tq_eq (k := p4.toInt) (q := (0)) c39 rfl (by decide +kernel)
            refine lv_iload hx hb dX7_laysBox_42 (lv_at hl 6 rfl) ?_
            refine lv_if_eq (tgt := 68) hx hb dX7_laysBox_44 (by decide) (fun c44 => ?_) (fun c44 => ?_)
            · have t44 := tq_eq (k := v31_6.toInt) (q := (0)) c44 rfl (by decide +kernel)
              exact j68  _ _ _ (by omega) hP hS (lv_sub hl [0, 1, 2, 3, 4, 5, 6] rfl)
            · have t44 := tq_ne (k := v31_6.toInt) (q := (0)) c44 rfl (by decide +kernel)
              refine lv_iload hx hb dX7_laysBox_47 (lv_at hl 5 rfl) ?_
              refine lv_if_eq (tgt := 68) hx hb dX7_laysBox_49 (by decide) (fun c49 => ?_) (fun c49 => ?_)
              · have t49 := tq_eq (k := v22_5.toInt) (q := (0)) c49 rfl (by decide +kernel)
                exact j68  _ _ _ (by omega) hP hS (lv_sub hl [0, 1, 2, 3, 4, 5, 6] rfl)
              · have t49 := tq_ne (k := v22_5.toInt) (q := (0)) c49 rfl (by decide +kernel)
                refine lv_iload hx hb dX7_laysBox_52 (lv_at hl 6 rfl) ?_
                refine lv_iload_n hx hb dX7_laysBox_54 rfl (lv_at hl 2 rfl) ?_
                refine lv_iconst (v := 1) hx hb dX7_laysBox_55 (by decide +kernel) ?_
                refine lv_isub hx hb dX7_laysBox_56 ?_
                refine lv_topi (fun z56 ez56 => ?_)
                have bz56 := tq_sub (k := p2.toInt) (q := (1)) ez56 rfl (by decide +kernel) (by omega) (by omega)
                refine lv_icmp_eq (tgt := 68) hx hb dX7_laysBox_57 (by decide) (fun c57 => ?_) (fun c57 => ?_)
                · have t57 := tq_eq (k := v31_6.toInt) (q := z56.toInt) c57 rfl rfl
                  exact j68  _ _ _ (by omega) hP hS (lv_sub hl [0, 1, 2, 3, 4, 5, 6] rfl)
                · have t57 := tq_ne (k := v31_6.toInt) (q := z56.toInt) c57 rfl rfl
                  refine lv_iload hx hb dX7_laysBox_60 (lv_at hl 5 rfl) ?_
                  refine lv_iload_n hx hb dX7_laysBox_62 rfl (lv_at hl 3 rfl) ?_
                  refine lv_iconst (v := 1) hx hb dX7_laysBox_63 (by decide +kernel) ?_
                  refine lv_isub hx hb dX7_laysBox_64 ?_
                  refine lv_topi (fun z64 ez64 => ?_)
                  have bz64 := tq_sub (k := p3.toInt) (q := (1)) ez64 rfl (by decide +kernel) (by omega) (by omega)
                  refine lv_icmp_ne (tgt := 80) hx hb dX7_laysBox_65 (by decide) (fun c65 => ?_) (fun c65 => ?_)
                  · have t65 := tq_ne (k := v22_5.toInt) (q := z64.toInt) c65 rfl rfl
                    exact j80 J31 _ _ _ dj_J31 ⟨fun hz => ri_skip (h31.1 hz) (decide_eq_false (by omega)) rfl, h31.2⟩ hP hS (lv_sub hl [0, 1, 2, 3, 4, 5, 6] rfl)
                  · have t65 := tq_eq (k := v22_5.toInt) (q := z64.toInt) c65 rfl rfl
                    exact j68  _ _ _ (by omega) hP hS (lv_sub hl [0, 1, 2, 3, 4, 5, 6] rfl))
      exact key31 _ 0 J22 _ _ _ rfl ⟨by decide +kernel, by decide +kernel⟩ dj_J22 ⟨fun hz => ri_eq (h22.1 hz) rfl rfl (by decide +kernel), h22.2⟩ hP hS (lv_sub hl [1, 2, 3, 4, 5, 6, 0] rfl))
  exact key22 _ 0 J _ _ _ rfl ⟨by decide +kernel, by decide +kernel⟩ dj_J ⟨fun hz => ri_0 (fun x y q => by have := lbxD_in q; omega) hz (by decide +kernel) rfl, fun _ _ => rfl⟩ hP hS (lv_sub hl [1, 2, 3, 4, 5, 0] rfl)

set_option maxHeartbeats 4000000 in
set_option maxRecDepth 100000 in
theorem s_X7_laysDisk (l : Launch) (dC : Nat → ClassId) (dI : Nat → Nat → Nat) (cs : Nat → ClassId) (L : List Nat) (K G : Nat → Nat) (Q : Nat → Nat → Option Nat) (hQ : Sv L K G Q) (x0 m0 : Nat) (tx : GT) (tm : GT × Int) (sz : Nat) (I : Nat → Nat → Int32) (J : Nat → Nat → Int64) (hI : Iv L K x0 m0 tx tm I) (p0 : Nat) (hLp0 : p0 ∈ L) (hKp0 : K p0 = 7) (p1 : Int32) (bp1 : (0) ≤ p1.toInt ∧ p1.toInt ≤ 7) (p2 : Int32) (bp2 : (0) ≤ p2.toInt ∧ p2.toInt ≤ 19) (ho : hOK Q I p0) : Met l yX7_laysDisk (.code yX7_laysDisk cX7_laysDisk 5 none :: pw) ({ frames := 1, cells := 0, slots := 0, locals := 23 }) (sP (dC, dI) cs [.ref p0, .int p1, .int p2] sz L K I J Q) (va_Qv (fun (_ : Unit) => True) (fun _ t => sB (dC, dI) cs L K Q (fun I1 J1 => Iv L K x0 m0 tx tm I1 ∧ (∀ b, ¬ (K b = 28) → I1 b = I b) ∧ (hHK Q I I1 p0) ∧ (∀ b, K b = 0 ∨ K b = 1 ∨ K b = 3 ∨ K b = 6 → I1 b = I b) ∧ ((I1 (a0 Q p0 1) = upd (upd (I (a0 Q p0 1)) (3 + p1.toInt.toNat) (2 * p2 + 1)) (11 + p1.toInt.toNat) (2 * p2 + 1)) ∧ ((∀ k, k < 80 → mo (J (a0 Q p0 6)) p1.toInt.toNat k = 0) → ∀ x y : Int, md (mo (J1 (a0 Q p0 6)) p1.toInt.toNat) x y = dskD p2.toInt x y) ∧ (∀ k, (k < 80 * p1.toInt.toNat ∨ 80 * p1.toInt.toNat + 80 ≤ k) → J1 (a0 Q p0 6) k = J (a0 Q p0 6) k)) ∧ (∀ b, ¬ (K b = 32) → J1 b = J b)) t) (fun q => q ∈ L ∨ sz ≤ q)) 0 0 (fun q => q ∈ L ∨ sz ≤ q) := by
  refine Met.ofW (cc := cX7_laysDisk) (maxL := 5) (ret := none) (by decide +kernel) rfl ?_
  intro p e s m args below meth c s₁ B hml hv
  obtain ⟨rfl, hsz, hP, hK, hD0, hN⟩ := hv
  have hx := B.exec
  have hb := B.bytes
  have hr := B.returns
  have hts := fun w (h : w ∈ pw) => atoms_spec (ws := Cond.code yX7_laysDisk cX7_laysDisk 5 none :: pw) B.pre w (List.mem_cons_of_mem _ h)
  have hown : s.vm.findClass RX7 = some m.cls := findClass_of_methodNamed B.named
  have hlocks := B.notSynchronized
  subst hsz
  have hBB : 999 ≤ tm.2 ∧ tm.2 ≤ 6000000 := hI.2.2.2.2.1
  have hk_I : hHK Q I I p0 := hK_refl ho
  have dn_I : (∀ b, K b = 0 ∨ K b = 1 ∨ K b = 3 ∨ K b = 6 → I b = I b) := fun _ _ => rfl
  have dj_J : (∀ b, ¬ (K b = 32) → J b = J b) := fun _ _ => rfl
  have fr_I : ∀ b, ¬ (K b = 28) → I b = I b := fun _ _ => rfl
  obtain ⟨A, hAe⟩ : ∃ A : Nat → Prop, A = (fun q => q ∈ L ∨ s.heap.size ≤ q) := ⟨_, rfl⟩
  rw [← hAe]
  have hAL : ∀ q, q ∈ L → A q := fun q h => by rw [hAe]; exact Or.inl h
  have hA : ∀ q, s.heap.size ≤ q → A q := fun q h => by rw [hAe]; exact Or.inr h
  have hD : ∀ F, va_D A (va_pl L F) := fun F => (hD0 F).weaken (fun k q hk _ => hAL _ (pl_mem hk))
  obtain ⟨H, hHe⟩ : ∃ H : Heap, H = s.heap := ⟨_, rfl⟩
  have hS : va_S A s.heap H [] := by rw [hHe]; exact va_S.rf
  rw [← hHe] at hP
  have hl := lv_entry ([.ref p0, .int p1, .int p2]) (n := 5) (Nat.le_of_ble_eq_true rfl)
  rw [lg_entry_eq]
  generalize (lg_sl ([.ref p0, .int p1, .int p2]) ++ List.replicate (5 - (lg_sl ([.ref p0, .int p1, .int p2])).length) Slot.unset).toArray = ls at hl ⊢
  have hl : lv_has ls 5 [(0, .ref p0), (1, .int p1), (2, .int p2)] := hl
  rw [← hHe]
  refine namedW (fun R Qz hR hQz => ?_)
  refine lv_aload_n hx hb dX7_laysDisk_0 rfl (lv_at hl 0 rfl) ?_
  obtain ⟨y1, ey1, hLy1, hKy1⟩ := oQ_7_1 (Sv_at hQ hLp0 hKp0)
  refine p_get (v := .ref y1) hx hb hts inX7 hown hK hP hLp0 hKp0 rfl rfl 1 (by decide) (hts _ pq1116) (congrArg (fun q => some (va_rf q)) ey1) dX7_laysDisk_1 ?_
  refine lv_iconst (v := 3) hx hb dX7_laysDisk_4 (by decide +kernel) ?_
  refine lv_iload_n hx hb dX7_laysDisk_5 rfl (lv_at hl 1 rfl) ?_
  refine lv_iadd hx hb dX7_laysDisk_6 ?_
  refine lv_topi (fun z6 ez6 => ?_)
  have bz6 := tq_add (k := (3)) (q := p1.toInt) ez6 (by decide +kernel) rfl (by omega) (by omega)
  refine lv_iconst (v := 2) hx hb dX7_laysDisk_7 (by decide +kernel) ?_
  refine lv_iload_n hx hb dX7_laysDisk_8 rfl (lv_at hl 2 rfl) ?_
  refine lv_imul hx hb dX7_laysDisk_9 ?_
  refine lv_topi (fun z9 ez9 => ?_)
  have bz9 := tq_mul (k := (2)) (q := p2.toInt) ez9 (by decide +kernel) rfl (by omega) (by omega)
  refine lv_iconst (v := 1) hx hb dX7_laysDisk_10 (by decide +kernel) ?_
  refine lv_iadd hx hb dX7_laysDisk_11 ?_
  refine lv_topi (fun z11 ez11 => ?_)
  have bz11 := tq_add (k := z9.toInt) (q := (1)) ez11 rfl (by decide +kernel) (by omega) (by omega)
  refine p_iast hx hb hK hP hD hS 18 hLy1 hKy1 rfl (fun _ => rfl) rfl (in_of (by omega) (by omega)) dX7_laysDisk_12 (fun H locs hP hS => ?_)
  obtain ⟨Iz12, hP, hIz12, qIz12⟩ : ∃ Iz12, va_P (dC, dI) vwCl (Wd cs L K Iz12 J Q) H ∧ Iv L K x0 m0 tx tm Iz12 ∧ Iz12 = va_up I y1 (upd (I y1) z6.toNatClampNeg z11) := ⟨_, hP, Iv_put hI hKy1 (show okI _ 28 _ from trivial) (Or.inl (by decide)) (Or.inl (by decide)), rfl⟩
  have dn_Iz12 : (∀ b, K b = 0 ∨ K b = 1 ∨ K b = 3 ∨ K b = 6 → Iz12 b = I b) := fun b hc => (congrFun qIz12 b).trans ((va_up_ne _ _ (fun z => by have q := hKy1; rw [← z] at q; omega)).trans (dn_I b hc))
  have hk_Iz12 := hK_put hQ hLp0 hKp0 ey1 qIz12 ⟨by omega, fun _ => by unfold rng; omega⟩ hk_I
  have fr_Iz12 : ∀ b, ¬ (K b = 28) → Iz12 b = I b := fun b q => (congrFun qIz12 b).trans ((va_up_ne _ _ (fun z => q (by rw [z]; have := hKy1; omega))).trans (fr_I b q))
  refine lv_aload_n hx hb dX7_laysDisk_13 rfl (lv_at hl 0 rfl) ?_
  refine p_get (v := .ref y1) hx hb hts inX7 hown hK hP hLp0 hKp0 rfl rfl 1 (by decide) (hts _ pq1116) (congrArg (fun q => some (va_rf q)) ey1) dX7_laysDisk_14 ?_
  refine lv_bipush (v := 11) hx hb dX7_laysDisk_17 (by decide +kernel) ?_
  refine lv_iload_n hx hb dX7_laysDisk_19 rfl (lv_at hl 1 rfl) ?_
  refine lv_iadd hx hb dX7_laysDisk_20 ?_
  refine lv_topi (fun z20 ez20 => ?_)
  have bz20 := tq_add (k := (11)) (q := p1.toInt) ez20 (by decide +kernel) rfl (by omega) (by omega)
  refine lv_iconst (v := 2) hx hb dX7_laysDisk_21 (by decide +kernel) ?_
  refine lv_iload_n hx hb dX7_laysDisk_22 rfl (lv_at hl 2 rfl) ?_
  refine lv_imul hx hb dX7_laysDisk_23 ?_
  refine lv_topi (fun z23 ez23 => ?_)
  have bz23 := tq_mul (k := (2)) (q := p2.toInt) ez23 (by decide +kernel) rfl (by omega) (by omega)
  refine lv_iconst (v := 1) hx hb dX7_laysDisk_24 (by decide +kernel) ?_
  refine lv_iadd hx hb dX7_laysDisk_25 ?_
  refine lv_topi (fun z25 ez25 => ?_)
  have bz25 := tq_add (k := z23.toInt) (q := (1)) ez25 rfl (by decide +kernel) (by omega) (by omega)
  refine p_iast hx hb hK hP hD hS 18 hLy1 hKy1 rfl (fun _ => rfl) rfl (in_of (by omega) (by omega)) dX7_laysDisk_26 (fun H locs hP hS => ?_)
  obtain ⟨Iz26, hP, hIz26, qIz26⟩ : ∃ Iz26, va_P (dC, dI) vwCl (Wd cs L K Iz26 J Q) H ∧ Iv L K x0 m0 tx tm Iz26 ∧ Iz26 = va_up Iz12 y1 (upd (Iz12 y1) z20.toNatClampNeg z25) := ⟨_, hP, Iv_put hIz12 hKy1 (show okI _ 28 _ from trivial) (Or.inl (by decide)) (Or.inl (by decide)), rfl⟩
  have dn_Iz26 : (∀ b, K b = 0 ∨ K b = 1 ∨ K b = 3 ∨ K b = 6 → Iz26 b = I b) := fun b hc => (congrFun qIz26 b).trans ((va_up_ne _ _ (fun z => by have q := hKy1; rw [← z] at q; omega)).trans (dn_Iz12 b hc))
  have hk_Iz26 := hK_put hQ hLp0 hKp0 ey1 qIz26 ⟨by omega, fun _ => by unfold rng; omega⟩ hk_Iz12
  have fr_Iz26 : ∀ b, ¬ (K b = 28) → Iz26 b = I b := fun b q => (congrFun qIz26 b).trans ((va_up_ne _ _ (fun z => q (by rw [z]; have := hKy1; omega))).trans (fr_Iz12 b q))
  refine lv_iconst (v := 0) hx hb dX7_laysDisk_27 (by decide +kernel) ?_
  refine lv_istore_n (lv' := [(3, .int 0), (0, .ref p0), (1, .int p1), (2, .int p2)]) hx hb dX7_laysDisk_28 rfl hl (by decide) rfl (fun ls hl => ?_)
  have key29 := blocks (fun n => ∀ (v29_3 : Int32) (J29 : Nat → Nat → Int64) (H : Heap) (lo : List Loc) (ls : Array Slot), (41 - v29_3.toInt).toNat = n → ((0) ≤ v29_3.toInt ∧ v29_3.toInt ≤ 40) → (∀ b, ¬ (K b = 32) → J29 b = J b) → (((∀ k, k < 80 → mo (J (a0 Q p0 6)) p1.toInt.toNat k = 0) → rowI (dskD p2.toInt) (mo (J29 (a0 Q p0 6)) p1.toInt.toNat) v29_3.toInt 0) ∧ (∀ k, (k < 80 * p1.toInt.toNat ∨ 80 * p1.toInt.toNat + 80 ≤ k) → J29 (a0 Q p0 6) k = J (a0 Q p0 6) k)) → va_P (dC, dI) vwCl (Wd cs L K Iz26 J29 Q) H → va_S A s.heap H lo → lv_has ls 5 [(0, .ref p0), (1, .int p1), (2, .int p2), (3, .int v29_3)] → W p l e R s m (([.ref p0, .int p1, .int p2] : List Value).toArray) below meth c H lo 0 0 Qz (F0 m 29 ls [])) (by
    intro n ih29
    intro v29_3 J29 H lo ls hmu29 bv29_3 dj_J29 h29 hP hS hl
    refine lv_iload_n hx hb dX7_laysDisk_29 rfl (lv_at hl 3 rfl) ?_
    refine lv_iconst (v := 2) hx hb dX7_laysDisk_30 (by decide +kernel) ?_
    refine lv_iload_n hx hb dX7_laysDisk_31 rfl (lv_at hl 2 rfl) ?_
    refine lv_imul hx hb dX7_laysDisk_32 ?_
    refine lv_topi (fun z32 ez32 => ?_)
    have bz32 := tq_mul (k := (2)) (q := p2.toInt) ez32 (by decide +kernel) rfl (by omega) (by omega)
    refine lv_icmp_gt (tgt := 93) hx hb dX7_laysDisk_33 (by decide) (fun c33 => ?_) (fun c33 => ?_)
    · have t33 := tq_lt (k := z32.toInt) (q := v29_3.toInt) c33 rfl rfl
      subst hR; subst hQz
      exact W.vret hx hb hr (fun t ht hW => ⟨⟨(), rfl, trivial, ⟨Iz26, J29, ⟨hIz26, fr_Iz26, hk_Iz26, dn_Iz26, ⟨by rw [show a0 Q p0 1 = y1 from gd_of ey1, qIz26, va_up_self, qIz12, va_up_self, show z6.toNatClampNeg = 3 + p1.toInt.toNat from (by show z6.toInt.toNat = _; omega), show z20.toNatClampNeg = 11 + p1.toInt.toNat from (by show z20.toInt.toNat = _; omega), ez25, ez11, ez23, ez9], fun hz => ri_fin (h29.1 hz) (fun x y q => by have := dskD_in q; omega), h29.2⟩, dj_J29⟩, by rw [ht]; exact hP⟩⟩, hS.F ht⟩) hS.2.2 dX7_laysDisk_93
    · have t33 := tq_nlt (k := z32.toInt) (q := v29_3.toInt) c33 rfl rfl
      refine lv_iconst (v := 0) hx hb dX7_laysDisk_36 (by decide +kernel) ?_
      refine lv_istore (lv' := [(4, .int 0), (0, .ref p0), (1, .int p1), (2, .int p2), (3, .int v29_3)]) hx hb dX7_laysDisk_37 hl (by decide) rfl (fun ls hl => ?_)
      have key39 := blocks (fun n => ∀ (v39_4 : Int32) (J39 : Nat → Nat → Int64) (H : Heap) (lo : List Loc) (ls : Array Slot), (41 - v39_4.toInt).toNat = n → ((0) ≤ v39_4.toInt ∧ v39_4.toInt ≤ 40) → (∀ b, ¬ (K b = 32) → J39 b = J b) → (((∀ k, k < 80 → mo (J (a0 Q p0 6)) p1.toInt.toNat k = 0) → rowI (dskD p2.toInt) (mo (J39 (a0 Q p0 6)) p1.toInt.toNat) v29_3.toInt v39_4.toInt) ∧ (∀ k, (k < 80 * p1.toInt.toNat ∨ 80 * p1.toInt.toNat + 80 ≤ k) → J39 (a0 Q p0 6) k = J (a0 Q p0 6) k)) → va_P (dC, dI) vwCl (Wd cs L K Iz26 J39 Q) H → va_S A s.heap H lo → lv_has ls 5 [(0, .ref p0), (1, .int p1), (2, .int p2), (3, .int v29_3), (4, .int v39_4)] → W p l e R s m (([.ref p0, .int p1, .int p2] : List Value).toArray) below meth c H lo 0 0 Qz (F0 m 39 ls [])) (by
        intro n ih39
        intro v39_4 J39 H lo ls hmu39 bv39_4 dj_J39 h39 hP hS hl
        refine lv_iload hx hb dX7_laysDisk_39 (lv_at hl 4 rfl) ?_
        refine lv_iconst (v := 2) hx hb dX7_laysDisk_41 (by decide +kernel) ?_
        refine lv_iload_n hx hb dX7_laysDisk_42 rfl (lv_at hl 2 rfl) ?_
        refine lv_imul hx hb dX7_laysDisk_43 ?_
        refine lv_topi (fun z43 ez43 => ?_)
        have bz43 := tq_mul (k := (2)) (q := p2.toInt) ez43 (by decide +kernel) rfl (by omega) (by omega)
        refine lv_icmp_gt (tgt := 87) hx hb dX7_laysDisk_44 (by decide) (fun c44 => ?_) (fun c44 => ?_)
        · have t44 := tq_lt (k := z43.toInt) (q := v39_4.toInt) c44 rfl rfl
          obtain ⟨z87, ez87⟩ : ∃ y : Int32, y = v29_3 + 1 := ⟨_, rfl⟩
          refine lv_iinc (v := z87) (lv' := [(3, .int z87), (0, .ref p0), (1, .int p1), (2, .int p2), (4, .int v39_4)]) hx hb dX7_laysDisk_87 hl (k := 3) rfl (by rw [ez87]; rfl) (by decide) rfl (fun ls hl => ?_)
          have bz87 := tq_add (k := v29_3.toInt) (q := 1) ez87 rfl (by decide +kernel) (by omega) (by omega)
          refine lv_goto (tgt := 29) hx hb dX7_laysDisk_90 (by decide) ?_
          exact ih29 _ (by omega) z87 J39 _ _ _ rfl ⟨by omega, by omega⟩ dj_J39 ⟨fun hz => ri_nl (fun x y q => by have := dskD_in q; omega) (h39.1 hz) (fun x q => by have := dskD_in q; omega) (by omega) rfl, h39.2⟩ hP hS (lv_sub hl [1, 2, 3, 0] rfl)
        · have t44 := tq_nlt (k := z43.toInt) (q := v39_4.toInt) c44 rfl rfl
          refine lv_iload hx hb dX7_laysDisk_47 (lv_at hl 4 rfl) ?_
          refine lv_iload_n hx hb dX7_laysDisk_49 rfl (lv_at hl 2 rfl) ?_
          refine lv_isub hx hb dX7_laysDisk_50 ?_
          refine lv_topi (fun z50 ez50 => ?_)
          have bz50 := tq_sub (k := v39_4.toInt) (q := p2.toInt) ez50 rfl rfl (by omega) (by omega)
          refine lv_iload hx hb dX7_laysDisk_51 (lv_at hl 4 rfl) ?_
          refine lv_iload_n hx hb dX7_laysDisk_53 rfl (lv_at hl 2 rfl) ?_
          refine lv_isub hx hb dX7_laysDisk_54 ?_
          refine lv_topi (fun z54 ez54 => ?_)
          have bz54 := tq_sub (k := v39_4.toInt) (q := p2.toInt) ez54 rfl rfl (by omega) (by omega)
          refine lv_imul hx hb dX7_laysDisk_55 ?_
          refine lv_topi (fun z55 ez55 => ?_)
          refine lv_iload_n hx hb dX7_laysDisk_56 rfl (lv_at hl 3 rfl) ?_
          refine lv_iload_n hx hb dX7_laysDisk_57 rfl (lv_at hl 2 rfl) ?_
          refine lv_isub hx hb dX7_laysDisk_58 ?_
          refine lv_topi (fun z58 ez58 => ?_)
          have bz58 := tq_sub (k := v29_3.toInt) (q := p2.toInt) ez58 rfl rfl (by omega) (by omega)
          refine lv_iload_n hx hb dX7_laysDisk_59 rfl (lv_at hl 3 rfl) ?_
          refine lv_iload_n hx hb dX7_laysDisk_60 rfl (lv_at hl 2 rfl) ?_
          refine lv_isub hx hb dX7_laysDisk_61 ?_
          refine lv_topi (fun z61 ez61 => ?_)
          have bz61 := tq_sub (k := v29_3.toInt) (q := p2.toInt) ez61 rfl rfl (by omega) (by omega)
          refine lv_imul hx hb dX7_laysDisk_62 ?_
          refine lv_topi (fun z62 ez62 => ?_)
          refine lv_iadd hx hb dX7_laysDisk_63 ?_
          refine lv_topi (fun z63 ez63 => ?_)
          refine lv_iload_n hx hb dX7_laysDisk_64 rfl (lv_at hl 2 rfl) ?_
          refine lv_iload_n hx hb dX7_laysDisk_65 rfl (lv_at hl 2 rfl) ?_
          refine lv_imul hx hb dX7_laysDisk_66 ?_
          refine lv_topi (fun z66 ez66 => ?_)
          have Q67 := dsk_q ez55 ez62 ez63 ez66 bz50 bz54 bz58 bz61 rfl (by omega) (by omega) (by omega)
          have j81 : ∀ (J81 : Nat → Nat → Int64) (H : Heap) (lo : List Loc) (ls : Array Slot), (∀ b, ¬ (K b = 32) → J81 b = J b) → (((∀ k, k < 80 → mo (J (a0 Q p0 6)) p1.toInt.toNat k = 0) → rowI (dskD p2.toInt) (mo (J81 (a0 Q p0 6)) p1.toInt.toNat) v29_3.toInt (v39_4.toInt + 1)) ∧ (∀ k, (k < 80 * p1.toInt.toNat ∨ 80 * p1.toInt.toNat + 80 ≤ k) → J81 (a0 Q p0 6) k = J (a0 Q p0 6) k)) → va_P (dC, dI) vwCl (Wd cs L K Iz26 J81 Q) H → va_S A s.heap H lo → lv_has ls 5 [(0, .ref p0), (1, .int p1), (2, .int p2), (3, .int v29_3), (4, .int v39_4)] → W p l e R s m (([.ref p0, .int p1, .int p2] : List Value).toArray) below meth c H lo 0 0 Qz (F0 m 81 ls []) := by
            intro J81 H lo ls dj_J81 h81 hP hS hl
            obtain ⟨z81, ez81⟩ : ∃ y : Int32, y = v39_4 + 1 := ⟨_, rfl⟩
            refine lv_iinc (v := z81) (lv' := [(4, .int z81), (0, .ref p0), (1, .int p1), (2, .int p2), (3, .int v29_3)]) hx hb dX7_laysDisk_81 hl (k := 4) rfl (by rw [ez81]; rfl) (by decide) rfl (fun ls hl => ?_)
            have bz81 := tq_add (k := v39_4.toInt) (q := 1) ez81 rfl (by decide +kernel) (by omega) (by omega)
            refine lv_goto (tgt := 39) hx hb dX7_laysDisk_84 (by decide) ?_
            exact ih39 _ (by omega) z81 J81 _ _ _ rfl ⟨by omega, by omega⟩ dj_J81 ⟨fun hz => ri_eq (h81.1 hz) rfl rfl (by omega), h81.2⟩ hP hS (lv_sub hl [1, 2, 3, 4, 0] rfl)
          refine lv_icmp_gt (tgt := 81) hx hb dX7_laysDisk_67 (by decide) (fun c67 => ?_) (fun c67 => ?_)
          · have t67 := tq_lt (k := z66.toInt) (q := z63.toInt) c67 rfl rfl
            have rg67z63 := fb_rng z63
            have rg67z66 := fb_rng z66
            exact j81 J39 _ _ _ dj_J39 ⟨fun hz => ri_skip (h39.1 hz) (decide_eq_false (fun w => by have w2 := w.2; have q1 := Q67.1; have q2 := Q67.2; omega)) rfl, h39.2⟩ hP hS (lv_sub hl [0, 1, 2, 3, 4] rfl)
          · have t67 := tq_nlt (k := z66.toInt) (q := z63.toInt) c67 rfl rfl
            refine lv_aload_n hx hb dX7_laysDisk_70 rfl (lv_at hl 0 rfl) ?_
            obtain ⟨y71, ey71, hLy71, hKy71⟩ := oQ_7_6 (Sv_at hQ hLp0 hKp0)
            refine p_get (v := .ref y71) hx hb hts inX7 hown hK hP hLp0 hKp0 rfl rfl 6 (by decide) (hts _ pq1121) (congrArg (fun q => some (va_rf q)) ey71) dX7_laysDisk_71 ?_
            refine lv_iload_n hx hb dX7_laysDisk_74 rfl (lv_at hl 1 rfl) ?_
            refine lv_iload hx hb dX7_laysDisk_75 (lv_at hl 4 rfl) ?_
            refine lv_iload_n hx hb dX7_laysDisk_77 rfl (lv_at hl 3 rfl) ?_
            refine sw_v (Z := (fun I1 J1 => Iv L K x0 m0 tx tm I1 ∧ I1 = Iz26 ∧ ((∀ x y : Int, md (mo (J1 y71) p1.toInt.toNat) x y = (md (mo (J39 y71) p1.toInt.toNat) x y || decide (x = v39_4.toInt ∧ y = v29_3.toInt))) ∧ ∀ k, (k < 80 * p1.toInt.toNat ∨ 80 * p1.toInt.toNat + 80 ≤ k) → J1 y71 k = J39 y71 k) ∧ (∀ b, ¬ (K b = 32) → J1 b = J39 b))) (va_runS (As := [.ref y71, .int p1, .int v39_4, .int v29_3]) (rest := []) ⟨hx, hb, hml, hown, hts⟩ (s_X7_setsDot l dC dI cs L K G Q hQ x0 m0 tx tm H.size Iz26 J39 hIz26 y71 hLy71 hKy71 p1 ⟨by omega, by omega⟩ v39_4 ⟨by omega, by omega⟩ v29_3 ⟨by omega, by omega⟩) (va_cwS 4 hts (gS pq1254 pq1255 pq81 pq1256) rfl rfl rfl (by decide +kernel) ⟨(by rw [hR]; exact (Nat.le_of_ble_eq_true rfl)), (by rw [hR]; exact (Nat.le_of_ble_eq_true rfl))⟩) (sP_S hP hD hK hN) rfl rfl hl.1 rfl (lv_room (Nat.le_of_ble_eq_true rfl)) dX7_laysDisk_78 ⟨(by rw [hR]; exact (Nat.le_of_ble_eq_true rfl)), (by rw [hR]; exact (Nat.le_of_ble_eq_true rfl))⟩) hS hAL hA (fun Iz78 Jz78 H locs hz78 hIz78 hP hS => ?_)
            obtain ⟨hIz78, sm78, jz78, djc78⟩ := hIz78
            have dj_Jz78 : (∀ b, ¬ (K b = 32) → Jz78 b = J b) := fun b hc => (djc78 b (fun z => hc (by omega))).trans (dj_J39 b hc)
            obtain rfl : Iz26 = Iz78 := sm78.symm
            exact j81 Jz78 _ _ _ dj_Jz78 ⟨fun hz => ri_or (h39.1 hz) (decide_eq_true ⟨⟨⟨by omega, by omega⟩, ⟨by omega, by omega⟩⟩, by have q1 := Q67.1; have q2 := Q67.2; omega⟩) (by rw [show (a0 Q p0 6) = y71 from gd_of ey71]; exact jz78.1) rfl rfl rfl, fun k hk => by have q := jz78.2 k hk; have q2 := h39.2 k hk; rw [show (a0 Q p0 6) = y71 from gd_of ey71] at q2 ⊢; exact q.trans q2⟩ hP hS (lv_sub hl [0, 1, 2, 3, 4] rfl))
      exact key39 _ 0 J29 _ _ _ rfl ⟨by decide +kernel, by decide +kernel⟩ dj_J29 ⟨fun hz => ri_eq (h29.1 hz) rfl rfl (by decide +kernel), h29.2⟩ hP hS (lv_sub hl [1, 2, 3, 4, 0] rfl))
  exact key29 _ 0 J _ _ _ rfl ⟨by decide +kernel, by decide +kernel⟩ dj_J ⟨fun hz => ri_0 (fun x y q => by have := dskD_in q; omega) hz (by decide +kernel) rfl, fun _ _ => rfl⟩ hP hS (lv_sub hl [1, 2, 3, 0] rfl)
