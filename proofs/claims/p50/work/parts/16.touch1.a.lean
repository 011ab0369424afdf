def yX6_replaceBy : MethodName := ⟨RX6, "replaceBy", "(LMaskTouch$Field;)V"⟩
def yX6_isBody : MethodName := ⟨RX6, "isBody", "(I)Z"⟩
def yX6_isMask : MethodName := ⟨RX6, "isMask", "(I)Z"⟩
abbrev cX6_replaceBy : ByteArray := prog_1_method_27_code
abbrev cX6_isBody : ByteArray := prog_1_method_61_code
abbrev cX6_isMask : ByteArray := prog_1_method_60_code
abbrev cX6_areTwoBodies : ByteArray := prog_1_method_62_code
abbrev cX6_back : ByteArray := prog_1_method_26_code
abbrev cX6_cutAbove : ByteArray := prog_1_method_16_code
abbrev cX6_cutLeft : ByteArray := prog_1_method_15_code
abbrev cX6_dot : ByteArray := prog_1_method_30_code
abbrev cX6_island : ByteArray := prog_1_method_32_code
abbrev cX6_mask : ByteArray := prog_1_method_29_code
abbrev cX6_row : ByteArray := prog_1_method_31_code
abbrev cX6_undo : ByteArray := prog_1_method_24_code
def yX6_areTwoBodies : MethodName := ⟨RX6, "areTwoBodies", "(II)Z"⟩
def yX6_back : MethodName := ⟨RX6, "back", "(I)I"⟩
def yX6_cutAbove : MethodName := ⟨RX6, "cutAbove", "(LMaskTouch$Mask;I)I"⟩
def yX6_cutLeft : MethodName := ⟨RX6, "cutLeft", "(LMaskTouch$Mask;I)I"⟩
def yX6_dot : MethodName := ⟨RX6, "dot", "(III)I"⟩
def yX6_island : MethodName := ⟨RX6, "island", "(III)I"⟩
def yX6_mask : MethodName := ⟨RX6, "mask", "(II)I"⟩
def yX6_row : MethodName := ⟨RX6, "row", "(III)J"⟩
def yX6_undo : MethodName := ⟨RX6, "undo", "()I"⟩
theorem dX6_areTwoBodies_0 : decode cX6_areTwoBodies 0 = .ok (.aload_n 0, 1) := by decide +kernel
theorem dX6_areTwoBodies_1 : decode cX6_areTwoBodies 1 = .ok (.iload_n 1, 1) := by decide +kernel
theorem dX6_areTwoBodies_2 : decode cX6_areTwoBodies 2 = .ok (.invokevirtual 86, 3) := by decide +kernel
theorem dX6_areTwoBodies_5 : decode cX6_areTwoBodies 5 = .ok (.ifCond .eq 20, 3) := by decide +kernel
theorem dX6_areTwoBodies_8 : decode cX6_areTwoBodies 8 = .ok (.aload_n 0, 1) := by decide +kernel
theorem dX6_areTwoBodies_9 : decode cX6_areTwoBodies 9 = .ok (.iload_n 2, 1) := by decide +kernel
theorem dX6_areTwoBodies_10 : decode cX6_areTwoBodies 10 = .ok (.invokevirtual 86, 3) := by decide +kernel
theorem dX6_areTwoBodies_13 : decode cX6_areTwoBodies 13 = .ok (.ifCond .eq 12, 3) := by decide +kernel
theorem dX6_areTwoBodies_16 : decode cX6_areTwoBodies 16 = .ok (.iload_n 1, 1) := by decide +kernel
theorem dX6_areTwoBodies_17 : decode cX6_areTwoBodies 17 = .ok (.iload_n 2, 1) := by decide +kernel
theorem dX6_areTwoBodies_18 : decode cX6_areTwoBodies 18 = .ok (.if_icmp .eq 7, 3) := by decide +kernel
theorem dX6_areTwoBodies_21 : decode cX6_areTwoBodies 21 = .ok (.iconst 1, 1) := by decide +kernel
theorem dX6_areTwoBodies_22 : decode cX6_areTwoBodies 22 = .ok (.goto 4, 3) := by decide +kernel
theorem dX6_areTwoBodies_25 : decode cX6_areTwoBodies 25 = .ok (.iconst 0, 1) := by decide +kernel
theorem dX6_areTwoBodies_26 : decode cX6_areTwoBodies 26 = .ok (.ireturn, 1) := by decide +kernel
theorem dX6_back_0 : decode cX6_back 0 = .ok (.iload_n 1, 1) := by decide +kernel
theorem dX6_back_1 : decode cX6_back 1 = .ok (.iconst 1, 1) := by decide +kernel
theorem dX6_back_2 : decode cX6_back 2 = .ok (.invokestatic 109, 3) := by decide +kernel
theorem dX6_back_5 : decode cX6_back 5 = .ok (.ifCond .ne 5, 3) := by decide +kernel
theorem dX6_back_8 : decode cX6_back 8 = .ok (.iconst (-1), 1) := by decide +kernel
theorem dX6_back_9 : decode cX6_back 9 = .ok (.ireturn, 1) := by decide +kernel
theorem dX6_back_10 : decode cX6_back 10 = .ok (.aload_n 0, 1) := by decide +kernel
theorem dX6_back_11 : decode cX6_back 11 = .ok (.getfield 69, 3) := by decide +kernel
theorem dX6_back_14 : decode cX6_back 14 = .ok (.iload_n 1, 1) := by decide +kernel
theorem dX6_back_15 : decode cX6_back 15 = .ok (.aaload, 1) := by decide +kernel
theorem dX6_back_16 : decode cX6_back 16 = .ok (.astore_n 2, 1) := by decide +kernel
theorem dX6_back_17 : decode cX6_back 17 = .ok (.aload_n 2, 1) := by decide +kernel
theorem dX6_back_18 : decode cX6_back 18 = .ok (.ifnonnull 6, 3) := by decide +kernel
theorem dX6_back_21 : decode cX6_back 21 = .ok (.bipush (-2), 2) := by decide +kernel
theorem dX6_back_23 : decode cX6_back 23 = .ok (.ireturn, 1) := by decide +kernel
theorem dX6_back_24 : decode cX6_back 24 = .ok (.aload_n 0, 1) := by decide +kernel
theorem dX6_back_25 : decode cX6_back 25 = .ok (.aload_n 2, 1) := by decide +kernel
theorem dX6_back_26 : decode cX6_back 26 = .ok (.invokevirtual 80, 3) := by decide +kernel
theorem dX6_back_29 : decode cX6_back 29 = .ok (.aload_n 0, 1) := by decide +kernel
theorem dX6_back_30 : decode cX6_back 30 = .ok (.getfield 20, 3) := by decide +kernel
theorem dX6_back_33 : decode cX6_back 33 = .ok (.getfield 83, 3) := by decide +kernel
theorem dX6_back_36 : decode cX6_back 36 = .ok (.ireturn, 1) := by decide +kernel
theorem dX6_cutAbove_0 : decode cX6_cutAbove 0 = .ok (.iload_n 1, 1) := by decide +kernel
theorem dX6_cutAbove_1 : decode cX6_cutAbove 1 = .ok (.iconst 2, 1) := by decide +kernel
theorem dX6_cutAbove_2 : decode cX6_cutAbove 2 = .ok (.iand, 1) := by decide +kernel
theorem dX6_cutAbove_3 : decode cX6_cutAbove 3 = .ok (.ifCond .ne 10, 3) := by decide +kernel
theorem dX6_cutAbove_6 : decode cX6_cutAbove 6 = .ok (.aload_n 0, 1) := by decide +kernel
theorem dX6_cutAbove_7 : decode cX6_cutAbove 7 = .ok (.getfield 195, 3) := by decide +kernel
theorem dX6_cutAbove_10 : decode cX6_cutAbove 10 = .ok (.goto 14, 3) := by decide +kernel
theorem dX6_cutAbove_13 : decode cX6_cutAbove 13 = .ok (.aload_n 0, 1) := by decide +kernel
theorem dX6_cutAbove_14 : decode cX6_cutAbove 14 = .ok (.getfield 173, 3) := by decide +kernel
theorem dX6_cutAbove_17 : decode cX6_cutAbove 17 = .ok (.iconst 1, 1) := by decide +kernel
theorem dX6_cutAbove_18 : decode cX6_cutAbove 18 = .ok (.isub, 1) := by decide +kernel
theorem dX6_cutAbove_19 : decode cX6_cutAbove 19 = .ok (.aload_n 0, 1) := by decide +kernel
theorem dX6_cutAbove_20 : decode cX6_cutAbove 20 = .ok (.getfield 198, 3) := by decide +kernel
theorem dX6_cutAbove_23 : decode cX6_cutAbove 23 = .ok (.isub, 1) := by decide +kernel
theorem dX6_cutAbove_24 : decode cX6_cutAbove 24 = .ok (.ireturn, 1) := by decide +kernel
theorem dX6_cutLeft_0 : decode cX6_cutLeft 0 = .ok (.iload_n 1, 1) := by decide +kernel
theorem dX6_cutLeft_1 : decode cX6_cutLeft 1 = .ok (.iconst 1, 1) := by decide +kernel
theorem dX6_cutLeft_2 : decode cX6_cutLeft 2 = .ok (.iand, 1) := by decide +kernel
theorem dX6_cutLeft_3 : decode cX6_cutLeft 3 = .ok (.ifCond .ne 10, 3) := by decide +kernel
theorem dX6_cutLeft_6 : decode cX6_cutLeft 6 = .ok (.aload_n 0, 1) := by decide +kernel
theorem dX6_cutLeft_7 : decode cX6_cutLeft 7 = .ok (.getfield 189, 3) := by decide +kernel
theorem dX6_cutLeft_10 : decode cX6_cutLeft 10 = .ok (.goto 14, 3) := by decide +kernel
theorem dX6_cutLeft_13 : decode cX6_cutLeft 13 = .ok (.aload_n 0, 1) := by decide +kernel
theorem dX6_cutLeft_14 : decode cX6_cutLeft 14 = .ok (.getfield 170, 3) := by decide +kernel
theorem dX6_cutLeft_17 : decode cX6_cutLeft 17 = .ok (.iconst 1, 1) := by decide +kernel
theorem dX6_cutLeft_18 : decode cX6_cutLeft 18 = .ok (.isub, 1) := by decide +kernel
theorem dX6_cutLeft_19 : decode cX6_cutLeft 19 = .ok (.aload_n 0, 1) := by decide +kernel
theorem dX6_cutLeft_20 : decode cX6_cutLeft 20 = .ok (.getfield 192, 3) := by decide +kernel
theorem dX6_cutLeft_23 : decode cX6_cutLeft 23 = .ok (.isub, 1) := by decide +kernel
theorem dX6_cutLeft_24 : decode cX6_cutLeft 24 = .ok (.ireturn, 1) := by decide +kernel
theorem dX6_dot_0 : decode cX6_dot 0 = .ok (.aload_n 0, 1) := by decide +kernel
theorem dX6_dot_1 : decode cX6_dot 1 = .ok (.iload_n 1, 1) := by decide +kernel
theorem dX6_dot_2 : decode cX6_dot 2 = .ok (.invokevirtual 130, 3) := by decide +kernel
theorem dX6_dot_5 : decode cX6_dot 5 = .ok (.ifCond .ne 5, 3) := by decide +kernel
theorem dX6_dot_8 : decode cX6_dot 8 = .ok (.iconst (-1), 1) := by decide +kernel
theorem dX6_dot_9 : decode cX6_dot 9 = .ok (.ireturn, 1) := by decide +kernel
theorem dX6_dot_10 : decode cX6_dot 10 = .ok (.aload_n 0, 1) := by decide +kernel
theorem dX6_dot_11 : decode cX6_dot 11 = .ok (.getfield 20, 3) := by decide +kernel
theorem dX6_dot_14 : decode cX6_dot 14 = .ok (.getfield 133, 3) := by decide +kernel
theorem dX6_dot_17 : decode cX6_dot 17 = .ok (.iload_n 1, 1) := by decide +kernel
theorem dX6_dot_18 : decode cX6_dot 18 = .ok (.aaload, 1) := by decide +kernel
theorem dX6_dot_19 : decode cX6_dot 19 = .ok (.iload_n 2, 1) := by decide +kernel
theorem dX6_dot_20 : decode cX6_dot 20 = .ok (.iload_n 3, 1) := by decide +kernel
theorem dX6_dot_21 : decode cX6_dot 21 = .ok (.invokevirtual 147, 3) := by decide +kernel
theorem dX6_dot_24 : decode cX6_dot 24 = .ok (.ifCond .eq 7, 3) := by decide +kernel
theorem dX6_dot_27 : decode cX6_dot 27 = .ok (.iconst 1, 1) := by decide +kernel
theorem dX6_dot_28 : decode cX6_dot 28 = .ok (.goto 4, 3) := by decide +kernel
theorem dX6_dot_31 : decode cX6_dot 31 = .ok (.iconst 0, 1) := by decide +kernel
theorem dX6_dot_32 : decode cX6_dot 32 = .ok (.ireturn, 1) := by decide +kernel
theorem dX6_isBody_0 : decode cX6_isBody 0 = .ok (.iload_n 1, 1) := by decide +kernel
theorem dX6_isBody_1 : decode cX6_isBody 1 = .ok (.ifCond .lt 18, 3) := by decide +kernel
theorem dX6_isBody_4 : decode cX6_isBody 4 = .ok (.iload_n 1, 1) := by decide +kernel
theorem dX6_isBody_5 : decode cX6_isBody 5 = .ok (.aload_n 0, 1) := by decide +kernel
theorem dX6_isBody_6 : decode cX6_isBody 6 = .ok (.getfield 20, 3) := by decide +kernel
theorem dX6_isBody_9 : decode cX6_isBody 9 = .ok (.getfield 83, 3) := by decide +kernel
theorem dX6_isBody_12 : decode cX6_isBody 12 = .ok (.if_icmp .ge 7, 3) := by decide +kernel
theorem dX6_isBody_15 : decode cX6_isBody 15 = .ok (.iconst 1, 1) := by decide +kernel
theorem dX6_isBody_16 : decode cX6_isBody 16 = .ok (.goto 4, 3) := by decide +kernel
theorem dX6_isBody_19 : decode cX6_isBody 19 = .ok (.iconst 0, 1) := by decide +kernel
theorem dX6_isBody_20 : decode cX6_isBody 20 = .ok (.ireturn, 1) := by decide +kernel
theorem dX6_isMask_0 : decode cX6_isMask 0 = .ok (.iload_n 1, 1) := by decide +kernel
theorem dX6_isMask_1 : decode cX6_isMask 1 = .ok (.ifCond .lt 18, 3) := by decide +kernel
theorem dX6_isMask_4 : decode cX6_isMask 4 = .ok (.iload_n 1, 1) := by decide +kernel
theorem dX6_isMask_5 : decode cX6_isMask 5 = .ok (.aload_n 0, 1) := by decide +kernel
theorem dX6_isMask_6 : decode cX6_isMask 6 = .ok (.getfield 20, 3) := by decide +kernel
theorem dX6_isMask_9 : decode cX6_isMask 9 = .ok (.getfield 367, 3) := by decide +kernel
theorem dX6_isMask_12 : decode cX6_isMask 12 = .ok (.if_icmp .ge 7, 3) := by decide +kernel
theorem dX6_isMask_15 : decode cX6_isMask 15 = .ok (.iconst 1, 1) := by decide +kernel
theorem dX6_isMask_16 : decode cX6_isMask 16 = .ok (.goto 4, 3) := by decide +kernel
theorem dX6_isMask_19 : decode cX6_isMask 19 = .ok (.iconst 0, 1) := by decide +kernel
theorem dX6_isMask_20 : decode cX6_isMask 20 = .ok (.ireturn, 1) := by decide +kernel
theorem dX6_island_0 : decode cX6_island 0 = .ok (.aload_n 0, 1) := by decide +kernel
theorem dX6_island_1 : decode cX6_island 1 = .ok (.iload_n 1, 1) := by decide +kernel
theorem dX6_island_2 : decode cX6_island 2 = .ok (.invokevirtual 130, 3) := by decide +kernel
theorem dX6_island_5 : decode cX6_island 5 = .ok (.ifCond .eq 16, 3) := by decide +kernel
theorem dX6_island_8 : decode cX6_island 8 = .ok (.iload_n 2, 1) := by decide +kernel
theorem dX6_island_9 : decode cX6_island 9 = .ok (.iconst (-1), 1) := by decide +kernel
theorem dX6_island_10 : decode cX6_island 10 = .ok (.if_icmp .lt 11, 3) := by decide +kernel
theorem dX6_island_13 : decode cX6_island 13 = .ok (.iload_n 3, 1) := by decide +kernel
theorem dX6_island_14 : decode cX6_island 14 = .ok (.iconst 4, 1) := by decide +kernel
theorem dX6_island_15 : decode cX6_island 15 = .ok (.invokestatic 109, 3) := by decide +kernel
theorem dX6_island_18 : decode cX6_island 18 = .ok (.ifCond .ne 5, 3) := by decide +kernel
theorem dX6_island_21 : decode cX6_island 21 = .ok (.iconst (-1), 1) := by decide +kernel
theorem dX6_island_22 : decode cX6_island 22 = .ok (.ireturn, 1) := by decide +kernel
theorem dX6_island_23 : decode cX6_island 23 = .ok (.aload_n 0, 1) := by decide +kernel
theorem dX6_island_24 : decode cX6_island 24 = .ok (.getfield 20, 3) := by decide +kernel
theorem dX6_island_27 : decode cX6_island 27 = .ok (.getfield 133, 3) := by decide +kernel
theorem dX6_island_30 : decode cX6_island 30 = .ok (.iload_n 1, 1) := by decide +kernel
theorem dX6_island_31 : decode cX6_island 31 = .ok (.aaload, 1) := by decide +kernel
theorem dX6_island_32 : decode cX6_island 32 = .ok (.astore 4, 2) := by decide +kernel
theorem dX6_island_34 : decode cX6_island 34 = .ok (.iload_n 2, 1) := by decide +kernel
theorem dX6_island_35 : decode cX6_island 35 = .ok (.iconst (-1), 1) := by decide +kernel
theorem dX6_island_36 : decode cX6_island 36 = .ok (.if_icmp .ne 21, 3) := by decide +kernel
theorem dX6_island_39 : decode cX6_island 39 = .ok (.iload_n 3, 1) := by decide +kernel
theorem dX6_island_40 : decode cX6_island 40 = .ok (.ifCond .ne 15, 3) := by decide +kernel
theorem dX6_island_43 : decode cX6_island 43 = .ok (.aload_n 0, 1) := by decide +kernel
theorem dX6_island_44 : decode cX6_island 44 = .ok (.getfield 55, 3) := by decide +kernel
theorem dX6_island_47 : decode cX6_island 47 = .ok (.aload 4, 2) := by decide +kernel
theorem dX6_island_49 : decode cX6_island 49 = .ok (.invokevirtual 240, 3) := by decide +kernel
theorem dX6_island_52 : decode cX6_island 52 = .ok (.goto 4, 3) := by decide +kernel
theorem dX6_island_55 : decode cX6_island 55 = .ok (.iconst (-1), 1) := by decide +kernel
theorem dX6_island_56 : decode cX6_island 56 = .ok (.ireturn, 1) := by decide +kernel
theorem dX6_island_57 : decode cX6_island 57 = .ok (.aload_n 0, 1) := by decide +kernel
theorem dX6_island_58 : decode cX6_island 58 = .ok (.getfield 55, 3) := by decide +kernel
theorem dX6_island_61 : decode cX6_island 61 = .ok (.aload 4, 2) := by decide +kernel
theorem dX6_island_63 : decode cX6_island 63 = .ok (.iload_n 2, 1) := by decide +kernel
theorem dX6_island_64 : decode cX6_island 64 = .ok (.invokevirtual 255, 3) := by decide +kernel
theorem dX6_island_67 : decode cX6_island 67 = .ok (.ifCond .ne 5, 3) := by decide +kernel
theorem dX6_island_70 : decode cX6_island 70 = .ok (.iconst (-1), 1) := by decide +kernel
theorem dX6_island_71 : decode cX6_island 71 = .ok (.ireturn, 1) := by decide +kernel
theorem dX6_island_72 : decode cX6_island 72 = .ok (.iload_n 3, 1) := by decide +kernel
theorem dX6_island_73 : decode cX6_island 73 = .ok (.tableswitch 63 0 3 #[31, 39, 47, 55], 31) := by decide +kernel
theorem dX6_island_104 : decode cX6_island 104 = .ok (.aload_n 0, 1) := by decide +kernel
theorem dX6_island_105 : decode cX6_island 105 = .ok (.getfield 55, 3) := by decide +kernel
theorem dX6_island_108 : decode cX6_island 108 = .ok (.getfield 259, 3) := by decide +kernel
theorem dX6_island_111 : decode cX6_island 111 = .ok (.ireturn, 1) := by decide +kernel
theorem dX6_island_112 : decode cX6_island 112 = .ok (.aload_n 0, 1) := by decide +kernel
theorem dX6_island_113 : decode cX6_island 113 = .ok (.getfield 55, 3) := by decide +kernel
theorem dX6_island_116 : decode cX6_island 116 = .ok (.getfield 262, 3) := by decide +kernel
theorem dX6_island_119 : decode cX6_island 119 = .ok (.ireturn, 1) := by decide +kernel
theorem dX6_island_120 : decode cX6_island 120 = .ok (.aload_n 0, 1) := by decide +kernel
theorem dX6_island_121 : decode cX6_island 121 = .ok (.getfield 55, 3) := by decide +kernel
theorem dX6_island_124 : decode cX6_island 124 = .ok (.getfield 263, 3) := by decide +kernel
theorem dX6_island_127 : decode cX6_island 127 = .ok (.ireturn, 1) := by decide +kernel
theorem dX6_island_128 : decode cX6_island 128 = .ok (.aload_n 0, 1) := by decide +kernel
theorem dX6_island_129 : decode cX6_island 129 = .ok (.getfield 55, 3) := by decide +kernel
theorem dX6_island_132 : decode cX6_island 132 = .ok (.getfield 264, 3) := by decide +kernel
theorem dX6_island_135 : decode cX6_island 135 = .ok (.ireturn, 1) := by decide +kernel
theorem dX6_island_136 : decode cX6_island 136 = .ok (.aload_n 0, 1) := by decide +kernel
theorem dX6_island_137 : decode cX6_island 137 = .ok (.getfield 55, 3) := by decide +kernel
theorem dX6_island_140 : decode cX6_island 140 = .ok (.getfield 265, 3) := by decide +kernel
theorem dX6_island_143 : decode cX6_island 143 = .ok (.ireturn, 1) := by decide +kernel
theorem dX6_mask_0 : decode cX6_mask 0 = .ok (.aload_n 0, 1) := by decide +kernel
theorem dX6_mask_1 : decode cX6_mask 1 = .ok (.iload_n 1, 1) := by decide +kernel
theorem dX6_mask_2 : decode cX6_mask 2 = .ok (.invokevirtual 130, 3) := by decide +kernel
theorem dX6_mask_5 : decode cX6_mask 5 = .ok (.ifCond .ne 5, 3) := by decide +kernel
theorem dX6_mask_8 : decode cX6_mask 8 = .ok (.iconst (-1), 1) := by decide +kernel
theorem dX6_mask_9 : decode cX6_mask 9 = .ok (.ireturn, 1) := by decide +kernel
theorem dX6_mask_10 : decode cX6_mask 10 = .ok (.aload_n 0, 1) := by decide +kernel
theorem dX6_mask_11 : decode cX6_mask 11 = .ok (.getfield 20, 3) := by decide +kernel
theorem dX6_mask_14 : decode cX6_mask 14 = .ok (.getfield 133, 3) := by decide +kernel
theorem dX6_mask_17 : decode cX6_mask 17 = .ok (.iload_n 1, 1) := by decide +kernel
theorem dX6_mask_18 : decode cX6_mask 18 = .ok (.aaload, 1) := by decide +kernel
theorem dX6_mask_19 : decode cX6_mask 19 = .ok (.astore_n 3, 1) := by decide +kernel
theorem dX6_mask_20 : decode cX6_mask 20 = .ok (.iload_n 2, 1) := by decide +kernel
theorem dX6_mask_21 : decode cX6_mask 21 = .ok (.tableswitch 161 0 9 #[55, 60, 65, 70, 87, 104, 121, 138, 147, 156], 55) := by decide +kernel
theorem dX6_mask_76 : decode cX6_mask 76 = .ok (.aload_n 3, 1) := by decide +kernel
theorem dX6_mask_77 : decode cX6_mask 77 = .ok (.getfield 170, 3) := by decide +kernel
theorem dX6_mask_80 : decode cX6_mask 80 = .ok (.ireturn, 1) := by decide +kernel
theorem dX6_mask_81 : decode cX6_mask 81 = .ok (.aload_n 3, 1) := by decide +kernel
theorem dX6_mask_82 : decode cX6_mask 82 = .ok (.getfield 173, 3) := by decide +kernel
theorem dX6_mask_85 : decode cX6_mask 85 = .ok (.ireturn, 1) := by decide +kernel
theorem dX6_mask_86 : decode cX6_mask 86 = .ok (.aload_n 3, 1) := by decide +kernel
theorem dX6_mask_87 : decode cX6_mask 87 = .ok (.getfield 150, 3) := by decide +kernel
theorem dX6_mask_90 : decode cX6_mask 90 = .ok (.ireturn, 1) := by decide +kernel
theorem dX6_mask_91 : decode cX6_mask 91 = .ok (.aload_n 3, 1) := by decide +kernel
theorem dX6_mask_92 : decode cX6_mask 92 = .ok (.getfield 150, 3) := by decide +kernel
theorem dX6_mask_95 : decode cX6_mask 95 = .ok (.ifCond .ne 8, 3) := by decide +kernel
theorem dX6_mask_98 : decode cX6_mask 98 = .ok (.bipush (-2), 2) := by decide +kernel
theorem dX6_mask_100 : decode cX6_mask 100 = .ok (.goto 7, 3) := by decide +kernel
theorem dX6_mask_103 : decode cX6_mask 103 = .ok (.aload_n 3, 1) := by decide +kernel
theorem dX6_mask_104 : decode cX6_mask 104 = .ok (.getfield 189, 3) := by decide +kernel
theorem dX6_mask_107 : decode cX6_mask 107 = .ok (.ireturn, 1) := by decide +kernel
theorem dX6_mask_108 : decode cX6_mask 108 = .ok (.aload_n 3, 1) := by decide +kernel
theorem dX6_mask_109 : decode cX6_mask 109 = .ok (.getfield 150, 3) := by decide +kernel
theorem dX6_mask_112 : decode cX6_mask 112 = .ok (.ifCond .ne 8, 3) := by decide +kernel
theorem dX6_mask_115 : decode cX6_mask 115 = .ok (.bipush (-2), 2) := by decide +kernel
theorem dX6_mask_117 : decode cX6_mask 117 = .ok (.goto 7, 3) := by decide +kernel
theorem dX6_mask_120 : decode cX6_mask 120 = .ok (.aload_n 3, 1) := by decide +kernel
theorem dX6_mask_121 : decode cX6_mask 121 = .ok (.getfield 195, 3) := by decide +kernel
theorem dX6_mask_124 : decode cX6_mask 124 = .ok (.ireturn, 1) := by decide +kernel
theorem dX6_mask_125 : decode cX6_mask 125 = .ok (.aload_n 3, 1) := by decide +kernel
theorem dX6_mask_126 : decode cX6_mask 126 = .ok (.getfield 150, 3) := by decide +kernel
theorem dX6_mask_129 : decode cX6_mask 129 = .ok (.ifCond .ne 8, 3) := by decide +kernel
theorem dX6_mask_132 : decode cX6_mask 132 = .ok (.bipush (-2), 2) := by decide +kernel
theorem dX6_mask_134 : decode cX6_mask 134 = .ok (.goto 7, 3) := by decide +kernel
theorem dX6_mask_137 : decode cX6_mask 137 = .ok (.aload_n 3, 1) := by decide +kernel
theorem dX6_mask_138 : decode cX6_mask 138 = .ok (.getfield 192, 3) := by decide +kernel
theorem dX6_mask_141 : decode cX6_mask 141 = .ok (.ireturn, 1) := by decide +kernel
theorem dX6_mask_142 : decode cX6_mask 142 = .ok (.aload_n 3, 1) := by decide +kernel
theorem dX6_mask_143 : decode cX6_mask 143 = .ok (.getfield 150, 3) := by decide +kernel
theorem dX6_mask_146 : decode cX6_mask 146 = .ok (.ifCond .ne 8, 3) := by decide +kernel
theorem dX6_mask_149 : decode cX6_mask 149 = .ok (.bipush (-2), 2) := by decide +kernel
theorem dX6_mask_151 : decode cX6_mask 151 = .ok (.goto 7, 3) := by decide +kernel
theorem dX6_mask_154 : decode cX6_mask 154 = .ok (.aload_n 3, 1) := by decide +kernel
theorem dX6_mask_155 : decode cX6_mask 155 = .ok (.getfield 198, 3) := by decide +kernel
theorem dX6_mask_158 : decode cX6_mask 158 = .ok (.ireturn, 1) := by decide +kernel
theorem dX6_mask_159 : decode cX6_mask 159 = .ok (.aload_n 0, 1) := by decide +kernel
theorem dX6_mask_160 : decode cX6_mask 160 = .ok (.getfield 55, 3) := by decide +kernel
theorem dX6_mask_163 : decode cX6_mask 163 = .ok (.aload_n 3, 1) := by decide +kernel
theorem dX6_mask_164 : decode cX6_mask 164 = .ok (.invokevirtual 240, 3) := by decide +kernel
theorem dX6_mask_167 : decode cX6_mask 167 = .ok (.ireturn, 1) := by decide +kernel
theorem dX6_mask_168 : decode cX6_mask 168 = .ok (.aload_n 0, 1) := by decide +kernel
theorem dX6_mask_169 : decode cX6_mask 169 = .ok (.getfield 55, 3) := by decide +kernel
theorem dX6_mask_172 : decode cX6_mask 172 = .ok (.aload_n 3, 1) := by decide +kernel
theorem dX6_mask_173 : decode cX6_mask 173 = .ok (.invokevirtual 244, 3) := by decide +kernel
theorem dX6_mask_176 : decode cX6_mask 176 = .ok (.ireturn, 1) := by decide +kernel
theorem dX6_mask_177 : decode cX6_mask 177 = .ok (.aload_n 3, 1) := by decide +kernel
theorem dX6_mask_178 : decode cX6_mask 178 = .ok (.invokevirtual 247, 3) := by decide +kernel
theorem dX6_mask_181 : decode cX6_mask 181 = .ok (.ireturn, 1) := by decide +kernel
theorem dX6_mask_182 : decode cX6_mask 182 = .ok (.iconst (-1), 1) := by decide +kernel
theorem dX6_mask_183 : decode cX6_mask 183 = .ok (.ireturn, 1) := by decide +kernel
theorem dX6_replaceBy_0 : decode cX6_replaceBy 0 = .ok (.aload_n 0, 1) := by decide +kernel
theorem dX6_replaceBy_1 : decode cX6_replaceBy 1 = .ok (.getfield 20, 3) := by decide +kernel
theorem dX6_replaceBy_4 : decode cX6_replaceBy 4 = .ok (.aload_n 1, 1) := by decide +kernel
theorem dX6_replaceBy_5 : decode cX6_replaceBy 5 = .ok (.invokevirtual 238, 3) := by decide +kernel
theorem dX6_replaceBy_8 : decode cX6_replaceBy 8 = .ok (.aload_n 0, 1) := by decide +kernel
theorem dX6_replaceBy_9 : decode cX6_replaceBy 9 = .ok (.getfield 41, 3) := by decide +kernel
theorem dX6_replaceBy_12 : decode cX6_replaceBy 12 = .ok (.invokevirtual 115, 3) := by decide +kernel
theorem dX6_replaceBy_15 : decode cX6_replaceBy 15 = .ok (.aload_n 0, 1) := by decide +kernel
theorem dX6_replaceBy_16 : decode cX6_replaceBy 16 = .ok (.iconst 0, 1) := by decide +kernel
theorem dX6_replaceBy_17 : decode cX6_replaceBy 17 = .ok (.putfield 66, 3) := by decide +kernel
theorem dX6_replaceBy_20 : decode cX6_replaceBy 20 = .ok (.return_, 1) := by decide +kernel
theorem dX6_row_0 : decode cX6_row 0 = .ok (.aload_n 0, 1) := by decide +kernel
theorem dX6_row_1 : decode cX6_row 1 = .ok (.iload_n 1, 1) := by decide +kernel
theorem dX6_row_2 : decode cX6_row 2 = .ok (.invokevirtual 130, 3) := by decide +kernel
theorem dX6_row_5 : decode cX6_row 5 = .ok (.ifCond .eq 31, 3) := by decide +kernel
theorem dX6_row_8 : decode cX6_row 8 = .ok (.iload_n 2, 1) := by decide +kernel
theorem dX6_row_9 : decode cX6_row 9 = .ok (.ifCond .lt 27, 3) := by decide +kernel
theorem dX6_row_12 : decode cX6_row 12 = .ok (.iload_n 2, 1) := by decide +kernel
theorem dX6_row_13 : decode cX6_row 13 = .ok (.aload_n 0, 1) := by decide +kernel
theorem dX6_row_14 : decode cX6_row 14 = .ok (.getfield 20, 3) := by decide +kernel
theorem dX6_row_17 : decode cX6_row 17 = .ok (.getfield 133, 3) := by decide +kernel
theorem dX6_row_20 : decode cX6_row 20 = .ok (.iload_n 1, 1) := by decide +kernel
theorem dX6_row_21 : decode cX6_row 21 = .ok (.aaload, 1) := by decide +kernel
theorem dX6_row_22 : decode cX6_row 22 = .ok (.getfield 173, 3) := by decide +kernel
theorem dX6_row_25 : decode cX6_row 25 = .ok (.if_icmp .ge 11, 3) := by decide +kernel
theorem dX6_row_28 : decode cX6_row 28 = .ok (.iload_n 3, 1) := by decide +kernel
theorem dX6_row_29 : decode cX6_row 29 = .ok (.iconst 1, 1) := by decide +kernel
theorem dX6_row_30 : decode cX6_row 30 = .ok (.invokestatic 109, 3) := by decide +kernel
theorem dX6_row_33 : decode cX6_row 33 = .ok (.ifCond .ne 5, 3) := by decide +kernel
theorem dX6_row_36 : decode cX6_row 36 = .ok (.lconst 0, 1) := by decide +kernel
theorem dX6_row_37 : decode cX6_row 37 = .ok (.lreturn, 1) := by decide +kernel
theorem dX6_row_38 : decode cX6_row 38 = .ok (.aload_n 0, 1) := by decide +kernel
theorem dX6_row_39 : decode cX6_row 39 = .ok (.getfield 20, 3) := by decide +kernel
theorem dX6_row_42 : decode cX6_row 42 = .ok (.getfield 133, 3) := by decide +kernel
theorem dX6_row_45 : decode cX6_row 45 = .ok (.iload_n 1, 1) := by decide +kernel
theorem dX6_row_46 : decode cX6_row 46 = .ok (.aaload, 1) := by decide +kernel
theorem dX6_row_47 : decode cX6_row 47 = .ok (.getfield 251, 3) := by decide +kernel
theorem dX6_row_50 : decode cX6_row 50 = .ok (.iconst 2, 1) := by decide +kernel
theorem dX6_row_51 : decode cX6_row 51 = .ok (.iload_n 2, 1) := by decide +kernel
theorem dX6_row_52 : decode cX6_row 52 = .ok (.imul, 1) := by decide +kernel
theorem dX6_row_53 : decode cX6_row 53 = .ok (.iload_n 3, 1) := by decide +kernel
theorem dX6_row_54 : decode cX6_row 54 = .ok (.iadd, 1) := by decide +kernel
theorem dX6_row_55 : decode cX6_row 55 = .ok (.laload, 1) := by decide +kernel
theorem dX6_row_56 : decode cX6_row 56 = .ok (.lreturn, 1) := by decide +kernel
theorem dX6_undo_0 : decode cX6_undo 0 = .ok (.aload_n 0, 1) := by decide +kernel
theorem dX6_undo_1 : decode cX6_undo 1 = .ok (.getfield 66, 3) := by decide +kernel
theorem dX6_undo_4 : decode cX6_undo 4 = .ok (.ifCond .ne 5, 3) := by decide +kernel
theorem dX6_undo_7 : decode cX6_undo 7 = .ok (.iconst (-1), 1) := by decide +kernel
theorem dX6_undo_8 : decode cX6_undo 8 = .ok (.ireturn, 1) := by decide +kernel
theorem dX6_undo_9 : decode cX6_undo 9 = .ok (.aload_n 0, 1) := by decide +kernel
theorem dX6_undo_10 : decode cX6_undo 10 = .ok (.dup, 1) := by decide +kernel
theorem dX6_undo_11 : decode cX6_undo 11 = .ok (.getfield 66, 3) := by decide +kernel
theorem dX6_undo_14 : decode cX6_undo 14 = .ok (.iconst 1, 1) := by decide +kernel
theorem dX6_undo_15 : decode cX6_undo 15 = .ok (.isub, 1) := by decide +kernel
theorem dX6_undo_16 : decode cX6_undo 16 = .ok (.putfield 66, 3) := by decide +kernel
theorem dX6_undo_19 : decode cX6_undo 19 = .ok (.aload_n 0, 1) := by decide +kernel
theorem dX6_undo_20 : decode cX6_undo 20 = .ok (.getfield 59, 3) := by decide +kernel
theorem dX6_undo_23 : decode cX6_undo 23 = .ok (.aload_n 0, 1) := by decide +kernel
theorem dX6_undo_24 : decode cX6_undo 24 = .ok (.getfield 63, 3) := by decide +kernel
theorem dX6_undo_27 : decode cX6_undo 27 = .ok (.aload_n 0, 1) := by decide +kernel
theorem dX6_undo_28 : decode cX6_undo 28 = .ok (.getfield 66, 3) := by decide +kernel
theorem dX6_undo_31 : decode cX6_undo 31 = .ok (.iadd, 1) := by decide +kernel
theorem dX6_undo_32 : decode cX6_undo 32 = .ok (.bipush 10, 2) := by decide +kernel
theorem dX6_undo_34 : decode cX6_undo 34 = .ok (.irem, 1) := by decide +kernel
theorem dX6_undo_35 : decode cX6_undo 35 = .ok (.aaload, 1) := by decide +kernel
theorem dX6_undo_36 : decode cX6_undo 36 = .ok (.astore_n 1, 1) := by decide +kernel
theorem dX6_undo_37 : decode cX6_undo 37 = .ok (.aload_n 1, 1) := by decide +kernel
theorem dX6_undo_38 : decode cX6_undo 38 = .ok (.ifnull 11, 3) := by decide +kernel
theorem dX6_undo_41 : decode cX6_undo 41 = .ok (.aload_n 0, 1) := by decide +kernel
theorem dX6_undo_42 : decode cX6_undo 42 = .ok (.getfield 20, 3) := by decide +kernel
theorem dX6_undo_45 : decode cX6_undo 45 = .ok (.aload_n 1, 1) := by decide +kernel
theorem dX6_undo_46 : decode cX6_undo 46 = .ok (.invokevirtual 238, 3) := by decide +kernel
theorem dX6_undo_49 : decode cX6_undo 49 = .ok (.aload_n 0, 1) := by decide +kernel
theorem dX6_undo_50 : decode cX6_undo 50 = .ok (.getfield 41, 3) := by decide +kernel
theorem dX6_undo_53 : decode cX6_undo 53 = .ok (.invokevirtual 115, 3) := by decide +kernel
theorem dX6_undo_56 : decode cX6_undo 56 = .ok (.aload_n 0, 1) := by decide +kernel
theorem dX6_undo_57 : decode cX6_undo 57 = .ok (.getfield 66, 3) := by decide +kernel
theorem dX6_undo_60 : decode cX6_undo 60 = .ok (.ireturn, 1) := by decide +kernel
set_option maxRecDepth 100000 in
theorem pq1 : Cond.selects RX6 yX6_replaceBy yX6_replaceBy ∈ pw := pw_mem (i := 1) (by decide +kernel) rfl
set_option maxRecDepth 100000 in
theorem pq2 : Cond.selects RX6 yX6_isBody yX6_isBody ∈ pw := pw_mem (i := 2) (by decide +kernel) rfl
set_option maxRecDepth 100000 in
theorem pq4 : Cond.selects RX6 yX6_isMask yX6_isMask ∈ pw := pw_mem (i := 4) (by decide +kernel) rfl
set_option maxRecDepth 100000 in
theorem pq75 : Cond.initialized RX1 ∈ pw := pw_mem (i := 75) (by decide +kernel) rfl
set_option maxRecDepth 100000 in
theorem pq119 : Cond.fieldLink RX6 170 "MaskTouch$Mask" "wide" "I" ∈ pw := pw_mem (i := 119) (by decide +kernel) rfl
set_option maxRecDepth 100000 in
theorem pq123 : Cond.fieldLink RX6 173 "MaskTouch$Mask" "high" "I" ∈ pw := pw_mem (i := 123) (by decide +kernel) rfl
set_option maxRecDepth 100000 in
theorem pq128 : Cond.fieldLink RX6 251 "MaskTouch$Mask" "words" "[J" ∈ pw := pw_mem (i := 128) (by decide +kernel) rfl
set_option maxRecDepth 100000 in
theorem pq132 : Cond.fieldLink RX6 150 "MaskTouch$Mask" "total" "I" ∈ pw := pw_mem (i := 132) (by decide +kernel) rfl
set_option maxRecDepth 100000 in
theorem pq135 : Cond.fieldLink RX6 189 "MaskTouch$Mask" "left" "I" ∈ pw := pw_mem (i := 135) (by decide +kernel) rfl
set_option maxRecDepth 100000 in
theorem pq138 : Cond.fieldLink RX6 195 "MaskTouch$Mask" "top" "I" ∈ pw := pw_mem (i := 138) (by decide +kernel) rfl
set_option maxRecDepth 100000 in
theorem pq141 : Cond.fieldLink RX6 192 "MaskTouch$Mask" "right" "I" ∈ pw := pw_mem (i := 141) (by decide +kernel) rfl
set_option maxRecDepth 100000 in
theorem pq144 : Cond.fieldLink RX6 198 "MaskTouch$Mask" "bottom" "I" ∈ pw := pw_mem (i := 144) (by decide +kernel) rfl
set_option maxRecDepth 100000 in
theorem pq216 : Cond.fieldLink RX6 133 "MaskTouch$Field" "masks" "[LMaskTouch$Mask;" ∈ pw := pw_mem (i := 216) (by decide +kernel) rfl
set_option maxRecDepth 100000 in
theorem pq223 : Cond.fieldLink RX6 367 "MaskTouch$Field" "maskCount" "I" ∈ pw := pw_mem (i := 223) (by decide +kernel) rfl
set_option maxRecDepth 100000 in
theorem pq226 : Cond.fieldLink RX6 83 "MaskTouch$Field" "bodyCount" "I" ∈ pw := pw_mem (i := 226) (by decide +kernel) rfl
set_option maxRecDepth 100000 in
theorem pq321 : Cond.fieldLink RX6 259 "MaskTouch$Flood" "size" "I" ∈ pw := pw_mem (i := 321) (by decide +kernel) rfl
set_option maxRecDepth 100000 in
theorem pq323 : Cond.fieldLink RX6 262 "MaskTouch$Flood" "left" "I" ∈ pw := pw_mem (i := 323) (by decide +kernel) rfl
set_option maxRecDepth 100000 in
theorem pq325 : Cond.fieldLink RX6 263 "MaskTouch$Flood" "top" "I" ∈ pw := pw_mem (i := 325) (by decide +kernel) rfl
set_option maxRecDepth 100000 in
theorem pq327 : Cond.fieldLink RX6 264 "MaskTouch$Flood" "right" "I" ∈ pw := pw_mem (i := 327) (by decide +kernel) rfl
set_option maxRecDepth 100000 in
theorem pq329 : Cond.fieldLink RX6 265 "MaskTouch$Flood" "bottom" "I" ∈ pw := pw_mem (i := 329) (by decide +kernel) rfl
set_option maxRecDepth 100000 in
theorem pq351 : Cond.fieldLink RX6 20 "MaskTouch" "now" "LMaskTouch$Field;" ∈ pw := pw_mem (i := 351) (by decide +kernel) rfl
set_option maxRecDepth 100000 in
theorem pq354 : Cond.fieldLink RX6 41 "MaskTouch" "scene" "LMaskTouch$Scene;" ∈ pw := pw_mem (i := 354) (by decide +kernel) rfl
set_option maxRecDepth 100000 in
theorem pq356 : Cond.fieldLink RX6 55 "MaskTouch" "flood" "LMaskTouch$Flood;" ∈ pw := pw_mem (i := 356) (by decide +kernel) rfl
set_option maxRecDepth 100000 in
theorem pq357 : Cond.fieldLink RX6 59 "MaskTouch" "past" "[LMaskTouch$Field;" ∈ pw := pw_mem (i := 357) (by decide +kernel) rfl
set_option maxRecDepth 100000 in
theorem pq358 : Cond.fieldLink RX6 63 "MaskTouch" "oldest" "I" ∈ pw := pw_mem (i := 358) (by decide +kernel) rfl
set_option maxRecDepth 100000 in
theorem pq359 : Cond.fieldLink RX6 66 "MaskTouch" "undoable" "I" ∈ pw := pw_mem (i := 359) (by decide +kernel) rfl
set_option maxRecDepth 100000 in
theorem pq360 : Cond.fieldLink RX6 69 "MaskTouch" "shelves" "[LMaskTouch$Field;" ∈ pw := pw_mem (i := 360) (by decide +kernel) rfl
set_option maxRecDepth 100000 in
theorem pq585 : Cond.methodLink RX6 80 yX6_replaceBy ∈ pw := pw_mem (i := 585) (by decide +kernel) rfl
set_option maxRecDepth 100000 in
theorem pq587 : Cond.instanceMethod yX6_replaceBy ∈ pw := pw_mem (i := 587) (by decide +kernel) rfl
set_option maxRecDepth 100000 in
theorem pq588 : Cond.code yX6_replaceBy cX6_replaceBy 2 none ∈ pw := pw_mem (i := 588) (by rfl) rfl
set_option maxRecDepth 100000 in
theorem pq589 : Cond.methodLink RX6 238 yX1_become ∈ pw := pw_mem (i := 589) (by decide +kernel) rfl
set_option maxRecDepth 100000 in
theorem pq590 : Cond.instanceMethod yX1_become ∈ pw := pw_mem (i := 590) (by decide +kernel) rfl
set_option maxRecDepth 100000 in
theorem pq591 : Cond.selects RX1 yX1_become yX1_become ∈ pw := pw_mem (i := 591) (by decide +kernel) rfl
set_option maxRecDepth 100000 in
theorem pq592 : Cond.code yX1_become cX1_become 3 none ∈ pw := pw_mem (i := 592) (by rfl) rfl
set_option maxRecDepth 100000 in
theorem pq604 : Cond.methodLink RX6 115 yX5_redraw ∈ pw := pw_mem (i := 604) (by decide +kernel) rfl
set_option maxRecDepth 100000 in
theorem pq605 : Cond.instanceMethod yX5_redraw ∈ pw := pw_mem (i := 605) (by decide +kernel) rfl
set_option maxRecDepth 100000 in
theorem pq606 : Cond.selects RX5 yX5_redraw yX5_redraw ∈ pw := pw_mem (i := 606) (by decide +kernel) rfl
set_option maxRecDepth 100000 in
theorem pq607 : Cond.code yX5_redraw cX5_redraw 3 none ∈ pw := pw_mem (i := 607) (by rfl) rfl
set_option maxRecDepth 100000 in
theorem pq636 : Cond.methodLink RX6 86 yX6_isBody ∈ pw := pw_mem (i := 636) (by decide +kernel) rfl
set_option maxRecDepth 100000 in
theorem pq638 : Cond.instanceMethod yX6_isBody ∈ pw := pw_mem (i := 638) (by decide +kernel) rfl
set_option maxRecDepth 100000 in
theorem pq639 : Cond.code yX6_isBody cX6_isBody 2 (some .boolean) ∈ pw := pw_mem (i := 639) (by rfl) rfl
set_option maxRecDepth 100000 in
theorem pq651 : Cond.methodLink RX6 109 yX6_isFrom0To ∈ pw := pw_mem (i := 651) (by decide +kernel) rfl
set_option maxRecDepth 100000 in
theorem pq652 : Cond.static yX6_isFrom0To ∈ pw := pw_mem (i := 652) (by decide +kernel) rfl
set_option maxRecDepth 100000 in
theorem pq653 : Cond.code yX6_isFrom0To cX6_isFrom0To 2 (some .boolean) ∈ pw := pw_mem (i := 653) (by rfl) rfl
set_option maxRecDepth 100000 in
theorem pq666 : Cond.methodLink RX6 130 yX6_isMask ∈ pw := pw_mem (i := 666) (by decide +kernel) rfl
set_option maxRecDepth 100000 in
theorem pq668 : Cond.instanceMethod yX6_isMask ∈ pw := pw_mem (i := 668) (by decide +kernel) rfl
set_option maxRecDepth 100000 in
theorem pq669 : Cond.code yX6_isMask cX6_isMask 2 (some .boolean) ∈ pw := pw_mem (i := 669) (by rfl) rfl
set_option maxRecDepth 100000 in
theorem pq673 : Cond.methodLink RX6 147 yX3_holds ∈ pw := pw_mem (i := 673) (by decide +kernel) rfl
set_option maxRecDepth 100000 in
theorem pq849 : Cond.methodLink RX6 240 yX2_countIslands ∈ pw := pw_mem (i := 849) (by decide +kernel) rfl
set_option maxRecDepth 100000 in
theorem pq850 : Cond.instanceMethod yX2_countIslands ∈ pw := pw_mem (i := 850) (by decide +kernel) rfl
set_option maxRecDepth 100000 in
theorem pq851 : Cond.selects RX2 yX2_countIslands yX2_countIslands ∈ pw := pw_mem (i := 851) (by decide +kernel) rfl
set_option maxRecDepth 100000 in
theorem pq852 : Cond.code yX2_countIslands cX2_countIslands 5 (some .int) ∈ pw := pw_mem (i := 852) (by rfl) rfl
set_option maxRecDepth 100000 in
theorem pq867 : Cond.methodLink RX6 244 yX2_countHoles ∈ pw := pw_mem (i := 867) (by decide +kernel) rfl
set_option maxRecDepth 100000 in
theorem pq868 : Cond.instanceMethod yX2_countHoles ∈ pw := pw_mem (i := 868) (by decide +kernel) rfl
set_option maxRecDepth 100000 in
theorem pq869 : Cond.selects RX2 yX2_countHoles yX2_countHoles ∈ pw := pw_mem (i := 869) (by decide +kernel) rfl
set_option maxRecDepth 100000 in
theorem pq870 : Cond.code yX2_countHoles cX2_countHoles 5 (some .int) ∈ pw := pw_mem (i := 870) (by rfl) rfl
set_option maxRecDepth 100000 in
theorem pq874 : Cond.methodLink RX6 247 yX3_openSides ∈ pw := pw_mem (i := 874) (by decide +kernel) rfl
set_option maxRecDepth 100000 in
theorem pq875 : Cond.instanceMethod yX3_openSides ∈ pw := pw_mem (i := 875) (by decide +kernel) rfl
set_option maxRecDepth 100000 in
theorem pq876 : Cond.selects RX3 yX3_openSides yX3_openSides ∈ pw := pw_mem (i := 876) (by decide +kernel) rfl
set_option maxRecDepth 100000 in
theorem pq877 : Cond.code yX3_openSides cX3_openSides 7 (some .int) ∈ pw := pw_mem (i := 877) (by rfl) rfl
set_option maxRecDepth 100000 in
theorem pq890 : Cond.methodLink RX6 255 yX2_findIsland ∈ pw := pw_mem (i := 890) (by decide +kernel) rfl
set_option maxRecDepth 100000 in
theorem pq891 : Cond.instanceMethod yX2_findIsland ∈ pw := pw_mem (i := 891) (by decide +kernel) rfl
set_option maxRecDepth 100000 in
theorem pq892 : Cond.selects RX2 yX2_findIsland yX2_findIsland ∈ pw := pw_mem (i := 892) (by decide +kernel) rfl
set_option maxRecDepth 100000 in
theorem pq893 : Cond.code yX2_findIsland cX2_findIsland 6 (some .boolean) ∈ pw := pw_mem (i := 893) (by rfl) rfl
set_option maxHeartbeats 4000000 in
set_option maxRecDepth 100000 in
theorem s_X6_isMask (l : Launch) (dC : Nat → ClassId) (dI : Nat → Nat → Nat) (cs : Nat → ClassId) (L : List Nat) (K G : Nat → Nat) (Q : Nat → Nat → Option Nat) (hQ : Sv L K G Q) (x0 m0 : Nat) (tx : GT) (tm : GT × Int) (sz : Nat) (I : Nat → Nat → Int32) (J : Nat → Nat → Int64) (hI : Iv L K x0 m0 tx tm I) (p0 : Nat) (hLp0 : p0 ∈ L) (hKp0 : K p0 = 6) (p1 : Int32) : Met l yX6_isMask (.code yX6_isMask cX6_isMask 2 (some .boolean) :: pw) ({ frames := 0, cells := 0, slots := 0, locals := 0 }) (sP (dC, dI) cs [.ref p0, .int p1] sz L K I J Q) (va_Qi (fun (r : Int32) (_ : Unit) => ((0) ≤ r.toInt ∧ r.toInt ≤ 1) ∧ (¬ r.toInt = 0 → ((0) ≤ p1.toInt ∧ p1.toInt ≤ (7))) ∧ ((¬ r.toInt = 0 → (0 ≤ p1.toInt ∧ p1.toInt < (I (an Q p0) 2).toInt)) ∧ (r.toInt = 0 → ¬ (0 ≤ p1.toInt ∧ p1.toInt < (I (an Q p0) 2).toInt)))) (fun _ _ => True) (fun _ => False)) 0 0 (fun _ => False) := by
  refine Met.ofW (cc := cX6_isMask) (maxL := 2) (ret := (some .boolean)) (by decide +kernel) rfl ?_
  intro p e s m args below meth c s₁ B hml hv
  obtain ⟨rfl, hsz, hP, hK, hD0, hN⟩ := hv
  have hx := B.exec
  have hb := B.bytes
  have hr := B.returns
  have hts := fun w (h : w ∈ pw) => atoms_spec (ws := Cond.code yX6_isMask cX6_isMask 2 (some .boolean) :: pw) B.pre w (List.mem_cons_of_mem _ h)
  have hown : s.vm.findClass RX6 = some m.cls := findClass_of_methodNamed B.named
  have hlocks := B.notSynchronized
  subst hsz
  have hBB : 999 ≤ tm.2 ∧ tm.2 ≤ 6000000 := hI.2.2.2.2.1
  have hD := hD0
  obtain ⟨H, hHe⟩ : ∃ H : Heap, H = s.heap := ⟨_, rfl⟩
  have hS : va_S (fun _ => False) s.heap H [] := by rw [hHe]; exact va_S.rf
  rw [← hHe] at hP
  have hl := lv_entry ([.ref p0, .int p1]) (n := 2) (Nat.le_of_ble_eq_true rfl)
  rw [lg_entry_eq]
  generalize (lg_sl ([.ref p0, .int p1]) ++ List.replicate (2 - (lg_sl ([.ref p0, .int p1])).length) Slot.unset).toArray = ls at hl ⊢
  have hl : lv_has ls 2 [(0, .ref p0), (1, .int p1)] := hl
  rw [← hHe]
  refine namedW (fun R Qz hR hQz => ?_)
  refine lv_iload_n hx hb dX6_isMask_0 rfl (lv_at hl 1 rfl) ?_
  refine lv_if_lt (tgt := 19) hx hb dX6_isMask_1 (by decide) (fun c1 => ?_) (fun c1 => ?_)
  · have t1 := tq_lt (k := p1.toInt) (q := (0)) c1 rfl (by decide +kernel)
    refine lv_iconst (v := 0) hx hb dX6_isMask_19 (by decide +kernel) ?_
    subst hR; subst hQz
    exact W.zret (v := 0) hx hb hr (by decide +kernel) (fun t ht hW => ⟨⟨0, (), rfl, ⟨⟨by decide +kernel, by decide +kernel⟩, fun h => absurd (by decide +kernel) h, ⟨fun h => absurd (by decide +kernel) h, fun _ q => by first | omega | (rw [show an Q p0 = y6 from gd_of ey6, ← ez9] at q; omega)⟩⟩, trivial⟩, hS.F ht⟩) hS.2.2 dX6_isMask_20
  · have t1 := tq_nlt (k := p1.toInt) (q := (0)) c1 rfl (by decide +kernel)
    refine lv_iload_n hx hb dX6_isMask_4 rfl (lv_at hl 1 rfl) ?_
    refine lv_aload_n hx hb dX6_isMask_5 rfl (lv_at hl 0 rfl) ?_
    obtain ⟨y6, ey6, hLy6, hKy6, hGy6⟩ := oQ_6_2 (Sv_at hQ hLp0 hKp0)
    refine p_get (v := .ref y6) hx hb hts inX6 hown hK hP hLp0 hKp0 rfl rfl 2 (by decide) (hts _ pq351) (congrArg (fun q => some (va_rf q)) ey6) dX6_isMask_6 ?_
    refine p_get hx hb hts inX1 hown hK hP hLy6 hKy6 rfl rfl 2 (by decide) (hts _ pq223) rfl dX6_isMask_9 ?_
    refine lv_topi (fun z9 ez9 => ?_)
    have bz9 := oI_1_2 (Iv_at hI hLy6 hKy6)
    rw [← ez9] at bz9
    refine lv_icmp_ge (tgt := 19) hx hb dX6_isMask_12 (by decide) (fun c12 => ?_) (fun c12 => ?_)
    · have t12 := tq_le (k := z9.toInt) (q := p1.toInt) c12 rfl rfl
      refine lv_iconst (v := 0) hx hb dX6_isMask_19 (by decide +kernel) ?_
      subst hR; subst hQz
      exact W.zret (v := 0) hx hb hr (by decide +kernel) (fun t ht hW => ⟨⟨0, (), rfl, ⟨⟨by decide +kernel, by decide +kernel⟩, fun h => absurd (by decide +kernel) h, ⟨fun h => absurd (by decide +kernel) h, fun _ q => by first | omega | (rw [show an Q p0 = y6 from gd_of ey6, ← ez9] at q; omega)⟩⟩, trivial⟩, hS.F ht⟩) hS.2.2 dX6_isMask_20
    · have t12 := tq_nle (k := z9.toInt) (q := p1.toInt) c12 rfl rfl
      refine lv_iconst (v := 1) hx hb dX6_isMask_15 (by decide +kernel) ?_
      refine lv_goto (tgt := 20) hx hb dX6_isMask_16 (by decide) ?_
      subst hR; subst hQz
      exact W.zret (v := 1) hx hb hr (by decide +kernel) (fun t ht hW => ⟨⟨1, (), rfl, ⟨⟨by decide +kernel, by decide +kernel⟩, fun _ => ⟨by omega, by omega⟩, ⟨fun _ => by rw [show an Q p0 = y6 from gd_of ey6, ← ez9]; exact ⟨by omega, by omega⟩, fun h => absurd h (by decide +kernel)⟩⟩, trivial⟩, hS.F ht⟩) hS.2.2 dX6_isMask_20

set_option maxHeartbeats 4000000 in
set_option maxRecDepth 100000 in
theorem s_X6_isBody (l : Launch) (dC : Nat → ClassId) (dI : Nat → Nat → Nat) (cs : Nat → ClassId) (L : List Nat) (K G : Nat → Nat) (Q : Nat → Nat → Option Nat) (hQ : Sv L K G Q) (x0 m0 : Nat) (tx : GT) (tm : GT × Int) (sz : Nat) (I : Nat → Nat → Int32) (J : Nat → Nat → Int64) (hI : Iv L K x0 m0 tx tm I) (p0 : Nat) (hLp0 : p0 ∈ L) (hKp0 : K p0 = 6) (p1 : Int32) : Met l yX6_isBody (.code yX6_isBody cX6_isBody 2 (some .boolean) :: pw) ({ frames := 0, cells := 0, slots := 0, locals := 0 }) (sP (dC, dI) cs [.ref p0, .int p1] sz L K I J Q) (va_Qi (fun (r : Int32) (_ : Unit) => ((0) ≤ r.toInt ∧ r.toInt ≤ 1) ∧ (¬ r.toInt = 0 → ((0) ≤ p1.toInt ∧ p1.toInt ≤ (9))) ∧ ((¬ r.toInt = 0 → (0 ≤ p1.toInt ∧ p1.toInt < (I (an Q p0) 3).toInt)) ∧ (r.toInt = 0 → ¬ (0 ≤ p1.toInt ∧ p1.toInt < (I (an Q p0) 3).toInt)))) (fun _ _ => True) (fun _ => False)) 0 0 (fun _ => False) := by
  refine Met.ofW (cc := cX6_isBody) (maxL := 2) (ret := (some .boolean)) (by decide +kernel) rfl ?_
  intro p e s m args below meth c s₁ B hml hv
  obtain ⟨rfl, hsz, hP, hK, hD0, hN⟩ := hv
  have hx := B.exec
  have hb := B.bytes
  have hr := B.returns
  have hts := fun w (h : w ∈ pw) => atoms_spec (ws := Cond.code yX6_isBody cX6_isBody 2 (some .boolean) :: pw) B.pre w (List.mem_cons_of_mem _ h)
  have hown : s.vm.findClass RX6 = some m.cls := findClass_of_methodNamed B.named
  have hlocks := B.notSynchronized
  subst hsz
  have hBB : 999 ≤ tm.2 ∧ tm.2 ≤ 6000000 := hI.2.2.2.2.1
  have hD := hD0
  obtain ⟨H, hHe⟩ : ∃ H : Heap, H = s.heap := ⟨_, rfl⟩
  have hS : va_S (fun _ => False) s.heap H [] := by rw [hHe]; exact va_S.rf
  rw [← hHe] at hP
  have hl := lv_entry ([.ref p0, .int p1]) (n := 2) (Nat.le_of_ble_eq_true rfl)
  rw [lg_entry_eq]
  generalize (lg_sl ([.ref p0, .int p1]) ++ List.replicate (2 - (lg_sl ([.ref p0, .int p1])).length) Slot.unset).toArray = ls at hl ⊢
  have hl : lv_has ls 2 [(0, .ref p0), (1, .int p1)] := hl
  rw [← hHe]
  refine namedW (fun R Qz hR hQz => ?_)
  refine lv_iload_n hx hb dX6_isBody_0 rfl (lv_at hl 1 rfl) ?_
  refine lv_if_lt (tgt := 19) hx hb dX6_isBody_1 (by decide) (fun c1 => ?_) (fun c1 => ?_)
  · have t1 := tq_lt (k := p1.toInt) (q := (0)) c1 rfl (by decide +kernel)
    refine lv_iconst (v := 0) hx hb dX6_isBody_19 (by decide +kernel) ?_
    subst hR; subst hQz
    exact W.zret (v := 0) hx hb hr (by decide +kernel) (fun t ht hW => ⟨⟨0, (), rfl, ⟨⟨by decide +kernel, by decide +kernel⟩, fun h => absurd (by decide +kernel) h, ⟨fun h => absurd (by decide +kernel) h, fun _ q => by first | omega | (rw [show an Q p0 = y6 from gd_of ey6, ← ez9] at q; omega)⟩⟩, trivial⟩, hS.F ht⟩) hS.2.2 dX6_isBody_20
  · have t1 := tq_nlt (k := p1.toInt) (q := (0)) c1 rfl (by decide +kernel)
    refine lv_iload_n hx hb dX6_isBody_4 rfl (lv_at hl 1 rfl) ?_
    refine lv_aload_n hx hb dX6_isBody_5 rfl (lv_at hl 0 rfl) ?_
    obtain ⟨y6, ey6, hLy6, hKy6, hGy6⟩ := oQ_6_2 (Sv_at hQ hLp0 hKp0)
    refine p_get (v := .ref y6) hx hb hts inX6 hown hK hP hLp0 hKp0 rfl rfl 2 (by decide) (hts _ pq351) (congrArg (fun q => some (va_rf q)) ey6) dX6_isBody_6 ?_
    refine p_get hx hb hts inX1 hown hK hP hLy6 hKy6 rfl rfl 3 (by decide) (hts _ pq226) rfl dX6_isBody_9 ?_
    refine lv_topi (fun z9 ez9 => ?_)
    have cgz9 := congrArg Int32.toInt ez9
    have bz9 := oI_1_3 (Iv_at hI hLy6 hKy6)
    rw [← ez9] at bz9
    refine lv_icmp_ge (tgt := 19) hx hb dX6_isBody_12 (by decide) (fun c12 => ?_) (fun c12 => ?_)
    · have t12 := tq_le (k := z9.toInt) (q := p1.toInt) c12 rfl rfl
      refine lv_iconst (v := 0) hx hb dX6_isBody_19 (by decide +kernel) ?_
      subst hR; subst hQz
      exact W.zret (v := 0) hx hb hr (by decide +kernel) (fun t ht hW => ⟨⟨0, (), rfl, ⟨⟨by decide +kernel, by decide +kernel⟩, fun h => absurd (by decide +kernel) h, ⟨fun h => absurd (by decide +kernel) h, fun _ q => by first | omega | (rw [show an Q p0 = y6 from gd_of ey6, ← ez9] at q; omega)⟩⟩, trivial⟩, hS.F ht⟩) hS.2.2 dX6_isBody_20
    · have t12 := tq_nle (k := z9.toInt) (q := p1.toInt) c12 rfl rfl
      refine lv_iconst (v := 1) hx hb dX6_isBody_15 (by decide +kernel) ?_
      refine lv_goto (tgt := 20) hx hb dX6_isBody_16 (by decide) ?_
      subst hR; subst hQz
      exact W.zret (v := 1) hx hb hr (by decide +kernel) (fun t ht hW => ⟨⟨1, (), rfl, ⟨⟨by decide +kernel, by decide +kernel⟩, fun _ => ⟨by omega, by omega⟩, ⟨fun _ => by rw [show an Q p0 = y6 from gd_of ey6, ← ez9]; exact ⟨by omega, by omega⟩, fun h => absurd h (by decide +kernel)⟩⟩, trivial⟩, hS.F ht⟩) hS.2.2 dX6_isBody_20

set_option maxHeartbeats 4000000 in
set_option maxRecDepth 100000 in
theorem s_X6_areTwoBodies (l : Launch) (dC : Nat → ClassId) (dI : Nat → Nat → Nat) (cs : Nat → ClassId) (L : List Nat) (K G : Nat → Nat) (Q : Nat → Nat → Option Nat) (hQ : Sv L K G Q) (x0 m0 : Nat) (tx : GT) (tm : GT × Int) (sz : Nat) (I : Nat → Nat → Int32) (J : Nat → Nat → Int64) (hI : Iv L K x0 m0 tx tm I) (p0 : Nat) (hLp0 : p0 ∈ L) (hKp0 : K p0 = 6) (p1 : Int32) (p2 : Int32) : Met l yX6_areTwoBodies (.code yX6_areTwoBodies cX6_areTwoBodies 3 (some .boolean) :: pw) ({ frames := 1, cells := 0, slots := 0, locals := 21 }) (sP (dC, dI) cs [.ref p0, .int p1, .int p2] sz L K I J Q) (va_Qi (fun (r : Int32) (_ : Unit) => ((0) ≤ r.toInt ∧ r.toInt ≤ 1) ∧ (¬ r.toInt = 0 → ((0) ≤ p1.toInt ∧ p1.toInt ≤ (9)) ∧ ((0) ≤ p2.toInt ∧ p2.toInt ≤ (9))) ∧ (¬ r.toInt = 0 ↔ ((0 ≤ p1.toInt ∧ p1.toInt < (I (an Q p0) 3).toInt) ∧ (0 ≤ p2.toInt ∧ p2.toInt < (I (an Q p0) 3).toInt)) ∧ ¬ p1.toInt = p2.toInt)) (fun _ _ => True) (fun _ => False)) 0 0 (fun _ => False) := by
  refine Met.ofW (cc := cX6_areTwoBodies) (maxL := 3) (ret := (some .boolean)) (by decide +kernel) rfl ?_
  intro p e s m args below meth c s₁ B hml hv
  obtain ⟨rfl, hsz, hP, hK, hD0, hN⟩ := hv
  have hx := B.exec
  have hb := B.bytes
  have hr := B.returns
  have hts := fun w (h : w ∈ pw) => atoms_spec (ws := Cond.code yX6_areTwoBodies cX6_areTwoBodies 3 (some .boolean) :: pw) B.pre w (List.mem_cons_of_mem _ h)
  have hown : s.vm.findClass RX6 = some m.cls := findClass_of_methodNamed B.named
  have hlocks := B.notSynchronized
  subst hsz
  have hBB : 999 ≤ tm.2 ∧ tm.2 ≤ 6000000 := hI.2.2.2.2.1
  have hD := hD0
  obtain ⟨H, hHe⟩ : ∃ H : Heap, H = s.heap := ⟨_, rfl⟩
  have hS : va_S (fun _ => False) s.heap H [] := by rw [hHe]; exact va_S.rf
  rw [← hHe] at hP
  have hl := lv_entry ([.ref p0, .int p1, .int p2]) (n := 3) (Nat.le_of_ble_eq_true rfl)
  rw [lg_entry_eq]
  generalize (lg_sl ([.ref p0, .int p1, .int p2]) ++ List.replicate (3 - (lg_sl ([.ref p0, .int p1, .int p2])).length) Slot.unset).toArray = ls at hl ⊢
  have hl : lv_has ls 3 [(0, .ref p0), (1, .int p1), (2, .int p2)] := hl
  rw [← hHe]
  refine namedW (fun R Qz hR hQz => ?_)
  refine lv_aload_n hx hb dX6_areTwoBodies_0 rfl (lv_at hl 0 rfl) ?_
  refine lv_iload_n hx hb dX6_areTwoBodies_1 rfl (lv_at hl 1 rfl) ?_
  refine ro_i (va_runV (As := [.int p1]) (rest := []) ⟨hx, hb, hml, hown, hts⟩ (s_X6_isBody l dC dI cs L K G Q hQ x0 m0 tx tm H.size I J hI p0 hLp0 hKp0 p1) (cwV 1 hts (gV pq636 pq638 pq2 pq74 pq639) rfl rfl rfl (by decide +kernel) ⟨(by rw [hR]; exact (Nat.le_of_ble_eq_true rfl)), (by rw [hR]; exact (Nat.le_of_ble_eq_true rfl))⟩) (sP_V hP hD hK hN hLp0 hKp0 rfl rfl) rfl rfl hl.1 rfl (lv_room (Nat.le_of_ble_eq_true rfl)) dX6_areTwoBodies_2 ⟨(by rw [hR]; exact (Nat.le_of_ble_eq_true rfl)), (by rw [hR]; exact (Nat.le_of_ble_eq_true rfl))⟩) hS hP (fun z2 H locs hz2 hP hS => ?_)
  obtain ⟨bz2, imz2, xpz2⟩ := hz2
  refine lv_if_eq (tgt := 25) hx hb dX6_areTwoBodies_5 (by decide) (fun c5 => ?_) (fun c5 => ?_)
  · have t5 := tq_eq (k := z2.toInt) (q := (0)) c5 rfl (by decide +kernel)
    refine lv_iconst (v := 0) hx hb dX6_areTwoBodies_25 (by decide +kernel) ?_
    subst hR; subst hQz
    exact W.zret (v := 0) hx hb hr (by decide +kernel) (fun t ht hW => ⟨⟨0, (), rfl, ⟨⟨by decide +kernel, by decide +kernel⟩, fun h => absurd (by decide +kernel) h, ⟨fun h => absurd (by decide +kernel) h, fun q => by first | exact absurd q.1.1 (xpz2.2 t5) | exact absurd q.1.2 (xpz10.2 t13) | exact absurd t18 q.2⟩⟩, trivial⟩, hS.F ht⟩) hS.2.2 dX6_areTwoBodies_26
  · have t5 := tq_ne (k := z2.toInt) (q := (0)) c5 rfl (by decide +kernel)
    have i5 := imz2 t5
    refine lv_aload_n hx hb dX6_areTwoBodies_8 rfl (lv_at hl 0 rfl) ?_
    refine lv_iload_n hx hb dX6_areTwoBodies_9 rfl (lv_at hl 2 rfl) ?_
    refine ro_i (va_runV (As := [.int p2]) (rest := []) ⟨hx, hb, hml, hown, hts⟩ (s_X6_isBody l dC dI cs L K G Q hQ x0 m0 tx tm H.size I J hI p0 hLp0 hKp0 p2) (cwV 1 hts (gV pq636 pq638 pq2 pq74 pq639) rfl rfl rfl (by decide +kernel) ⟨(by rw [hR]; exact (Nat.le_of_ble_eq_true rfl)), (by rw [hR]; exact (Nat.le_of_ble_eq_true rfl))⟩) (sP_V hP hD hK hN hLp0 hKp0 rfl rfl) rfl rfl hl.1 rfl (lv_room (Nat.le_of_ble_eq_true rfl)) dX6_areTwoBodies_10 ⟨(by rw [hR]; exact (Nat.le_of_ble_eq_true rfl)), (by rw [hR]; exact (Nat.le_of_ble_eq_true rfl))⟩) hS hP (fun z10 H locs hz10 hP hS => ?_)
    obtain ⟨bz10, imz10, xpz10⟩ := hz10
    refine lv_if_eq (tgt := 25) hx hb dX6_areTwoBodies_13 (by decide) (fun c13 => ?_) (fun c13 => ?_)
    · have t13 := tq_eq (k := z10.toInt) (q := (0)) c13 rfl (by decide +kernel)
      refine lv_iconst (v := 0) hx hb dX6_areTwoBodies_25 (by decide +kernel) ?_
      subst hR; subst hQz
      exact W.zret (v := 0) hx hb hr (by decide +kernel) (fun t ht hW => ⟨⟨0, (), rfl, ⟨⟨by decide +kernel, by decide +kernel⟩, fun h => absurd (by decide +kernel) h, ⟨fun h => absurd (by decide +kernel) h, fun q => by first | exact absurd q.1.1 (xpz2.2 t5) | exact absurd q.1.2 (xpz10.2 t13) | exact absurd t18 q.2⟩⟩, trivial⟩, hS.F ht⟩) hS.2.2 dX6_areTwoBodies_26
    · have t13 := tq_ne (k := z10.toInt) (q := (0)) c13 rfl (by decide +kernel)
      have i13 := imz10 t13
      refine lv_iload_n hx hb dX6_areTwoBodies_16 rfl (lv_at hl 1 rfl) ?_
      refine lv_iload_n hx hb dX6_areTwoBodies_17 rfl (lv_at hl 2 rfl) ?_
      refine lv_icmp_eq (tgt := 25) hx hb dX6_areTwoBodies_18 (by decide) (fun c18 => ?_) (fun c18 => ?_)
      · have t18 := tq_eq (k := p1.toInt) (q := p2.toInt) c18 rfl rfl
        refine lv_iconst (v := 0) hx hb dX6_areTwoBodies_25 (by decide +kernel) ?_
        subst hR; subst hQz
        exact W.zret (v := 0) hx hb hr (by decide +kernel) (fun t ht hW => ⟨⟨0, (), rfl, ⟨⟨by decide +kernel, by decide +kernel⟩, fun h => absurd (by decide +kernel) h, ⟨fun h => absurd (by decide +kernel) h, fun q => by first | exact absurd q.1.1 (xpz2.2 t5) | exact absurd q.1.2 (xpz10.2 t13) | exact absurd t18 q.2⟩⟩, trivial⟩, hS.F ht⟩) hS.2.2 dX6_areTwoBodies_26
      · have t18 := tq_ne (k := p1.toInt) (q := p2.toInt) c18 rfl rfl
        refine lv_iconst (v := 1) hx hb dX6_areTwoBodies_21 (by decide +kernel) ?_
        refine lv_goto (tgt := 26) hx hb dX6_areTwoBodies_22 (by decide) ?_
        subst hR; subst hQz
        exact W.zret (v := 1) hx hb hr (by decide +kernel) (fun t ht hW => ⟨⟨1, (), rfl, ⟨⟨by decide +kernel, by decide +kernel⟩, fun _ => ⟨⟨by omega, by omega⟩, ⟨by omega, by omega⟩⟩, ⟨fun _ => ⟨⟨xpz2.1 t5, xpz10.1 t13⟩, t18⟩, fun _ => by decide +kernel⟩⟩, trivial⟩, hS.F ht⟩) hS.2.2 dX6_areTwoBodies_26

set_option maxHeartbeats 4000000 in
set_option maxRecDepth 100000 in
theorem s_X6_replaceBy (l : Launch) (dC : Nat → ClassId) (dI : Nat → Nat → Nat) (cs : Nat → ClassId) (L : List Nat) (K G : Nat → Nat) (Q : Nat → Nat → Option Nat) (hQ : Sv L K G Q) (x0 m0 : Nat) (tx : GT) (tm : GT × Int) (sz : Nat) (I : Nat → Nat → Int32) (J : Nat → Nat → Int64) (hI : Iv L K x0 m0 tx tm I) (p0 : Nat) (hLp0 : p0 ∈ L) (hKp0 : K p0 = 6) (p1 : Nat) (hLp1 : p1 ∈ L) (hKp1 : K p1 = 1) : Met l yX6_replaceBy (.code yX6_replaceBy cX6_replaceBy 2 none :: pw) ({ frames := 5, cells := 0, slots := 0, locals := 131 }) (sP (dC, dI) cs [.ref p0, .ref p1] sz L K I J Q) (va_Qv (fun (_ : Unit) => True) (fun _ t => sB (dC, dI) cs L K Q (fun I1 J1 => Iv L K x0 m0 tx tm I1 ∧ (∀ yn, Q p0 2 = some yn → I1 yn 3 = I p1 3) ∧ (∀ b, K b = 7 ∨ K b = 18 ∨ K b = 19 ∨ K b = 20 ∨ K b = 24 → I1 b = I b) ∧ (∀ (σ : Sx) (c : Fx), neF 1 (G p1) → cxH Q I J p0 σ → okF c → cxF Q I J p1 c → cxA Q I1 J1 p0 (c, 0, σ.2.2)) ∧ (∀ b, ¬ (K b = 12 ∧ (G b / 100 = 1 ∨ G b / 100 = 2)) → J1 b = J b)) t) (fun q => q ∈ L ∨ sz ≤ q)) 0 0 (fun q => q ∈ L ∨ sz ≤ q) := by
  refine Met.ofW (cc := cX6_replaceBy) (maxL := 2) (ret := none) (by decide +kernel) rfl ?_
  intro p e s m args below meth c s₁ B hml hv
  obtain ⟨rfl, hsz, hP, hK, hD0, hN⟩ := hv
  have hx := B.exec
  have hb := B.bytes
  have hr := B.returns
  have hts := fun w (h : w ∈ pw) => atoms_spec (ws := Cond.code yX6_replaceBy cX6_replaceBy 2 none :: pw) B.pre w (List.mem_cons_of_mem _ h)
  have hown : s.vm.findClass RX6 = some m.cls := findClass_of_methodNamed B.named
  have hlocks := B.notSynchronized
  subst hsz
  have hBB : 999 ≤ tm.2 ∧ tm.2 ≤ 6000000 := hI.2.2.2.2.1
  have dn_I : (∀ b, K b = 7 ∨ K b = 18 ∨ K b = 19 ∨ K b = 20 ∨ K b = 24 → I b = I b) := fun _ _ => rfl
  have dj_J : (∀ b, ¬ (K b = 12 ∧ (G b / 100 = 1 ∨ G b / 100 = 2)) → J b = J b) := fun _ _ => rfl
  obtain ⟨A, hAe⟩ : ∃ A : Nat → Prop, A = (fun q => q ∈ L ∨ s.heap.size ≤ q) := ⟨_, rfl⟩
  rw [← hAe]
  have hAL : ∀ q, q ∈ L → A q := fun q h => by rw [hAe]; exact Or.inl h
  have hA : ∀ q, s.heap.size ≤ q → A q := fun q h => by rw [hAe]; exact Or.inr h
  have hD : ∀ F, va_D A (va_pl L F) := fun F => (hD0 F).weaken (fun k q hk _ => hAL _ (pl_mem hk))
  obtain ⟨H, hHe⟩ : ∃ H : Heap, H = s.heap := ⟨_, rfl⟩
  have hS : va_S A s.heap H [] := by rw [hHe]; exact va_S.rf
  rw [← hHe] at hP
  have hl := lv_entry ([.ref p0, .ref p1]) (n := 2) (Nat.le_of_ble_eq_true rfl)
  rw [lg_entry_eq]
  generalize (lg_sl ([.ref p0, .ref p1]) ++ List.replicate (2 - (lg_sl ([.ref p0, .ref p1])).length) Slot.unset).toArray = ls at hl ⊢
  have hl : lv_has ls 2 [(0, .ref p0), (1, .ref p1)] := hl
  rw [← hHe]
  refine namedW (fun R Qz hR hQz => ?_)
  refine lv_aload_n hx hb dX6_replaceBy_0 rfl (lv_at hl 0 rfl) ?_
  obtain ⟨y1, ey1, hLy1, hKy1, hGy1⟩ := oQ_6_2 (Sv_at hQ hLp0 hKp0)
  refine p_get (v := .ref y1) hx hb hts inX6 hown hK hP hLp0 hKp0 rfl rfl 2 (by decide) (hts _ pq351) (congrArg (fun q => some (va_rf q)) ey1) dX6_replaceBy_1 ?_
  refine lv_aload_n hx hb dX6_replaceBy_4 rfl (lv_at hl 1 rfl) ?_
  refine sw_v (Z := (fun I1 J1 => Iv L K x0 m0 tx tm I1 ∧ (∀ b, ¬ ((G b = G y1 ∨ G b / 100 = G y1) ∧ ¬ K b = 6) → I1 b = I b) ∧ (I1 y1 3 = I p1 3 ∧ (∀ b, K b = 1 → ¬ b = y1 → I1 b = I b) ∧ ∀ b, ¬ K b = 0 → ¬ K b = 1 → ¬ K b = 3 → I1 b = I b) ∧ (neF (G y1) (G p1) → ∀ c : Fx, okF c → cxF Q I J p1 c → cxF Q I1 J1 y1 c) ∧ (∀ b, ¬ (K b = 12 ∧ (G b / 100 = G y1)) → J1 b = J b))) (va_runV (As := [.ref p1]) (rest := []) ⟨hx, hb, hml, hown, hts⟩ (s_X1_become l dC dI cs L K G Q hQ x0 m0 tx tm H.size I J hI y1 hLy1 hKy1 p1 hLp1 hKp1) (cwV 1 hts (gV pq589 pq590 pq591 pq75 pq592) rfl rfl rfl (by decide +kernel) ⟨(by rw [hR]; exact (Nat.le_of_ble_eq_true rfl)), (by rw [hR]; exact (Nat.le_of_ble_eq_true rfl))⟩) (sP_V hP hD hK hN hLy1 hKy1 rfl rfl) rfl rfl hl.1 rfl (lv_room (Nat.le_of_ble_eq_true rfl)) dX6_replaceBy_5 ⟨(by rw [hR]; exact (Nat.le_of_ble_eq_true rfl)), (by rw [hR]; exact (Nat.le_of_ble_eq_true rfl))⟩) hS hAL hA (fun Iz5 Jz5 H locs hz5 hIz5 hP hS => ?_)
  obtain ⟨hIz5, frc5, fz5, jz5, djc5⟩ := hIz5
  have dj_Jz5 : (∀ b, ¬ (K b = 12 ∧ (G b / 100 = 1 ∨ G b / 100 = 2)) → Jz5 b = J b) := fun b hc => (djc5 b (fun z => hc (by exact ⟨z.1, by have z2 := z.2; omega⟩))).trans (dj_J b hc)
  have dn_Iz5 : (∀ b, K b = 7 ∨ K b = 18 ∨ K b = 19 ∨ K b = 20 ∨ K b = 24 → Iz5 b = I b) := fun b hc => (fz5.2.2 b (by omega) (by omega) (by omega)).trans (dn_I b hc)
  refine lv_aload_n hx hb dX6_replaceBy_8 rfl (lv_at hl 0 rfl) ?_
  obtain ⟨y9, ey9, hLy9, hKy9, hGy9⟩ := oQ_6_5 (Sv_at hQ hLp0 hKp0)
  refine p_get (v := .ref y9) hx hb hts inX6 hown hK hP hLp0 hKp0 rfl rfl 5 (by decide) (hts _ pq354) (congrArg (fun q => some (va_rf q)) ey9) dX6_replaceBy_9 ?_
  refine sw_v (Z := (fun I1 J1 => Iv L K x0 m0 tx tm I1 ∧ (∀ b, ¬ ((K b = 3) ∧ G b / 100 = 2) → I1 b = Iz5 b) ∧ (∀ c : Fx, okF c → cxF Q Iz5 Jz5 (nf Q y9) c → cxS Q I1 J1 y9 c) ∧ (∀ b, ¬ (K b = 12 ∧ (G b / 100 = 2)) → J1 b = Jz5 b))) (va_runV (As := []) (rest := []) ⟨hx, hb, hml, hown, hts⟩ (s_X5_redraw l dC dI cs L K G Q hQ x0 m0 tx tm H.size Iz5 Jz5 hIz5 y9 hLy9 hKy9) (cwV 0 hts (gV pq604 pq605 pq606 pq79 pq607) rfl rfl rfl (by decide +kernel) ⟨(by rw [hR]; exact (Nat.le_of_ble_eq_true rfl)), (by rw [hR]; exact (Nat.le_of_ble_eq_true rfl))⟩) (sP_V hP hD hK hN hLy9 hKy9 rfl rfl) rfl rfl hl.1 rfl (lv_room (Nat.le_of_ble_eq_true rfl)) dX6_replaceBy_12 ⟨(by rw [hR]; exact (Nat.le_of_ble_eq_true rfl)), (by rw [hR]; exact (Nat.le_of_ble_eq_true rfl))⟩) hS hAL hA (fun Iz12 Jz12 H locs hz12 hIz12 hP hS => ?_)
  obtain ⟨hIz12, frc12, jz12, djc12⟩ := hIz12
  have dj_Jz12 : (∀ b, ¬ (K b = 12 ∧ (G b / 100 = 1 ∨ G b / 100 = 2)) → Jz12 b = J b) := fun b hc => (djc12 b (fun z => hc (by exact ⟨z.1, by have z2 := z.2; omega⟩))).trans (dj_Jz5 b hc)
  have dn_Iz12 : (∀ b, K b = 7 ∨ K b = 18 ∨ K b = 19 ∨ K b = 20 ∨ K b = 24 → Iz12 b = I b) := fun b hc => (frc12 b (by omega)).trans (dn_Iz5 b hc)
  refine lv_aload_n hx hb dX6_replaceBy_15 rfl (lv_at hl 0 rfl) ?_
  refine lv_iconst (v := 0) hx hb dX6_replaceBy_16 (by decide +kernel) ?_
  refine p_put hx hb hts inX6 tyX6 tyX6_ok nmX6 hown hK hP hD hS hLp0 hKp0 rfl rfl 10 (by decide) (hts _ pq359) rfl (by decide +kernel) (Nat.le_of_ble_eq_true rfl) (oS_6_10 cs _ _ _ _) dX6_replaceBy_17 (fun H locs hP hS => ?_)
  obtain ⟨Iz17, hP, hIz17, qIz17⟩ : ∃ Iz17, va_P (dC, dI) vwCl (Wd cs L K Iz17 Jz12 Q) H ∧ Iv L K x0 m0 tx tm Iz17 ∧ Iz17 = va_up Iz12 p0 (upd (Iz12 p0) 10 (0 : Int32)) := ⟨_, hP, Iv_put hIz12 hKp0 (oP_6_10 (Iv_at hIz12 hLp0 hKp0) ⟨by decide +kernel, by decide +kernel⟩) (by decide) (by decide), rfl⟩
  have dn_Iz17 : (∀ b, K b = 7 ∨ K b = 18 ∨ K b = 19 ∨ K b = 20 ∨ K b = 24 → Iz17 b = I b) := fun b hc => (congrFun qIz17 b).trans ((va_up_ne _ _ (fun z => by have q := hKp0; rw [← z] at q; omega)).trans (dn_Iz12 b hc))
  subst hR; subst hQz
  exact W.vret hx hb hr (fun t ht hW => ⟨⟨(), rfl, trivial, ⟨Iz17, Jz12, ⟨hIz17, (fun yn e => by obtain rfl : y1 = yn := Option.some.inj (ey1.symm.trans e); rw [qIz17, va_up_ne _ _ (ne_k hKy1 hKp0 (by decide)), frc12 y1 (by omega)]; exact fz5.1), dn_Iz17, (fun σ c ne h ok hc => by have ea : an Q p0 = y1 := gd_of ey1; have B := cxH_becn hQ hLp0 hKp0 ne ok hc (by rw [ea]; exact jz5) (by rw [ea]; exact frc5) (by rw [ea]; exact djc5) h; have C := cxA_redraw hQ hLp0 hKp0 (by rw [show se Q p0 = y9 from gd_of ey9]; exact jz12) frc12 djc12 B; exact cxA_cnt (n := 0) hQ hLp0 hKp0 (by omega) qIz17 (by decide +kernel) C), dj_Jz12⟩, by rw [ht]; exact hP⟩⟩, hS.F ht⟩) hS.2.2 dX6_replaceBy_20

set_option maxHeartbeats 4000000 in
set_option maxRecDepth 100000 in
theorem s_X6_undo (l : Launch) (dC : Nat → ClassId) (dI : Nat → Nat → Nat) (cs : Nat → ClassId) (L : List Nat) (K G : Nat → Nat) (Q : Nat → Nat → Option Nat) (hQ : Sv L K G Q) (x0 m0 : Nat) (tx : GT) (tm : GT × Int) (sz : Nat) (I : Nat → Nat → Int32) (J : Nat → Nat → Int64) (hI : Iv L K x0 m0 tx tm I) (p0 : Nat) (hLp0 : p0 ∈ L) (hKp0 : K p0 = 6) : Met l yX6_undo (.code yX6_undo cX6_undo 2 (some .int) :: pw) ({ frames := 5, cells := 0, slots := 0, locals := 131 }) (sP (dC, dI) cs [.ref p0] sz L K I J Q) (va_Qi (fun (r : Int32) (_ : Unit) => (∀ σ : Sx, cxA Q I J p0 σ → r.toInt = (unA σ).1)) (fun _ t => sB (dC, dI) cs L K Q (fun I1 J1 => Iv L K x0 m0 tx tm I1 ∧ (∀ b, K b = 7 ∨ K b = 18 ∨ K b = 19 ∨ K b = 20 ∨ K b = 24 → I1 b = I b) ∧ (∀ σ : Sx, cxA Q I J p0 σ → cxA Q I1 J1 p0 (unA σ).2) ∧ (∀ b, ¬ (K b = 12 ∧ (G b / 100 = 1 ∨ G b / 100 = 2)) → J1 b = J b)) t) (fun q => q ∈ L ∨ sz ≤ q)) 0 0 (fun q => q ∈ L ∨ sz ≤ q) := by
  refine Met.ofW (cc := cX6_undo) (maxL := 2) (ret := (some .int)) (by decide +kernel) rfl ?_
  intro p e s m args below meth c s₁ B hml hv
  obtain ⟨rfl, hsz, hP, hK, hD0, hN⟩ := hv
  have hx := B.exec
  have hb := B.bytes
  have hr := B.returns
  have hts := fun w (h : w ∈ pw) => atoms_spec (ws := Cond.code yX6_undo cX6_undo 2 (some .int) :: pw) B.pre w (List.mem_cons_of_mem _ h)
  have hown : s.vm.findClass RX6 = some m.cls := findClass_of_methodNamed B.named
  have hlocks := B.notSynchronized
  subst hsz
  have hBB : 999 ≤ tm.2 ∧ tm.2 ≤ 6000000 := hI.2.2.2.2.1
  have dn_I : (∀ b, K b = 7 ∨ K b = 18 ∨ K b = 19 ∨ K b = 20 ∨ K b = 24 → I b = I b) := fun _ _ => rfl
  have dj_J : (∀ b, ¬ (K b = 12 ∧ (G b / 100 = 1 ∨ G b / 100 = 2)) → J b = J b) := fun _ _ => rfl
  obtain ⟨A, hAe⟩ : ∃ A : Nat → Prop, A = (fun q => q ∈ L ∨ s.heap.size ≤ q) := ⟨_, rfl⟩
  rw [← hAe]
  have hAL : ∀ q, q ∈ L → A q := fun q h => by rw [hAe]; exact Or.inl h
  have hA : ∀ q, s.heap.size ≤ q → A q := fun q h => by rw [hAe]; exact Or.inr h
  have hD : ∀ F, va_D A (va_pl L F) := fun F => (hD0 F).weaken (fun k q hk _ => hAL _ (pl_mem hk))
  obtain ⟨H, hHe⟩ : ∃ H : Heap, H = s.heap := ⟨_, rfl⟩
  have hS : va_S A s.heap H [] := by rw [hHe]; exact va_S.rf
  rw [← hHe] at hP
  have hl := lv_entry ([.ref p0]) (n := 2) (Nat.le_of_ble_eq_true rfl)
  rw [lg_entry_eq]
  generalize (lg_sl ([.ref p0]) ++ List.replicate (2 - (lg_sl ([.ref p0])).length) Slot.unset).toArray = ls at hl ⊢
  have hl : lv_has ls 2 [(0, .ref p0)] := hl
  rw [← hHe]
  refine namedW (fun R Qz hR hQz => ?_)
  refine lv_aload_n hx hb dX6_undo_0 rfl (lv_at hl 0 rfl) ?_
  refine p_get hx hb hts inX6 hown hK hP hLp0 hKp0 rfl rfl 10 (by decide) (hts _ pq359) rfl dX6_undo_1 ?_
  refine lv_topi (fun z1 ez1 => ?_)
  have bz1 := oI_6_10 (Iv_at hI hLp0 hKp0)
  rw [← ez1] at bz1
  refine lv_if_ne (tgt := 9) hx hb dX6_undo_4 (by decide) (fun c4 => ?_) (fun c4 => ?_)
  · have t4 := tq_ne (k := z1.toInt) (q := (0)) c4 rfl (by decide +kernel)
    refine lv_aload_n hx hb dX6_undo_9 rfl (lv_at hl 0 rfl) ?_
    refine lv_dup hx hb dX6_undo_10 rfl ?_
    refine p_get hx hb hts inX6 hown hK hP hLp0 hKp0 rfl rfl 10 (by decide) (hts _ pq359) rfl dX6_undo_11 ?_
    refine lv_topi (fun z11 ez11 => ?_)
    obtain rfl : z1 = z11 := ez1.trans ez11.symm
    refine lv_iconst (v := 1) hx hb dX6_undo_14 (by decide +kernel) ?_
    refine lv_isub hx hb dX6_undo_15 ?_
    refine lv_topi (fun z15 ez15 => ?_)
    have bz15 := tq_sub (k := z1.toInt) (q := (1)) ez15 rfl (by decide +kernel) (by omega) (by omega)
    refine p_put hx hb hts inX6 tyX6 tyX6_ok nmX6 hown hK hP hD hS hLp0 hKp0 rfl rfl 10 (by decide) (hts _ pq359) rfl (by decide +kernel) (Nat.le_of_ble_eq_true rfl) (oS_6_10 cs _ _ _ _) dX6_undo_16 (fun H locs hP hS => ?_)
    obtain ⟨Iz16, hP, hIz16, qIz16⟩ : ∃ Iz16, va_P (dC, dI) vwCl (Wd cs L K Iz16 J Q) H ∧ Iv L K x0 m0 tx tm Iz16 ∧ Iz16 = va_up I p0 (upd (I p0) 10 z15) := ⟨_, hP, Iv_put hI hKp0 (oP_6_10 (Iv_at hI hLp0 hKp0) ⟨by omega, by omega⟩) (by decide) (by decide), rfl⟩
    have dn_Iz16 : (∀ b, K b = 7 ∨ K b = 18 ∨ K b = 19 ∨ K b = 20 ∨ K b = 24 → Iz16 b = I b) := fun b hc => (congrFun qIz16 b).trans ((va_up_ne _ _ (fun z => by have q := hKp0; rw [← z] at q; omega)).trans (dn_I b hc))
    refine lv_aload_n hx hb dX6_undo_19 rfl (lv_at hl 0 rfl) ?_
    obtain ⟨y20, ey20, hLy20, hKy20⟩ := oQ_6_8 (Sv_at hQ hLp0 hKp0)
    refine p_get (v := .ref y20) hx hb hts inX6 hown hK hP hLp0 hKp0 rfl rfl 8 (by decide) (hts _ pq357) (congrArg (fun q => some (va_rf q)) ey20) dX6_undo_20 ?_
    refine lv_aload_n hx hb dX6_undo_23 rfl (lv_at hl 0 rfl) ?_
    refine p_get hx hb hts inX6 hown hK hP hLp0 hKp0 rfl rfl 9 (by decide) (hts _ pq358) rfl dX6_undo_24 ?_
    refine lv_topi (fun z24 ez24 => ?_)
    have bz24 := oI_6_9 (Iv_at hIz16 hLp0 hKp0)
    rw [← ez24] at bz24
    refine lv_aload_n hx hb dX6_undo_27 rfl (lv_at hl 0 rfl) ?_
    refine p_get hx hb hts inX6 hown hK hP hLp0 hKp0 rfl rfl 10 (by decide) (hts _ pq359) rfl dX6_undo_28 ?_
    refine lv_topi (fun z28 ez28 => ?_)
    have bz28 := oI_6_10 (Iv_at hIz16 hLp0 hKp0)
    rw [← ez28] at bz28
    refine lv_iadd hx hb dX6_undo_31 ?_
    refine lv_topi (fun z31 ez31 => ?_)
    have bz31 := tq_add (k := z24.toInt) (q := z28.toInt) ez31 rfl rfl (by omega) (by omega)
    refine lv_bipush (v := 10) hx hb dX6_undo_32 (by decide +kernel) ?_
    refine lv_irem hx hb dX6_undo_34 (by decide +kernel) ?_
    refine lv_topi (fun z34 ez34 => ?_)
    have bz34 := tq_rem (k := 10) ez34 (by decide +kernel) (by omega) (by omega)
    have sl : z34.toInt.toNat = ((I p0 9).toInt.toNat + ((I p0 10).toInt.toNat - 1)) % 10 := by have a := congrArg Int32.toInt ez1; have b := congrArg Int32.toInt ez24; rw [qIz16, rz_fr _ _ _ _ (by decide)] at b; have d := congrArg Int32.toInt (ez28.trans (show Iz16 p0 10 = z15 by rw [qIz16, rz_at])); omega
    rcases (Sv_at hQ hLy20 hKy20) z34.toNatClampNeg (clamp_lt (n := 10) (in_of (by omega) (by omega))) with en35 | ⟨y35, ey35, hLy35, hKy35, hGy35⟩
    · refine p_aaldN hx hb hK hP 6 hLy20 hKy20 rfl rfl (in_of (by omega) (by omega)) en35 dX6_undo_35 ?_
      refine lv_astore_nN (lv' := [(1, .null), (0, .ref p0)]) hx hb dX6_undo_36 rfl hl (by decide) rfl (fun ls hl => ?_)
      refine lv_aload_nN hx hb dX6_undo_37 rfl (lv_at hl 0 rfl) ?_
      have j49 : ∀ (I49 : Nat → Nat → Int32) (J49 : Nat → Nat → Int64) (H : Heap) (lo : List Loc) (ls : Array Slot), Iv L K x0 m0 tx tm I49 → (∀ b, K b = 7 ∨ K b = 18 ∨ K b = 19 ∨ K b = 20 ∨ K b = 24 → I49 b = I b) → (∀ b, ¬ (K b = 12 ∧ (G b / 100 = 1 ∨ G b / 100 = 2)) → J49 b = J b) → (∀ σ : Sx, cxA Q I J p0 σ → cxH Q I49 J49 p0 (σ.2.2.1 (σ.2.1 - 1), σ.2.1 - 1, σ.2.2)) → va_P (dC, dI) vwCl (Wd cs L K I49 J49 Q) H → va_S A s.heap H lo → lv_has ls 2 [(0, .ref p0)] → W p l e R s m (([.ref p0] : List Value).toArray) below meth c H lo 0 0 Qz (F0 m 49 ls []) := by
        intro I49 J49 H lo ls hI49 dn_I49 dj_J49 hu49 hP hS hl
        refine lv_aload_n hx hb dX6_undo_49 rfl (lv_at hl 0 rfl) ?_
        obtain ⟨y50, ey50, hLy50, hKy50, hGy50⟩ := oQ_6_5 (Sv_at hQ hLp0 hKp0)
        refine p_get (v := .ref y50) hx hb hts inX6 hown hK hP hLp0 hKp0 rfl rfl 5 (by decide) (hts _ pq354) (congrArg (fun q => some (va_rf q)) ey50) dX6_undo_50 ?_
        refine sw_v (Z := (fun I1 J1 => Iv L K x0 m0 tx tm I1 ∧ (∀ b, ¬ ((K b = 3) ∧ G b / 100 = 2) → I1 b = I49 b) ∧ (∀ c : Fx, okF c → cxF Q I49 J49 (nf Q y50) c → cxS Q I1 J1 y50 c) ∧ (∀ b, ¬ (K b = 12 ∧ (G b / 100 = 2)) → J1 b = J49 b))) (va_runV (As := []) (rest := []) ⟨hx, hb, hml, hown, hts⟩ (s_X5_redraw l dC dI cs L K G Q hQ x0 m0 tx tm H.size I49 J49 hI49 y50 hLy50 hKy50) (cwV 0 hts (gV pq604 pq605 pq606 pq79 pq607) rfl rfl rfl (by decide +kernel) ⟨(by rw [hR]; exact (Nat.le_of_ble_eq_true rfl)), (by rw [hR]; exact (Nat.le_of_ble_eq_true rfl))⟩) (sP_V hP hD hK hN hLy50 hKy50 rfl rfl) rfl rfl hl.1 rfl (lv_room (Nat.le_of_ble_eq_true rfl)) dX6_undo_53 ⟨(by rw [hR]; exact (Nat.le_of_ble_eq_true rfl)), (by rw [hR]; exact (Nat.le_of_ble_eq_true rfl))⟩) hS hAL hA (fun Iz53 Jz53 H locs hz53 hIz53 hP hS => ?_)
        obtain ⟨hIz53, frc53, jz53, djc53⟩ := hIz53
        have dj_Jz53 : (∀ b, ¬ (K b = 12 ∧ (G b / 100 = 1 ∨ G b / 100 = 2)) → Jz53 b = J b) := fun b hc => (djc53 b (fun z => hc (by exact ⟨z.1, by have z2 := z.2; omega⟩))).trans (dj_J49 b hc)
        have dn_Iz53 : (∀ b, K b = 7 ∨ K b = 18 ∨ K b = 19 ∨ K b = 20 ∨ K b = 24 → Iz53 b = I b) := fun b hc => (frc53 b (by omega)).trans (dn_I49 b hc)
        refine lv_aload_n hx hb dX6_undo_56 rfl (lv_at hl 0 rfl) ?_
        refine p_get hx hb hts inX6 hown hK hP hLp0 hKp0 rfl rfl 10 (by decide) (hts _ pq359) rfl dX6_undo_57 ?_
        refine lv_topi (fun z57 ez57 => ?_)
        have bz57 := oI_6_10 (Iv_at hIz53 hLp0 hKp0)
        rw [← ez57] at bz57
        subst hR; subst hQz
        exact W.iret (v := z57) hx hb hr (fun t ht hW => ⟨⟨z57, (), rfl, (fun σ h => by have e := h.1.2.1.1; rw [← ez1] at e; rw [un_y (by omega)]; have B := (hu49 σ h).2.1.1; show z57.toInt = (σ.2.1 : Int) - 1; rw [ez57, frc53 p0 (fun z => by have := hKp0; omega), B]; show ((σ.2.1 - 1 : Nat) : Int) = (σ.2.1 : Int) - 1; omega), ⟨Iz53, Jz53, ⟨hIz53, dn_Iz53, (fun σ h => by have e := h.1.2.1.1; rw [← ez1] at e; rw [un_y (by omega)]; exact cxA_redraw hQ hLp0 hKp0 (by rw [show se Q p0 = y50 from gd_of ey50]; exact jz53) frc53 djc53 (hu49 σ h)), dj_Jz53⟩, by rw [ht]; exact hP⟩⟩, hS.F ht⟩) hS.2.2 dX6_undo_60
      refine lv_ifnullN (tgt := 49) hx hb dX6_undo_38 (by decide) ?_
      exact j49 Iz16 J _ _ _ hIz16 dn_Iz16 dj_J (fun σ h => by have e1 := h.1.2.1.1; rw [← ez1] at e1; obtain ⟨c1, F, c2, c3⟩ := h.1.2.2.1 (σ.2.1 - 1) (by omega); have ei : ((I p0 9).toInt.toNat + (σ.2.1 - 1)) % 10 = z34.toInt.toNat := (by rw [sl, show (I p0 10).toInt.toNat = σ.2.1 by rw [← ez1]; omega]); rw [ei, show pa Q p0 = y20 from gd_of ey20] at c2; rw [show Q y20 z34.toInt.toNat = none from en35] at c2; cases c2) hP hS (lv_sub hl [1] rfl)
    · have hNy35 : 20 ≤ G y35 ∧ G y35 < 30 := by (have hj := clamp_lt (i := z34) (n := 10) (in_of (by omega) (by omega))); omega
      refine p_aaldR hx hb hK hP 6 hLy20 hKy20 rfl rfl (in_of (by omega) (by omega)) ey35 dX6_undo_35 ?_
      refine lv_astore_n (lv' := [(1, .ref y35), (0, .ref p0)]) hx hb dX6_undo_36 rfl hl (by decide) rfl (fun ls hl => ?_)
      refine lv_aload_n hx hb dX6_undo_37 rfl (lv_at hl 0 rfl) ?_
      have j49 : ∀ (I49 : Nat → Nat → Int32) (J49 : Nat → Nat → Int64) (H : Heap) (lo : List Loc) (ls : Array Slot), Iv L K x0 m0 tx tm I49 → (∀ b, K b = 7 ∨ K b = 18 ∨ K b = 19 ∨ K b = 20 ∨ K b = 24 → I49 b = I b) → (∀ b, ¬ (K b = 12 ∧ (G b / 100 = 1 ∨ G b / 100 = 2)) → J49 b = J b) → (∀ σ : Sx, cxA Q I J p0 σ → cxH Q I49 J49 p0 (σ.2.2.1 (σ.2.1 - 1), σ.2.1 - 1, σ.2.2)) → va_P (dC, dI) vwCl (Wd cs L K I49 J49 Q) H → va_S A s.heap H lo → lv_has ls 2 [(0, .ref p0)] → W p l e R s m (([.ref p0] : List Value).toArray) below meth c H lo 0 0 Qz (F0 m 49 ls []) := by
        intro I49 J49 H lo ls hI49 dn_I49 dj_J49 hu49 hP hS hl
        refine lv_aload_n hx hb dX6_undo_49 rfl (lv_at hl 0 rfl) ?_
        obtain ⟨y50, ey50, hLy50, hKy50, hGy50⟩ := oQ_6_5 (Sv_at hQ hLp0 hKp0)
        refine p_get (v := .ref y50) hx hb hts inX6 hown hK hP hLp0 hKp0 rfl rfl 5 (by decide) (hts _ pq354) (congrArg (fun q => some (va_rf q)) ey50) dX6_undo_50 ?_
        refine sw_v (Z := (fun I1 J1 => Iv L K x0 m0 tx tm I1 ∧ (∀ b, ¬ ((K b = 3) ∧ G b / 100 = 2) → I1 b = I49 b) ∧ (∀ c : Fx, okF c → cxF Q I49 J49 (nf Q y50) c → cxS Q I1 J1 y50 c) ∧ (∀ b, ¬ (K b = 12 ∧ (G b / 100 = 2)) → J1 b = J49 b))) (va_runV (As := []) (rest := []) ⟨hx, hb, hml, hown, hts⟩ (s_X5_redraw l dC dI cs L K G Q hQ x0 m0 tx tm H.size I49 J49 hI49 y50 hLy50 hKy50) (cwV 0 hts (gV pq604 pq605 pq606 pq79 pq607) rfl rfl rfl (by decide +kernel) ⟨(by rw [hR]; exact (Nat.le_of_ble_eq_true rfl)), (by rw [hR]; exact (Nat.le_of_ble_eq_true rfl))⟩) (sP_V hP hD hK hN hLy50 hKy50 rfl rfl) rfl rfl hl.1 rfl (lv_room (Nat.le_of_ble_eq_true rfl)) dX6_undo_53 ⟨(by rw [hR]; exact (Nat.le_of_ble_eq_true rfl)), (by rw [hR]; exact (Nat.le_of_ble_eq_true rfl))⟩) hS hAL hA (fun Iz53 Jz53 H locs hz53 hIz53 hP hS => ?_)
        obtain ⟨hIz53, frc53, jz53, djc53⟩ := hIz53
        have dj_Jz53 : (∀ b, ¬ (K b = 12 ∧ (G b / 100 = 1 ∨ G b / 100 = 2)) → Jz53 b = J b) := fun b hc => (djc53 b (fun z => hc (by exact ⟨z.1, by have z2 := z.2; omega⟩))).trans (dj_J49 b hc)
        have dn_Iz53 : (∀ b, K b = 7 ∨ K b = 18 ∨ K b = 19 ∨ K b = 20 ∨ K b = 24 → Iz53 b = I b) := fun b hc => (frc53 b (by omega)).trans (dn_I49 b hc)
        refine lv_aload_n hx hb dX6_undo_56 rfl (lv_at hl 0 rfl) ?_
        refine p_get hx hb hts inX6 hown hK hP hLp0 hKp0 rfl rfl 10 (by decide) (hts _ pq359) rfl dX6_undo_57 ?_
        refine lv_topi (fun z57 ez57 => ?_)
        have bz57 := oI_6_10 (Iv_at hIz53 hLp0 hKp0)
        rw [← ez57] at bz57
        subst hR; subst hQz
        exact W.iret (v := z57) hx hb hr (fun t ht hW => ⟨⟨z57, (), rfl, (fun σ h => by have e := h.1.2.1.1; rw [← ez1] at e; rw [un_y (by omega)]; have B := (hu49 σ h).2.1.1; show z57.toInt = (σ.2.1 : Int) - 1; rw [ez57, frc53 p0 (fun z => by have := hKp0; omega), B]; show ((σ.2.1 - 1 : Nat) : Int) = (σ.2.1 : Int) - 1; omega), ⟨Iz53, Jz53, ⟨hIz53, dn_Iz53, (fun σ h => by have e := h.1.2.1.1; rw [← ez1] at e; rw [un_y (by omega)]; exact cxA_redraw hQ hLp0 hKp0 (by rw [show se Q p0 = y50 from gd_of ey50]; exact jz53) frc53 djc53 (hu49 σ h)), dj_Jz53⟩, by rw [ht]; exact hP⟩⟩, hS.F ht⟩) hS.2.2 dX6_undo_60
      refine lv_ifnull hx hb dX6_undo_38 ?_
      refine lv_aload_n hx hb dX6_undo_41 rfl (lv_at hl 1 rfl) ?_
      obtain ⟨y42, ey42, hLy42, hKy42, hGy42⟩ := oQ_6_2 (Sv_at hQ hLp0 hKp0)
      refine p_get (v := .ref y42) hx hb hts inX6 hown hK hP hLp0 hKp0 rfl rfl 2 (by decide) (hts _ pq351) (congrArg (fun q => some (va_rf q)) ey42) dX6_undo_42 ?_
      refine lv_aload_n hx hb dX6_undo_45 rfl (lv_at hl 0 rfl) ?_
      refine sw_v (Z := (fun I1 J1 => Iv L K x0 m0 tx tm I1 ∧ (∀ b, ¬ ((G b = G y42 ∨ G b / 100 = G y42) ∧ ¬ K b = 6) → I1 b = Iz16 b) ∧ (I1 y42 3 = Iz16 y35 3 ∧ (∀ b, K b = 1 → ¬ b = y42 → I1 b = Iz16 b) ∧ ∀ b, ¬ K b = 0 → ¬ K b = 1 → ¬ K b = 3 → I1 b = Iz16 b) ∧ (neF (G y42) (G y35) → ∀ c : Fx, okF c → cxF Q Iz16 J y35 c → cxF Q I1 J1 y42 c) ∧ (∀ b, ¬ (K b = 12 ∧ (G b / 100 = G y42)) → J1 b = J b))) (va_runV (As := [.ref y35]) (rest := []) ⟨hx, hb, hml, hown, hts⟩ (s_X1_become l dC dI cs L K G Q hQ x0 m0 tx tm H.size Iz16 J hIz16 y42 hLy42 hKy42 y35 hLy35 hKy35) (cwV 1 hts (gV pq589 pq590 pq591 pq75 pq592) rfl rfl rfl (by decide +kernel) ⟨(by rw [hR]; exact (Nat.le_of_ble_eq_true rfl)), (by rw [hR]; exact (Nat.le_of_ble_eq_true rfl))⟩) (sP_V hP hD hK hN hLy42 hKy42 rfl rfl) rfl rfl hl.1 rfl (lv_room (Nat.le_of_ble_eq_true rfl)) dX6_undo_46 ⟨(by rw [hR]; exact (Nat.le_of_ble_eq_true rfl)), (by rw [hR]; exact (Nat.le_of_ble_eq_true rfl))⟩) hS hAL hA (fun Iz46 Jz46 H locs hz46 hIz46 hP hS => ?_)
      obtain ⟨hIz46, frc46, fz46, jz46, djc46⟩ := hIz46
      have dj_Jz46 : (∀ b, ¬ (K b = 12 ∧ (G b / 100 = 1 ∨ G b / 100 = 2)) → Jz46 b = J b) := fun b hc => (djc46 b (fun z => hc (by exact ⟨z.1, by have z2 := z.2; omega⟩))).trans (dj_J b hc)
      have dn_Iz46 : (∀ b, K b = 7 ∨ K b = 18 ∨ K b = 19 ∨ K b = 20 ∨ K b = 24 → Iz46 b = I b) := fun b hc => (fz46.2.2 b (by omega) (by omega) (by omega)).trans (dn_Iz16 b hc)
      exact j49 Iz46 Jz46 _ _ _ hIz46 dn_Iz46 dj_Jz46 (fun σ h => by have e1 := h.1.2.1.1; rw [← ez1] at e1; obtain ⟨c1, F, c2, c3⟩ := h.1.2.2.1 (σ.2.1 - 1) (by omega); have ei : ((I p0 9).toInt.toNat + (σ.2.1 - 1)) % 10 = z34.toInt.toNat := (by rw [sl, show (I p0 10).toInt.toNat = σ.2.1 by rw [← ez1]; omega]); rw [ei, show pa Q p0 = y20 from gd_of ey20] at c2; obtain rfl : y35 = F := Option.some.inj ((show Q y20 z34.toInt.toNat = some y35 from ey35).symm.trans c2); have ea : an Q p0 = y42 := gd_of ey42; have B := cxH_cnt (n := σ.2.1 - 1) hQ hLp0 hKp0 (by omega) qIz16 (by omega) h.1; have cF := cxF_fr (I1 := Iz16) (J1 := J) hQ extW_refl hLy35 hKy35 c1 (fun b hb _ hk => by rw [qIz16, va_up_ne _ _ (fun z => by rw [z, hKp0] at hk; omega)]) (fun _ _ _ _ => rfl) c3; exact cxH_becn hQ hLp0 hKp0 (by have := hNy35; exact ⟨⟨by omega, by omega, by omega⟩, by omega, by omega⟩) c1 cF (by rw [ea]; exact jz46) (by rw [ea]; exact frc46) (by rw [ea]; exact djc46) B) hP hS (lv_sub hl [1] rfl)
  · have t4 := tq_eq (k := z1.toInt) (q := (0)) c4 rfl (by decide +kernel)
    refine lv_iconst (v := (-1)) hx hb dX6_undo_7 (by decide +kernel) ?_
    subst hR; subst hQz
    exact W.iret (v := (-1)) hx hb hr (fun t ht hW => ⟨⟨(-1), (), rfl, (fun σ h => by have e := h.1.2.1.1; rw [← ez1] at e; rw [un_n (by omega)]; show (-1 : Int32).toInt = -1; decide +kernel), ⟨I, J, ⟨hI, dn_I, (fun σ h => by have e := h.1.2.1.1; rw [← ez1] at e; rw [un_n (by omega)]; exact h), dj_J⟩, by rw [ht]; exact hP⟩⟩, hS.F ht⟩) hS.2.2 dX6_undo_8

set_option maxHeartbeats 4000000 in
set_option maxRecDepth 100000 in
theorem s_X6_back (l : Launch) (dC : Nat → ClassId) (dI : Nat → Nat → Nat) (cs : Nat → ClassId) (L : List Nat) (K G : Nat → Nat) (Q : Nat → Nat → Option Nat) (hQ : Sv L K G Q) (x0 m0 : Nat) (tx : GT) (tm : GT × Int) (sz : Nat) (I : Nat → Nat → Int32) (J : Nat → Nat → Int64) (hI : Iv L K x0 m0 tx tm I) (p0 : Nat) (hLp0 : p0 ∈ L) (hKp0 : K p0 = 6) (p1 : Int32) : Met l yX6_back (.code yX6_back cX6_back 3 (some .int) :: pw) ({ frames := 6, cells := 0, slots := 0, locals := 152 }) (sP (dC, dI) cs [.ref p0, .int p1] sz L K I J Q) (va_Qi (fun (r : Int32) (_ : Unit) => (∀ σ : Sx, cxA Q I J p0 σ → r.toInt = (bkA σ p1).1)) (fun _ t => sB (dC, dI) cs L K Q (fun I1 J1 => Iv L K x0 m0 tx tm I1 ∧ (∀ b, K b = 7 ∨ K b = 18 ∨ K b = 19 ∨ K b = 20 ∨ K b = 24 → I1 b = I b) ∧ (∀ σ : Sx, cxA Q I J p0 σ → cxA Q I1 J1 p0 (bkA σ p1).2) ∧ (∀ b, ¬ (K b = 12 ∧ (G b / 100 = 1 ∨ G b / 100 = 2)) → J1 b = J b)) t) (fun q => q ∈ L ∨ sz ≤ q)) 0 0 (fun q => q ∈ L ∨ sz ≤ q) := by
  refine Met.ofW (cc := cX6_back) (maxL := 3) (ret := (some .int)) (by decide +kernel) rfl ?_
  intro p e s m args below meth c s₁ B hml hv
  obtain ⟨rfl, hsz, hP, hK, hD0, hN⟩ := hv
  have hx := B.exec
  have hb := B.bytes
  have hr := B.returns
  have hts := fun w (h : w ∈ pw) => atoms_spec (ws := Cond.code yX6_back cX6_back 3 (some .int) :: pw) B.pre w (List.mem_cons_of_mem _ h)
  have hown : s.vm.findClass RX6 = some m.cls := findClass_of_methodNamed B.named
  have hlocks := B.notSynchronized
  subst hsz
  have hBB : 999 ≤ tm.2 ∧ tm.2 ≤ 6000000 := hI.2.2.2.2.1
  have dn_I : (∀ b, K b = 7 ∨ K b = 18 ∨ K b = 19 ∨ K b = 20 ∨ K b = 24 → I b = I b) := fun _ _ => rfl
  have dj_J : (∀ b, ¬ (K b = 12 ∧ (G b / 100 = 1 ∨ G b / 100 = 2)) → J b = J b) := fun _ _ => rfl
  obtain ⟨A, hAe⟩ : ∃ A : Nat → Prop, A = (fun q => q ∈ L ∨ s.heap.size ≤ q) := ⟨_, rfl⟩
  rw [← hAe]
  have hAL : ∀ q, q ∈ L → A q := fun q h => by rw [hAe]; exact Or.inl h
  have hA : ∀ q, s.heap.size ≤ q → A q := fun q h => by rw [hAe]; exact Or.inr h
  have hD : ∀ F, va_D A (va_pl L F) := fun F => (hD0 F).weaken (fun k q hk _ => hAL _ (pl_mem hk))
  obtain ⟨H, hHe⟩ : ∃ H : Heap, H = s.heap := ⟨_, rfl⟩
  have hS : va_S A s.heap H [] := by rw [hHe]; exact va_S.rf
  rw [← hHe] at hP
  have hl := lv_entry ([.ref p0, .int p1]) (n := 3) (Nat.le_of_ble_eq_true rfl)
  rw [lg_entry_eq]
  generalize (lg_sl ([.ref p0, .int p1]) ++ List.replicate (3 - (lg_sl ([.ref p0, .int p1])).length) Slot.unset).toArray = ls at hl ⊢
  have hl : lv_has ls 3 [(0, .ref p0), (1, .int p1)] := hl
  rw [← hHe]
  refine namedW (fun R Qz hR hQz => ?_)
  refine lv_iload_n hx hb dX6_back_0 rfl (lv_at hl 1 rfl) ?_
  refine lv_iconst (v := 1) hx hb dX6_back_1 (by decide +kernel) ?_
  refine ro_i (va_runS (As := [.int p1, .int 1]) (rest := []) ⟨hx, hb, hml, hown, hts⟩ (s_X6_isFrom0To l dC dI cs L K G Q hQ x0 m0 tx tm H.size I J hI p1 1) (va_cwS 2 hts (gS pq651 pq652 pq74 pq653) rfl rfl rfl (by decide +kernel) ⟨(by rw [hR]; exact (Nat.le_of_ble_eq_true rfl)), (by rw [hR]; exact (Nat.le_of_ble_eq_true rfl))⟩) (sP_S hP hD hK hN) rfl rfl hl.1 rfl (lv_room (Nat.le_of_ble_eq_true rfl)) dX6_back_2 ⟨(by rw [hR]; exact (Nat.le_of_ble_eq_true rfl)), (by rw [hR]; exact (Nat.le_of_ble_eq_true rfl))⟩) hS hP (fun z2 H locs hz2 hP hS => ?_)
  have cst2_1 : (1 : Int32).toInt = 1 := by decide +kernel
  obtain ⟨bz2, imz2, xpz2⟩ := hz2
  try rw [cst2_1] at xpz2
  refine lv_if_ne (tgt := 10) hx hb dX6_back_5 (by decide) (fun c5 => ?_) (fun c5 => ?_)
  · have t5 := tq_ne (k := z2.toInt) (q := (0)) c5 rfl (by decide +kernel)
    have i5 := imz2 t5
    refine lv_aload_n hx hb dX6_back_10 rfl (lv_at hl 0 rfl) ?_
    obtain ⟨y11, ey11, hLy11, hKy11⟩ := oQ_6_11 (Sv_at hQ hLp0 hKp0)
    refine p_get (v := .ref y11) hx hb hts inX6 hown hK hP hLp0 hKp0 rfl rfl 11 (by decide) (hts _ pq360) (congrArg (fun q => some (va_rf q)) ey11) dX6_back_11 ?_
    refine lv_iload_n hx hb dX6_back_14 rfl (lv_at hl 1 rfl) ?_
    rcases (Sv_at hQ hLy11 hKy11) p1.toNatClampNeg (clamp_lt (n := 2) (in_of (by omega) (by omega))) with en15 | ⟨y15, ey15, hLy15, hKy15, hGy15⟩
    · refine p_aaldN hx hb hK hP 7 hLy11 hKy11 rfl rfl (in_of (by omega) (by omega)) en15 dX6_back_15 ?_
      refine lv_astore_nN (lv' := [(2, .null), (0, .ref p0), (1, .int p1)]) hx hb dX6_back_16 rfl hl (by decide) rfl (fun ls hl => ?_)
      refine lv_aload_nN hx hb dX6_back_17 rfl (lv_at hl 0 rfl) ?_
      refine lv_ifnonnullN hx hb dX6_back_18 ?_
      refine lv_bipush (v := (-2)) hx hb dX6_back_21 (by decide +kernel) ?_
      subst hR; subst hQz
      exact W.iret (v := (-2)) hx hb hr (fun t ht hW => ⟨⟨(-2), (), rfl, (fun σ h => by rcases h.1.2.2.2.1 p1.toInt.toNat (by omega) with ⟨z1, z2⟩ | ⟨F, c, z1, z2, z3, z4⟩; (rw [bk_e ⟨by omega, by omega⟩ z2]; show (-2 : Int32).toInt = -2; decide +kernel); (rw [show sa Q p0 = y11 from gd_of ey11, show Q y11 p1.toInt.toNat = none from en15] at z1; cases z1)), ⟨I, J, ⟨hI, dn_I, (fun σ h => by rcases h.1.2.2.2.1 p1.toInt.toNat (by omega) with ⟨z1, z2⟩ | ⟨F, c, z1, z2, z3, z4⟩; (rw [bk_e ⟨by omega, by omega⟩ z2]; exact h); (rw [show sa Q p0 = y11 from gd_of ey11, show Q y11 p1.toInt.toNat = none from en15] at z1; cases z1)), dj_J⟩, by rw [ht]; exact hP⟩⟩, hS.F ht⟩) hS.2.2 dX6_back_23
    · have hNy15 : 6 ≤ G y15 ∧ G y15 < 8 := by (have hj := clamp_lt (i := p1) (n := 2) (in_of (by omega) (by omega))); omega
      refine p_aaldR hx hb hK hP 7 hLy11 hKy11 rfl rfl (in_of (by omega) (by omega)) ey15 dX6_back_15 ?_
      refine lv_astore_n (lv' := [(2, .ref y15), (0, .ref p0), (1, .int p1)]) hx hb dX6_back_16 rfl hl (by decide) rfl (fun ls hl => ?_)
      refine lv_aload_n hx hb dX6_back_17 rfl (lv_at hl 0 rfl) ?_
      refine lv_ifnonnull (tgt := 24) hx hb dX6_back_18 (by decide) ?_
      refine lv_aload_n hx hb dX6_back_24 rfl (lv_at hl 1 rfl) ?_
      refine lv_aload_n hx hb dX6_back_25 rfl (lv_at hl 0 rfl) ?_
      refine sw_v (Z := (fun I1 J1 => Iv L K x0 m0 tx tm I1 ∧ (∀ yn, Q p0 2 = some yn → I1 yn 3 = I y15 3) ∧ (∀ b, K b = 7 ∨ K b = 18 ∨ K b = 19 ∨ K b = 20 ∨ K b = 24 → I1 b = I b) ∧ (∀ (σ : Sx) (c : Fx), neF 1 (G y15) → cxH Q I J p0 σ → okF c → cxF Q I J y15 c → cxA Q I1 J1 p0 (c, 0, σ.2.2)) ∧ (∀ b, ¬ (K b = 12 ∧ (G b / 100 = 1 ∨ G b / 100 = 2)) → J1 b = J b))) (va_runV (As := [.ref y15]) (rest := []) ⟨hx, hb, hml, hown, hts⟩ (s_X6_replaceBy l dC dI cs L K G Q hQ x0 m0 tx tm H.size I J hI p0 hLp0 hKp0 y15 hLy15 hKy15) (cwV 1 hts (gV pq585 pq587 pq1 pq74 pq588) rfl rfl rfl (by decide +kernel) ⟨(by rw [hR]; exact (Nat.le_of_ble_eq_true rfl)), (by rw [hR]; exact (Nat.le_of_ble_eq_true rfl))⟩) (sP_V hP hD hK hN hLp0 hKp0 rfl rfl) rfl rfl hl.1 rfl (lv_room (Nat.le_of_ble_eq_true rfl)) dX6_back_26 ⟨(by rw [hR]; exact (Nat.le_of_ble_eq_true rfl)), (by rw [hR]; exact (Nat.le_of_ble_eq_true rfl))⟩) hS hAL hA (fun Iz26 Jz26 H locs hz26 hIz26 hP hS => ?_)
      obtain ⟨hIz26, fz26, dnc26, jz26, djc26⟩ := hIz26
      have dj_Jz26 : (∀ b, ¬ (K b = 12 ∧ (G b / 100 = 1 ∨ G b / 100 = 2)) → Jz26 b = J b) := fun b hc => (djc26 b (fun z => hc (by exact ⟨z.1, by have z2 := z.2; omega⟩))).trans (dj_J b hc)
      have dn_Iz26 : (∀ b, K b = 7 ∨ K b = 18 ∨ K b = 19 ∨ K b = 20 ∨ K b = 24 → Iz26 b = I b) := fun b hc => (dnc26 b (by omega)).trans (dn_I b hc)
      refine lv_aload_n hx hb dX6_back_29 rfl (lv_at hl 1 rfl) ?_
      obtain ⟨y30, ey30, hLy30, hKy30, hGy30⟩ := oQ_6_2 (Sv_at hQ hLp0 hKp0)
      refine p_get (v := .ref y30) hx hb hts inX6 hown hK hP hLp0 hKp0 rfl rfl 2 (by decide) (hts _ pq351) (congrArg (fun q => some (va_rf q)) ey30) dX6_back_30 ?_
      refine p_get hx hb hts inX1 hown hK hP hLy30 hKy30 rfl rfl 3 (by decide) (hts _ pq226) rfl dX6_back_33 ?_
      refine lv_topi (fun z33 ez33 => ?_)
      have cgz33 := congrArg Int32.toInt ez33
      have bz33 := oI_1_3 (Iv_at hIz26 hLy30 hKy30)
      rw [← ez33] at bz33
      subst hR; subst hQz
      exact W.iret (v := z33) hx hb hr (fun t ht hW => ⟨⟨z33, (), rfl, (fun σ h => by rcases h.1.2.2.2.1 p1.toInt.toNat (by omega) with ⟨z1, z2⟩ | ⟨F, c, z1, z2, z3, z4⟩; (rw [show sa Q p0 = y11 from gd_of ey11, show Q y11 p1.toInt.toNat = some y15 from ey15] at z1; cases z1); (rw [show sa Q p0 = y11 from gd_of ey11] at z1; obtain rfl : y15 = F := Option.some.inj ((show Q y11 p1.toInt.toNat = some y15 from ey15).symm.trans z1); rw [bk_y ⟨by omega, by omega⟩ z2]; show z33.toInt = (c.1 1).toInt; rw [ez33, fz26 y30 ey30, z4.2.1])), ⟨Iz26, Jz26, ⟨hIz26, dn_Iz26, (fun σ h => by rcases h.1.2.2.2.1 p1.toInt.toNat (by omega) with ⟨z1, z2⟩ | ⟨F, c, z1, z2, z3, z4⟩; (rw [show sa Q p0 = y11 from gd_of ey11, show Q y11 p1.toInt.toNat = some y15 from ey15] at z1; cases z1); (rw [show sa Q p0 = y11 from gd_of ey11] at z1; obtain rfl : y15 = F := Option.some.inj ((show Q y11 p1.toInt.toNat = some y15 from ey15).symm.trans z1); rw [bk_y ⟨by omega, by omega⟩ z2]; exact jz26 σ c (by have := hNy15; exact ⟨⟨by omega, by omega, by omega⟩, by omega, by omega⟩) h.1 z3 z4)), dj_Jz26⟩, by rw [ht]; exact hP⟩⟩, hS.F ht⟩) hS.2.2 dX6_back_36
  · have t5 := tq_eq (k := z2.toInt) (q := (0)) c5 rfl (by decide +kernel)
    refine lv_iconst (v := (-1)) hx hb dX6_back_8 (by decide +kernel) ?_
    subst hR; subst hQz
    exact W.iret (v := (-1)) hx hb hr (fun t ht hW => ⟨⟨(-1), (), rfl, (fun σ h => by rw [bk_n (fun q => xpz2 t5 q)]; show (-1 : Int32).toInt = -1; decide +kernel), ⟨I, J, ⟨hI, dn_I, (fun σ h => by rw [bk_n (fun q => xpz2 t5 q)]; exact h), dj_J⟩, by rw [ht]; exact hP⟩⟩, hS.F ht⟩) hS.2.2 dX6_back_9

set_option maxHeartbeats 4000000 in
set_option maxRecDepth 100000 in
theorem s_X6_cutLeft (l : Launch) (dC : Nat → ClassId) (dI : Nat → Nat → Nat) (cs : Nat → ClassId) (L : List Nat) (K G : Nat → Nat) (Q : Nat → Nat → Option Nat) (hQ : Sv L K G Q) (x0 m0 : Nat) (tx : GT) (tm : GT × Int) (sz : Nat) (I : Nat → Nat → Int32) (J : Nat → Nat → Int64) (hI : Iv L K x0 m0 tx tm I) (p0 : Nat) (hLp0 : p0 ∈ L) (hKp0 : K p0 = 3) (p1 : Int32) : Met l yX6_cutLeft (.code yX6_cutLeft cX6_cutLeft 2 (some .int) :: pw) ({ frames := 0, cells := 0, slots := 0, locals := 0 }) (sP (dC, dI) cs [.ref p0, .int p1] sz L K I J Q) (va_Qi (fun (r : Int32) (_ : Unit) => ((-500) ≤ r.toInt ∧ r.toInt ≤ 500) ∧ ((0 ≤ p1.toInt ∧ p1.toInt ≤ 3) → r.toInt = cutL p1.toInt (I p0 0).toInt (I p0 4).toInt (I p0 6).toInt)) (fun _ _ => True) (fun _ => False)) 0 0 (fun _ => False) := by
  refine Met.ofW (cc := cX6_cutLeft) (maxL := 2) (ret := (some .int)) (by decide +kernel) rfl ?_
  intro p e s m args below meth c s₁ B hml hv
  obtain ⟨rfl, hsz, hP, hK, hD0, hN⟩ := hv
  have hx := B.exec
  have hb := B.bytes
  have hr := B.returns
  have hts := fun w (h : w ∈ pw) => atoms_spec (ws := Cond.code yX6_cutLeft cX6_cutLeft 2 (some .int) :: pw) B.pre w (List.mem_cons_of_mem _ h)
  have hown : s.vm.findClass RX6 = some m.cls := findClass_of_methodNamed B.named
  have hlocks := B.notSynchronized
  subst hsz
  have hBB : 999 ≤ tm.2 ∧ tm.2 ≤ 6000000 := hI.2.2.2.2.1
  have hD := hD0
  obtain ⟨H, hHe⟩ : ∃ H : Heap, H = s.heap := ⟨_, rfl⟩
  have hS : va_S (fun _ => False) s.heap H [] := by rw [hHe]; exact va_S.rf
  rw [← hHe] at hP
  have hl := lv_entry ([.ref p0, .int p1]) (n := 2) (Nat.le_of_ble_eq_true rfl)
  rw [lg_entry_eq]
  generalize (lg_sl ([.ref p0, .int p1]) ++ List.replicate (2 - (lg_sl ([.ref p0, .int p1])).length) Slot.unset).toArray = ls at hl ⊢
  have hl : lv_has ls 2 [(0, .ref p0), (1, .int p1)] := hl
  rw [← hHe]
  refine namedW (fun R Qz hR hQz => ?_)
  refine lv_iload_n hx hb dX6_cutLeft_0 rfl (lv_at hl 1 rfl) ?_
  refine lv_iconst (v := 1) hx hb dX6_cutLeft_1 (by decide +kernel) ?_
  refine lv_iand hx hb dX6_cutLeft_2 ?_
  refine lv_topi (fun z2 ez2 => ?_)
  have bz2 := tq_and 1 ez2 (by decide +kernel) (by decide)
  refine lv_if_ne (tgt := 13) hx hb dX6_cutLeft_3 (by decide) (fun c3 => ?_) (fun c3 => ?_)
  · have t3 := tq_ne (k := z2.toInt) (q := (0)) c3 rfl (by decide +kernel)
    refine lv_aload_n hx hb dX6_cutLeft_13 rfl (lv_at hl 0 rfl) ?_
    refine p_get hx hb hts inX3 hown hK hP hLp0 hKp0 rfl rfl 0 (by decide) (hts _ pq119) rfl dX6_cutLeft_14 ?_
    refine lv_topi (fun z14 ez14 => ?_)
    have bz14 := oI_3_0 (Iv_at hI hLp0 hKp0)
    rw [← ez14] at bz14
    refine lv_iconst (v := 1) hx hb dX6_cutLeft_17 (by decide +kernel) ?_
    refine lv_isub hx hb dX6_cutLeft_18 ?_
    refine lv_topi (fun z18 ez18 => ?_)
    have bz18 := tq_sub (k := z14.toInt) (q := (1)) ez18 rfl (by decide +kernel) (by omega) (by omega)
    refine lv_aload_n hx hb dX6_cutLeft_19 rfl (lv_at hl 0 rfl) ?_
    refine p_get hx hb hts inX3 hown hK hP hLp0 hKp0 rfl rfl 6 (by decide) (hts _ pq141) rfl dX6_cutLeft_20 ?_
    refine lv_topi (fun z20 ez20 => ?_)
    have bz20 := oI_3_6 (Iv_at hI hLp0 hKp0)
    rw [← ez20] at bz20
    refine lv_isub hx hb dX6_cutLeft_23 ?_
    refine lv_topi (fun z23 ez23 => ?_)
    have bz23 := tq_sub (k := z18.toInt) (q := z20.toInt) ez23 rfl rfl (by omega) (by omega)
    subst hR; subst hQz
    exact W.iret (v := z23) hx hb hr (fun t ht hW => ⟨⟨z23, (), rfl, ⟨⟨by omega, by omega⟩, (fun hb => by have q := and1 ez2 hb; unfold cutL; rw [if_pos (by omega), ← ez14, ← ez20]; omega)⟩, trivial⟩, hS.F ht⟩) hS.2.2 dX6_cutLeft_24
  · have t3 := tq_eq (k := z2.toInt) (q := (0)) c3 rfl (by decide +kernel)
    refine lv_aload_n hx hb dX6_cutLeft_6 rfl (lv_at hl 0 rfl) ?_
    refine p_get hx hb hts inX3 hown hK hP hLp0 hKp0 rfl rfl 4 (by decide) (hts _ pq135) rfl dX6_cutLeft_7 ?_
    refine lv_topi (fun z7 ez7 => ?_)
    have bz7 := oI_3_4 (Iv_at hI hLp0 hKp0)
    rw [← ez7] at bz7
    refine lv_goto (tgt := 24) hx hb dX6_cutLeft_10 (by decide) ?_
    subst hR; subst hQz
    exact W.iret (v := z7) hx hb hr (fun t ht hW => ⟨⟨z7, (), rfl, ⟨⟨by omega, by omega⟩, (fun hb => by have q := and1 ez2 hb; unfold cutL; rw [if_neg (by omega), ez7])⟩, trivial⟩, hS.F ht⟩) hS.2.2 dX6_cutLeft_24

set_option maxHeartbeats 4000000 in
set_option maxRecDepth 100000 in
theorem s_X6_cutAbove (l : Launch) (dC : Nat → ClassId) (dI : Nat → Nat → Nat) (cs : Nat → ClassId) (L : List Nat) (K G : Nat → Nat) (Q : Nat → Nat → Option Nat) (hQ : Sv L K G Q) (x0 m0 : Nat) (tx : GT) (tm : GT × Int) (sz : Nat) (I : Nat → Nat → Int32) (J : Nat → Nat → Int64) (hI : Iv L K x0 m0 tx tm I) (p0 : Nat) (hLp0 : p0 ∈ L) (hKp0 : K p0 = 3) (p1 : Int32) : Met l yX6_cutAbove (.code yX6_cutAbove cX6_cutAbove 2 (some .int) :: pw) ({ frames := 0, cells := 0, slots := 0, locals := 0 }) (sP (dC, dI) cs [.ref p0, .int p1] sz L K I J Q) (va_Qi (fun (r : Int32) (_ : Unit) => ((-500) ≤ r.toInt ∧ r.toInt ≤ 500) ∧ ((0 ≤ p1.toInt ∧ p1.toInt ≤ 3) → r.toInt = cutA p1.toInt (I p0 1).toInt (I p0 5).toInt (I p0 7).toInt)) (fun _ _ => True) (fun _ => False)) 0 0 (fun _ => False) := by
  refine Met.ofW (cc := cX6_cutAbove) (maxL := 2) (ret := (some .int)) (by decide +kernel) rfl ?_
  intro p e s m args below meth c s₁ B hml hv
  obtain ⟨rfl, hsz, hP, hK, hD0, hN⟩ := hv
  have hx := B.exec
  have hb := B.bytes
  have hr := B.returns
  have hts := fun w (h : w ∈ pw) => atoms_spec (ws := Cond.code yX6_cutAbove cX6_cutAbove 2 (some .int) :: pw) B.pre w (List.mem_cons_of_mem _ h)
  have hown : s.vm.findClass RX6 = some m.cls := findClass_of_methodNamed B.named
  have hlocks := B.notSynchronized
  subst hsz
  have hBB : 999 ≤ tm.2 ∧ tm.2 ≤ 6000000 := hI.2.2.2.2.1
  have hD := hD0
  obtain ⟨H, hHe⟩ : ∃ H : Heap, H = s.heap := ⟨_, rfl⟩
  have hS : va_S (fun _ => False) s.heap H [] := by rw [hHe]; exact va_S.rf
  rw [← hHe] at hP
  have hl := lv_entry ([.ref p0, .int p1]) (n := 2) (Nat.le_of_ble_eq_true rfl)
  rw [lg_entry_eq]
  generalize (lg_sl ([.ref p0, .int p1]) ++ List.replicate (2 - (lg_sl ([.ref p0, .int p1])).length) Slot.unset).toArray = ls at hl ⊢
  have hl : lv_has ls 2 [(0, .ref p0), (1, .int p1)] := hl
  rw [← hHe]
  refine namedW (fun R Qz hR hQz => ?_)
  refine lv_iload_n hx hb dX6_cutAbove_0 rfl (lv_at hl 1 rfl) ?_
  refine lv_iconst (v := 2) hx hb dX6_cutAbove_1 (by decide +kernel) ?_
  refine lv_iand hx hb dX6_cutAbove_2 ?_
  refine lv_topi (fun z2 ez2 => ?_)
  refine lv_if_ne (tgt := 13) hx hb dX6_cutAbove_3 (by decide) (fun c3 => ?_) (fun c3 => ?_)
  · have t3 := tq_ne (k := z2.toInt) (q := (0)) c3 rfl (by decide +kernel)
    refine lv_aload_n hx hb dX6_cutAbove_13 rfl (lv_at hl 0 rfl) ?_
    refine p_get hx hb hts inX3 hown hK hP hLp0 hKp0 rfl rfl 1 (by decide) (hts _ pq123) rfl dX6_cutAbove_14 ?_
    refine lv_topi (fun z14 ez14 => ?_)
    have bz14 := oI_3_1 (Iv_at hI hLp0 hKp0)
    rw [← ez14] at bz14
    refine lv_iconst (v := 1) hx hb dX6_cutAbove_17 (by decide +kernel) ?_
    refine lv_isub hx hb dX6_cutAbove_18 ?_
    refine lv_topi (fun z18 ez18 => ?_)
    have bz18 := tq_sub (k := z14.toInt) (q := (1)) ez18 rfl (by decide +kernel) (by omega) (by omega)
    refine lv_aload_n hx hb dX6_cutAbove_19 rfl (lv_at hl 0 rfl) ?_
    refine p_get hx hb hts inX3 hown hK hP hLp0 hKp0 rfl rfl 7 (by decide) (hts _ pq144) rfl dX6_cutAbove_20 ?_
    refine lv_topi (fun z20 ez20 => ?_)
    have bz20 := oI_3_7 (Iv_at hI hLp0 hKp0)
    rw [← ez20] at bz20
    refine lv_isub hx hb dX6_cutAbove_23 ?_
    refine lv_topi (fun z23 ez23 => ?_)
    have bz23 := tq_sub (k := z18.toInt) (q := z20.toInt) ez23 rfl rfl (by omega) (by omega)
    subst hR; subst hQz
    exact W.iret (v := z23) hx hb hr (fun t ht hW => ⟨⟨z23, (), rfl, ⟨⟨by omega, by omega⟩, (fun hb => by have q := and2 ez2 hb; unfold cutA; rw [if_pos (by omega), ← ez14, ← ez20]; omega)⟩, trivial⟩, hS.F ht⟩) hS.2.2 dX6_cutAbove_24
  · have t3 := tq_eq (k := z2.toInt) (q := (0)) c3 rfl (by decide +kernel)
    refine lv_aload_n hx hb dX6_cutAbove_6 rfl (lv_at hl 0 rfl) ?_
    refine p_get hx hb hts inX3 hown hK hP hLp0 hKp0 rfl rfl 5 (by decide) (hts _ pq138) rfl dX6_cutAbove_7 ?_
    refine lv_topi (fun z7 ez7 => ?_)
    have bz7 := oI_3_5 (Iv_at hI hLp0 hKp0)
    rw [← ez7] at bz7
    refine lv_goto (tgt := 24) hx hb dX6_cutAbove_10 (by decide) ?_
    subst hR; subst hQz
    exact W.iret (v := z7) hx hb hr (fun t ht hW => ⟨⟨z7, (), rfl, ⟨⟨by omega, by omega⟩, (fun hb => by have q := and2 ez2 hb; unfold cutA; rw [if_neg (by omega), ez7])⟩, trivial⟩, hS.F ht⟩) hS.2.2 dX6_cutAbove_24

set_option maxHeartbeats 4000000 in
set_option maxRecDepth 100000 in
theorem s_X6_mask (l : Launch) (dC : Nat → ClassId) (dI : Nat → Nat → Nat) (cs : Nat → ClassId) (L : List Nat) (K G : Nat → Nat) (Q : Nat → Nat → Option Nat) (hQ : Sv L K G Q) (x0 m0 : Nat) (tx : GT) (tm : GT × Int) (sz : Nat) (I : Nat → Nat → Int32) (J : Nat → Nat → Int64) (hI : Iv L K x0 m0 tx tm I) (p0 : Nat) (hLp0 : p0 ∈ L) (hKp0 : K p0 = 6) (p1 : Int32) (p2 : Int32) : Met l yX6_mask (.code yX6_mask cX6_mask 4 (some .int) :: pw) ({ frames := 5, cells := 0, slots := 0, locals := 114 }) (sP (dC, dI) cs [.ref p0, .int p1, .int p2] sz L K I J Q) (va_Qi (fun (r : Int32) (_ : Unit) => (∀ σ : Sx, cxA Q I J p0 σ → maR σ p1 p2 r)) (fun _ t => sB (dC, dI) cs L K Q (fun I1 J1 => Iv L K x0 m0 tx tm I1 ∧ (∀ b, ¬ (K b = 2 ∨ K b = 5 ∨ K b = 11 ∨ (K b = 3 ∧ G b / 100 = 4)) → I1 b = I b) ∧ (∀ b, K b = 7 ∨ K b = 18 ∨ K b = 19 ∨ K b = 20 ∨ K b = 24 → I1 b = I b) ∧ (∀ σ : Sx, cxA Q I J p0 σ → cxA Q I1 J1 p0 σ) ∧ (∀ b, ¬ (K b = 12 ∧ (G b = 401)) → J1 b = J b)) t) (fun q => q ∈ L ∨ sz ≤ q)) 0 0 (fun q => q ∈ L ∨ sz ≤ q) := by
  refine Met.ofW (cc := cX6_mask) (maxL := 4) (ret := (some .int)) (by decide +kernel) rfl ?_
  intro p e s m args below meth c s₁ B hml hv
  obtain ⟨rfl, hsz, hP, hK, hD0, hN⟩ := hv
  have hx := B.exec
  have hb := B.bytes
  have hr := B.returns
  have hts := fun w (h : w ∈ pw) => atoms_spec (ws := Cond.code yX6_mask cX6_mask 4 (some .int) :: pw) B.pre w (List.mem_cons_of_mem _ h)
  have hown : s.vm.findClass RX6 = some m.cls := findClass_of_methodNamed B.named
  have hlocks := B.notSynchronized
  subst hsz
  have hBB : 999 ≤ tm.2 ∧ tm.2 ≤ 6000000 := hI.2.2.2.2.1
  have dn_I : (∀ b, K b = 7 ∨ K b = 18 ∨ K b = 19 ∨ K b = 20 ∨ K b = 24 → I b = I b) := fun _ _ => rfl
  have dj_J : (∀ b, ¬ (K b = 12 ∧ (G b = 401)) → J b = J b) := fun _ _ => rfl
  have fr_I : ∀ b, ¬ (K b = 2 ∨ K b = 5 ∨ K b = 11 ∨ (K b = 3 ∧ G b / 100 = 4)) → I b = I b := fun _ _ => rfl
  obtain ⟨A, hAe⟩ : ∃ A : Nat → Prop, A = (fun q => q ∈ L ∨ s.heap.size ≤ q) := ⟨_, rfl⟩
  rw [← hAe]
  have hAL : ∀ q, q ∈ L → A q := fun q h => by rw [hAe]; exact Or.inl h
  have hA : ∀ q, s.heap.size ≤ q → A q := fun q h => by rw [hAe]; exact Or.inr h
  have hD : ∀ F, va_D A (va_pl L F) := fun F => (hD0 F).weaken (fun k q hk _ => hAL _ (pl_mem hk))
  obtain ⟨H, hHe⟩ : ∃ H : Heap, H = s.heap := ⟨_, rfl⟩
  have hS : va_S A s.heap H [] := by rw [hHe]; exact va_S.rf
  rw [← hHe] at hP
  have hl := lv_entry ([.ref p0, .int p1, .int p2]) (n := 4) (Nat.le_of_ble_eq_true rfl)
  rw [lg_entry_eq]
  generalize (lg_sl ([.ref p0, .int p1, .int p2]) ++ List.replicate (4 - (lg_sl ([.ref p0, .int p1, .int p2])).length) Slot.unset).toArray = ls at hl ⊢
  have hl : lv_has ls 4 [(0, .ref p0), (1, .int p1), (2, .int p2)] := hl
  rw [← hHe]
  refine namedW (fun R Qz hR hQz => ?_)
  refine lv_aload_n hx hb dX6_mask_0 rfl (lv_at hl 0 rfl) ?_
  refine lv_iload_n hx hb dX6_mask_1 rfl (lv_at hl 1 rfl) ?_
  refine ro_i (va_runV (As := [.int p1]) (rest := []) ⟨hx, hb, hml, hown, hts⟩ (s_X6_isMask l dC dI cs L K G Q hQ x0 m0 tx tm H.size I J hI p0 hLp0 hKp0 p1) (cwV 1 hts (gV pq666 pq668 pq4 pq74 pq669) rfl rfl rfl (by decide +kernel) ⟨(by rw [hR]; exact (Nat.le_of_ble_eq_true rfl)), (by rw [hR]; exact (Nat.le_of_ble_eq_true rfl))⟩) (sP_V hP hD hK hN hLp0 hKp0 rfl rfl) rfl rfl hl.1 rfl (lv_room (Nat.le_of_ble_eq_true rfl)) dX6_mask_2 ⟨(by rw [hR]; exact (Nat.le_of_ble_eq_true rfl)), (by rw [hR]; exact (Nat.le_of_ble_eq_true rfl))⟩) hS hP (fun z2 H locs hz2 hP hS => ?_)
  obtain ⟨bz2, imz2, xpz2⟩ := hz2
  refine lv_if_ne (tgt := 10) hx hb dX6_mask_5 (by decide) (fun c5 => ?_) (fun c5 => ?_)
  · have t5 := tq_ne (k := z2.toInt) (q := (0)) c5 rfl (by decide +kernel)
    have i5 := imz2 t5
    refine lv_aload_n hx hb dX6_mask_10 rfl (lv_at hl 0 rfl) ?_
    obtain ⟨y11, ey11, hLy11, hKy11, hGy11⟩ := oQ_6_2 (Sv_at hQ hLp0 hKp0)
    refine p_get (v := .ref y11) hx hb hts inX6 hown hK hP hLp0 hKp0 rfl rfl 2 (by decide) (hts _ pq351) (congrArg (fun q => some (va_rf q)) ey11) dX6_mask_11 ?_
    obtain ⟨y14, ey14, hLy14, hKy14, hGy14⟩ := oQ_1_0 (Sv_at hQ hLy11 hKy11)
    refine p_get (v := .ref y14) hx hb hts inX1 hown hK hP hLy11 hKy11 rfl rfl 0 (by decide) (hts _ pq216) (congrArg (fun q => some (va_rf q)) ey14) dX6_mask_14 ?_
    refine lv_iload_n hx hb dX6_mask_17 rfl (lv_at hl 1 rfl) ?_
    obtain ⟨y18, ey18, hLy18, hKy18, hGy18⟩ := (Sv_at hQ hLy14 hKy14).1 p1.toNatClampNeg (clamp_lt (n := 8) (in_of (by omega) (by omega)))
    have hjy18 : p1.toNatClampNeg < 8 := clamp_lt (i := p1) (n := 8) (in_of (by omega) (by omega))
    refine p_aaldR hx hb hK hP 3 hLy14 hKy14 rfl rfl (in_of (by omega) (by omega)) ey18 dX6_mask_18 ?_
    refine lv_astore_n (lv' := [(3, .ref y18), (0, .ref p0), (1, .int p1), (2, .int p2)]) hx hb dX6_mask_19 rfl hl (by decide) rfl (fun ls hl => ?_)
    refine lv_iload_n hx hb dX6_mask_20 rfl (lv_at hl 3 rfl) ?_
    refine lv_topi (fun z21 ez21 => ?_)
    rcases sw10 z21 with rfl | rfl | rfl | rfl | rfl | rfl | rfl | rfl | rfl | rfl | hsw21
    · refine lv_tableIn (off := 55) (tgt := 76) hx hb dX6_mask_21 (by decide +kernel) (by decide +kernel) (by decide +kernel) (by decide) ?_
      have sv21 : p2.toInt = 0 := by rw [← ez21]; decide +kernel
      refine lv_aload_n hx hb dX6_mask_76 rfl (lv_at hl 0 rfl) ?_
      refine p_get hx hb hts inX3 hown hK hP hLy18 hKy18 rfl rfl 0 (by decide) (hts _ pq119) rfl dX6_mask_77 ?_
      refine lv_topi (fun z77 ez77 => ?_)
      have bz77 := oI_3_0 (Iv_at hI hLy18 hKy18)
      rw [← ez77] at bz77
      subst hR; subst hQz
      exact W.iret (v := z77) hx hb hr (fun t ht hW => ⟨⟨z77, (), rfl, (fun σ h => by have q := xpz2.1 t5; rw [cx_0 h] at q; have c := cxA_m (m := p1) h q; rw [show fm Q (an Q p0) p1.toInt.toNat = y18 from (by rw [show an Q p0 = y11 from gd_of ey11]; exact fm_of ey14 ey18)] at c; have k := cxM_ok c.1 c.2; have o1 := c.2.1; have o2 := c.2.2.1; have eW := congrArg Int32.toInt c.1.1; have eH := congrArg Int32.toInt c.1.2.1; have M := c.1.2.2.2; have e21 := congrArg Int32.toInt ez21; (first | rw [show (0 : Int32).toInt = 0 from by decide +kernel] at e21 | skip); exact ⟨fun _ => mk0 (by omega) ((congrArg Int32.toInt ez77).trans eW), fun w => absurd q w⟩), ⟨I, J, ⟨hI, fr_I, dn_I, (fun σ A => cxA_scr hQ hLp0 hKp0 fr_I (fun _ _ _ => rfl) A), dj_J⟩, by rw [ht]; exact hP⟩⟩, hS.F ht⟩) hS.2.2 dX6_mask_80
    · refine lv_tableIn (off := 60) (tgt := 81) hx hb dX6_mask_21 (by decide +kernel) (by decide +kernel) (by decide +kernel) (by decide) ?_
      have sv21 : p2.toInt = 1 := by rw [← ez21]; decide +kernel
      refine lv_aload_n hx hb dX6_mask_81 rfl (lv_at hl 0 rfl) ?_
      refine p_get hx hb hts inX3 hown hK hP hLy18 hKy18 rfl rfl 1 (by decide) (hts _ pq123) rfl dX6_mask_82 ?_
      refine lv_topi (fun z82 ez82 => ?_)
      have bz82 := oI_3_1 (Iv_at hI hLy18 hKy18)
      rw [← ez82] at bz82
      subst hR; subst hQz
      exact W.iret (v := z82) hx hb hr (fun t ht hW => ⟨⟨z82, (), rfl, (fun σ h => by have q := xpz2.1 t5; rw [cx_0 h] at q; have c := cxA_m (m := p1) h q; rw [show fm Q (an Q p0) p1.toInt.toNat = y18 from (by rw [show an Q p0 = y11 from gd_of ey11]; exact fm_of ey14 ey18)] at c; have k := cxM_ok c.1 c.2; have o1 := c.2.1; have o2 := c.2.2.1; have eW := congrArg Int32.toInt c.1.1; have eH := congrArg Int32.toInt c.1.2.1; have M := c.1.2.2.2; have e21 := congrArg Int32.toInt ez21; (first | rw [show (1 : Int32).toInt = 1 from by decide +kernel] at e21 | skip); exact ⟨fun _ => mk1 (by omega) ((congrArg Int32.toInt ez82).trans eH), fun w => absurd q w⟩), ⟨I, J, ⟨hI, fr_I, dn_I, (fun σ A => cxA_scr hQ hLp0 hKp0 fr_I (fun _ _ _ => rfl) A), dj_J⟩, by rw [ht]; exact hP⟩⟩, hS.F ht⟩) hS.2.2 dX6_mask_85
    · refine lv_tableIn (off := 65) (tgt := 86) hx hb dX6_mask_21 (by decide +kernel) (by decide +kernel) (by decide +kernel) (by decide) ?_
      have sv21 : p2.toInt = 2 := by rw [← ez21]; decide +kernel
      refine lv_aload_n hx hb dX6_mask_86 rfl (lv_at hl 0 rfl) ?_
      refine p_get hx hb hts inX3 hown hK hP hLy18 hKy18 rfl rfl 3 (by decide) (hts _ pq132) rfl dX6_mask_87 ?_
      refine lv_topi (fun z87 ez87 => ?_)
      subst hR; subst hQz
      exact W.iret (v := z87) hx hb hr (fun t ht hW => ⟨⟨z87, (), rfl, (fun σ h => by have q := xpz2.1 t5; rw [cx_0 h] at q; have c := cxA_m (m := p1) h q; rw [show fm Q (an Q p0) p1.toInt.toNat = y18 from (by rw [show an Q p0 = y11 from gd_of ey11]; exact fm_of ey14 ey18)] at c; have k := cxM_ok c.1 c.2; have o1 := c.2.1; have o2 := c.2.2.1; have eW := congrArg Int32.toInt c.1.1; have eH := congrArg Int32.toInt c.1.2.1; have M := c.1.2.2.2; have e21 := congrArg Int32.toInt ez21; (first | rw [show (2 : Int32).toInt = 2 from by decide +kernel] at e21 | skip); exact ⟨fun _ => mk2 (by omega) ((congrArg Int32.toInt ez87).trans M.1), fun w => absurd q w⟩), ⟨I, J, ⟨hI, fr_I, dn_I, (fun σ A => cxA_scr hQ hLp0 hKp0 fr_I (fun _ _ _ => rfl) A), dj_J⟩, by rw [ht]; exact hP⟩⟩, hS.F ht⟩) hS.2.2 dX6_mask_90
    · refine lv_tableIn (off := 70) (tgt := 91) hx hb dX6_mask_21 (by decide +kernel) (by decide +kernel) (by decide +kernel) (by decide) ?_
      have sv21 : p2.toInt = 3 := by rw [← ez21]; decide +kernel
      refine lv_aload_n hx hb dX6_mask_91 rfl (lv_at hl 0 rfl) ?_
      refine p_get hx hb hts inX3 hown hK hP hLy18 hKy18 rfl rfl 3 (by decide) (hts _ pq132) rfl dX6_mask_92 ?_
      refine lv_topi (fun z92 ez92 => ?_)
      refine lv_if_ne (tgt := 103) hx hb dX6_mask_95 (by decide) (fun c95 => ?_) (fun c95 => ?_)
      · have t95 := tq_ne (k := z92.toInt) (q := (0)) c95 rfl (by decide +kernel)
        refine lv_aload_n hx hb dX6_mask_103 rfl (lv_at hl 0 rfl) ?_
        refine p_get hx hb hts inX3 hown hK hP hLy18 hKy18 rfl rfl 4 (by decide) (hts _ pq135) rfl dX6_mask_104 ?_
        refine lv_topi (fun z104 ez104 => ?_)
        have bz104 := oI_3_4 (Iv_at hI hLy18 hKy18)
        rw [← ez104] at bz104
        subst hR; subst hQz
        exact W.iret (v := z104) hx hb hr (fun t ht hW => ⟨⟨z104, (), rfl, (fun σ h => by have q := xpz2.1 t5; rw [cx_0 h] at q; have c := cxA_m (m := p1) h q; rw [show fm Q (an Q p0) p1.toInt.toNat = y18 from (by rw [show an Q p0 = y11 from gd_of ey11]; exact fm_of ey14 ey18)] at c; have k := cxM_ok c.1 c.2; have o1 := c.2.1; have o2 := c.2.2.1; have eW := congrArg Int32.toInt c.1.1; have eH := congrArg Int32.toInt c.1.2.1; have M := c.1.2.2.2; have e21 := congrArg Int32.toInt ez21; (first | rw [show (3 : Int32).toInt = 3 from by decide +kernel] at e21 | skip); exact ⟨fun _ => mk3 ⟨by omega, by omega⟩ (Or.inr ⟨((I y18 4).toInt, (I y18 5).toInt, (I y18 6).toInt, (I y18 7).toInt), M.2.1 (by rw [← ez92]; exact t95), by unfold enA; rw [if_pos (by omega)]; exact congrArg Int32.toInt ez104⟩), fun w => absurd q w⟩), ⟨I, J, ⟨hI, fr_I, dn_I, (fun σ A => cxA_scr hQ hLp0 hKp0 fr_I (fun _ _ _ => rfl) A), dj_J⟩, by rw [ht]; exact hP⟩⟩, hS.F ht⟩) hS.2.2 dX6_mask_107
      · have t95 := tq_eq (k := z92.toInt) (q := (0)) c95 rfl (by decide +kernel)
        refine lv_bipush (v := (-2)) hx hb dX6_mask_98 (by decide +kernel) ?_
        refine lv_goto (tgt := 107) hx hb dX6_mask_100 (by decide) ?_
        subst hR; subst hQz
        exact W.iret (v := (-2)) hx hb hr (fun t ht hW => ⟨⟨(-2), (), rfl, (fun σ h => by have q := xpz2.1 t5; rw [cx_0 h] at q; have c := cxA_m (m := p1) h q; rw [show fm Q (an Q p0) p1.toInt.toNat = y18 from (by rw [show an Q p0 = y11 from gd_of ey11]; exact fm_of ey14 ey18)] at c; have k := cxM_ok c.1 c.2; have o1 := c.2.1; have o2 := c.2.2.1; have eW := congrArg Int32.toInt c.1.1; have eH := congrArg Int32.toInt c.1.2.1; have M := c.1.2.2.2; have e21 := congrArg Int32.toInt ez21; (first | rw [show (3 : Int32).toInt = 3 from by decide +kernel] at e21 | rw [show (4 : Int32).toInt = 4 from by decide +kernel] at e21 | rw [show (5 : Int32).toInt = 5 from by decide +kernel] at e21 | rw [show (6 : Int32).toInt = 6 from by decide +kernel] at e21 | skip); exact ⟨fun _ => mk3 ⟨by omega, by omega⟩ (Or.inl ⟨fun x y => M.2.2 (by first | (rw [← ez92]; exact t95) | (rw [← ez109]; exact t112) | (rw [← ez126]; exact t129) | (rw [← ez143]; exact t146)) x y, by decide +kernel⟩), fun w => absurd q w⟩), ⟨I, J, ⟨hI, fr_I, dn_I, (fun σ A => cxA_scr hQ hLp0 hKp0 fr_I (fun _ _ _ => rfl) A), dj_J⟩, by rw [ht]; exact hP⟩⟩, hS.F ht⟩) hS.2.2 dX6_mask_107
    · refine lv_tableIn (off := 87) (tgt := 108) hx hb dX6_mask_21 (by decide +kernel) (by decide +kernel) (by decide +kernel) (by decide) ?_
      have sv21 : p2.toInt = 4 := by rw [← ez21]; decide +kernel
      refine lv_aload_n hx hb dX6_mask_108 rfl (lv_at hl 0 rfl) ?_
      refine p_get hx hb hts inX3 hown hK hP hLy18 hKy18 rfl rfl 3 (by decide) (hts _ pq132) rfl dX6_mask_109 ?_
      refine lv_topi (fun z109 ez109 => ?_)
      refine lv_if_ne (tgt := 120) hx hb dX6_mask_112 (by decide) (fun c112 => ?_) (fun c112 => ?_)
      · have t112 := tq_ne (k := z109.toInt) (q := (0)) c112 rfl (by decide +kernel)
        refine lv_aload_n hx hb dX6_mask_120 rfl (lv_at hl 0 rfl) ?_
        refine p_get hx hb hts inX3 hown hK hP hLy18 hKy18 rfl rfl 5 (by decide) (hts _ pq138) rfl dX6_mask_121 ?_
        refine lv_topi (fun z121 ez121 => ?_)
        have bz121 := oI_3_5 (Iv_at hI hLy18 hKy18)
        rw [← ez121] at bz121
        subst hR; subst hQz
        exact W.iret (v := z121) hx hb hr (fun t ht hW => ⟨⟨z121, (), rfl, (fun σ h => by have q := xpz2.1 t5; rw [cx_0 h] at q; have c := cxA_m (m := p1) h q; rw [show fm Q (an Q p0) p1.toInt.toNat = y18 from (by rw [show an Q p0 = y11 from gd_of ey11]; exact fm_of ey14 ey18)] at c; have k := cxM_ok c.1 c.2; have o1 := c.2.1; have o2 := c.2.2.1; have eW := congrArg Int32.toInt c.1.1; have eH := congrArg Int32.toInt c.1.2.1; have M := c.1.2.2.2; have e21 := congrArg Int32.toInt ez21; (first | rw [show (4 : Int32).toInt = 4 from by decide +kernel] at e21 | skip); exact ⟨fun _ => mk3 ⟨by omega, by omega⟩ (Or.inr ⟨((I y18 4).toInt, (I y18 5).toInt, (I y18 6).toInt, (I y18 7).toInt), M.2.1 (by rw [← ez109]; exact t112), by unfold enA; rw [if_neg (by omega), if_pos (by omega)]; exact congrArg Int32.toInt ez121⟩), fun w => absurd q w⟩), ⟨I, J, ⟨hI, fr_I, dn_I, (fun σ A => cxA_scr hQ hLp0 hKp0 fr_I (fun _ _ _ => rfl) A), dj_J⟩, by rw [ht]; exact hP⟩⟩, hS.F ht⟩) hS.2.2 dX6_mask_124
      · have t112 := tq_eq (k := z109.toInt) (q := (0)) c112 rfl (by decide +kernel)
        refine lv_bipush (v := (-2)) hx hb dX6_mask_115 (by decide +kernel) ?_
        refine lv_goto (tgt := 124) hx hb dX6_mask_117 (by decide) ?_
        subst hR; subst hQz
        exact W.iret (v := (-2)) hx hb hr (fun t ht hW => ⟨⟨(-2), (), rfl, (fun σ h => by have q := xpz2.1 t5; rw [cx_0 h] at q; have c := cxA_m (m := p1) h q; rw [show fm Q (an Q p0) p1.toInt.toNat = y18 from (by rw [show an Q p0 = y11 from gd_of ey11]; exact fm_of ey14 ey18)] at c; have k := cxM_ok c.1 c.2; have o1 := c.2.1; have o2 := c.2.2.1; have eW := congrArg Int32.toInt c.1.1; have eH := congrArg Int32.toInt c.1.2.1; have M := c.1.2.2.2; have e21 := congrArg Int32.toInt ez21; (first | rw [show (3 : Int32).toInt = 3 from by decide +kernel] at e21 | rw [show (4 : Int32).toInt = 4 from by decide +kernel] at e21 | rw [show (5 : Int32).toInt = 5 from by decide +kernel] at e21 | rw [show (6 : Int32).toInt = 6 from by decide +kernel] at e21 | skip); exact ⟨fun _ => mk3 ⟨by omega, by omega⟩ (Or.inl ⟨fun x y => M.2.2 (by first | (rw [← ez92]; exact t95) | (rw [← ez109]; exact t112) | (rw [← ez126]; exact t129) | (rw [← ez143]; exact t146)) x y, by decide +kernel⟩), fun w => absurd q w⟩), ⟨I, J, ⟨hI, fr_I, dn_I, (fun σ A => cxA_scr hQ hLp0 hKp0 fr_I (fun _ _ _ => rfl) A), dj_J⟩, by rw [ht]; exact hP⟩⟩, hS.F ht⟩) hS.2.2 dX6_mask_124
    · refine lv_tableIn (off := 104) (tgt := 125) hx hb dX6_mask_21 (by decide +kernel) (by decide +kernel) (by decide +kernel) (by decide) ?_
      have sv21 : p2.toInt = 5 := by rw [← ez21]; decide +kernel
      refine lv_aload_n hx hb dX6_mask_125 rfl (lv_at hl 0 rfl) ?_
      refine p_get hx hb hts inX3 hown hK hP hLy18 hKy18 rfl rfl 3 (by decide) (hts _ pq132) rfl dX6_mask_126 ?_
      refine lv_topi (fun z126 ez126 => ?_)
      refine lv_if_ne (tgt := 137) hx hb dX6_mask_129 (by decide) (fun c129 => ?_) (fun c129 => ?_)
      · have t129 := tq_ne (k := z126.toInt) (q := (0)) c129 rfl (by decide +kernel)
        refine lv_aload_n hx hb dX6_mask_137 rfl (lv_at hl 0 rfl) ?_
        refine p_get hx hb hts inX3 hown hK hP hLy18 hKy18 rfl rfl 6 (by decide) (hts _ pq141) rfl dX6_mask_138 ?_
        refine lv_topi (fun z138 ez138 => ?_)
        have bz138 := oI_3_6 (Iv_at hI hLy18 hKy18)
        rw [← ez138] at bz138
        subst hR; subst hQz
        exact W.iret (v := z138) hx hb hr (fun t ht hW => ⟨⟨z138, (), rfl, (fun σ h => by have q := xpz2.1 t5; rw [cx_0 h] at q; have c := cxA_m (m := p1) h q; rw [show fm Q (an Q p0) p1.toInt.toNat = y18 from (by rw [show an Q p0 = y11 from gd_of ey11]; exact fm_of ey14 ey18)] at c; have k := cxM_ok c.1 c.2; have o1 := c.2.1; have o2 := c.2.2.1; have eW := congrArg Int32.toInt c.1.1; have eH := congrArg Int32.toInt c.1.2.1; have M := c.1.2.2.2; have e21 := congrArg Int32.toInt ez21; (first | rw [show (5 : Int32).toInt = 5 from by decide +kernel] at e21 | skip); exact ⟨fun _ => mk3 ⟨by omega, by omega⟩ (Or.inr ⟨((I y18 4).toInt, (I y18 5).toInt, (I y18 6).toInt, (I y18 7).toInt), M.2.1 (by rw [← ez126]; exact t129), by unfold enA; rw [if_neg (by omega), if_neg (by omega), if_pos (by omega)]; exact congrArg Int32.toInt ez138⟩), fun w => absurd q w⟩), ⟨I, J, ⟨hI, fr_I, dn_I, (fun σ A => cxA_scr hQ hLp0 hKp0 fr_I (fun _ _ _ => rfl) A), dj_J⟩, by rw [ht]; exact hP⟩⟩, hS.F ht⟩) hS.2.2 dX6_mask_141
      · have t129 := tq_eq (k := z126.toInt) (q := (0)) c129 rfl (by decide +kernel)
        refine lv_bipush (v := (-2)) hx hb dX6_mask_132 (by decide +kernel) ?_
        refine lv_goto (tgt := 141) hx hb dX6_mask_134 (by decide) ?_
        subst hR; subst hQz
        exact W.iret (v := (-2)) hx hb hr (fun t ht hW => ⟨⟨(-2), (), rfl, (fun σ h => by have q := xpz2.1 t5; rw [cx_0 h] at q; have c := cxA_m (m := p1) h q; rw [show fm Q (an Q p0) p1.toInt.toNat = y18 from (by rw [show an Q p0 = y11 from gd_of ey11]; exact fm_of ey14 ey18)] at c; have k := cxM_ok c.1 c.2; have o1 := c.2.1; have o2 := c.2.2.1; have eW := congrArg Int32.toInt c.1.1; have eH := congrArg Int32.toInt c.1.2.1; have M := c.1.2.2.2; have e21 := congrArg Int32.toInt ez21; (first | rw [show (3 : Int32).toInt = 3 from by decide +kernel] at e21 | rw [show (4 : Int32).toInt = 4 from by decide +kernel] at e21 | rw [show (5 : Int32).toInt = 5 from by decide +kernel] at e21 | rw [show (6 : Int32).toInt = 6 from by decide +kernel] at e21 | skip); exact ⟨fun _ => mk3 ⟨by omega, by omega⟩ (Or.inl ⟨fun x y => M.2.2 (by first | (rw [← ez92]; exact t95) | (rw [← ez109]; exact t112) | (rw [← ez126]; exact t129) | (rw [← ez143]; exact t146)) x y, by decide +kernel⟩), fun w => absurd q w⟩), ⟨I, J, ⟨hI, fr_I, dn_I, (fun σ A => cxA_scr hQ hLp0 hKp0 fr_I (fun _ _ _ => rfl) A), dj_J⟩, by rw [ht]; exact hP⟩⟩, hS.F ht⟩) hS.2.2 dX6_mask_141
    · refine lv_tableIn (off := 121) (tgt := 142) hx hb dX6_mask_21 (by decide +kernel) (by decide +kernel) (by decide +kernel) (by decide) ?_
      have sv21 : p2.toInt = 6 := by rw [← ez21]; decide +kernel
      refine lv_aload_n hx hb dX6_mask_142 rfl (lv_at hl 0 rfl) ?_
      refine p_get hx hb hts inX3 hown hK hP hLy18 hKy18 rfl rfl 3 (by decide) (hts _ pq132) rfl dX6_mask_143 ?_
      refine lv_topi (fun z143 ez143 => ?_)
      refine lv_if_ne (tgt := 154) hx hb dX6_mask_146 (by decide) (fun c146 => ?_) (fun c146 => ?_)
      · have t146 := tq_ne (k := z143.toInt) (q := (0)) c146 rfl (by decide +kernel)
        refine lv_aload_n hx hb dX6_mask_154 rfl (lv_at hl 0 rfl) ?_
        refine p_get hx hb hts inX3 hown hK hP hLy18 hKy18 rfl rfl 7 (by decide) (hts _ pq144) rfl dX6_mask_155 ?_
        refine lv_topi (fun z155 ez155 => ?_)
        have bz155 := oI_3_7 (Iv_at hI hLy18 hKy18)
        rw [← ez155] at bz155
        subst hR; subst hQz
        exact W.iret (v := z155) hx hb hr (fun t ht hW => ⟨⟨z155, (), rfl, (fun σ h => by have q := xpz2.1 t5; rw [cx_0 h] at q; have c := cxA_m (m := p1) h q; rw [show fm Q (an Q p0) p1.toInt.toNat = y18 from (by rw [show an Q p0 = y11 from gd_of ey11]; exact fm_of ey14 ey18)] at c; have k := cxM_ok c.1 c.2; have o1 := c.2.1; have o2 := c.2.2.1; have eW := congrArg Int32.toInt c.1.1; have eH := congrArg Int32.toInt c.1.2.1; have M := c.1.2.2.2; have e21 := congrArg Int32.toInt ez21; (first | rw [show (6 : Int32).toInt = 6 from by decide +kernel] at e21 | skip); exact ⟨fun _ => mk3 ⟨by omega, by omega⟩ (Or.inr ⟨((I y18 4).toInt, (I y18 5).toInt, (I y18 6).toInt, (I y18 7).toInt), M.2.1 (by rw [← ez143]; exact t146), by unfold enA; rw [if_neg (by omega), if_neg (by omega), if_neg (by omega)]; exact congrArg Int32.toInt ez155⟩), fun w => absurd q w⟩), ⟨I, J, ⟨hI, fr_I, dn_I, (fun σ A => cxA_scr hQ hLp0 hKp0 fr_I (fun _ _ _ => rfl) A), dj_J⟩, by rw [ht]; exact hP⟩⟩, hS.F ht⟩) hS.2.2 dX6_mask_158
      · have t146 := tq_eq (k := z143.toInt) (q := (0)) c146 rfl (by decide +kernel)
        refine lv_bipush (v := (-2)) hx hb dX6_mask_149 (by decide +kernel) ?_
        refine lv_goto (tgt := 158) hx hb dX6_mask_151 (by decide) ?_
        subst hR; subst hQz
        exact W.iret (v := (-2)) hx hb hr (fun t ht hW => ⟨⟨(-2), (), rfl, (fun σ h => by have q := xpz2.1 t5; rw [cx_0 h] at q; have c := cxA_m (m := p1) h q; rw [show fm Q (an Q p0) p1.toInt.toNat = y18 from (by rw [show an Q p0 = y11 from gd_of ey11]; exact fm_of ey14 ey18)] at c; have k := cxM_ok c.1 c.2; have o1 := c.2.1; have o2 := c.2.2.1; have eW := congrArg Int32.toInt c.1.1; have eH := congrArg Int32.toInt c.1.2.1; have M := c.1.2.2.2; have e21 := congrArg Int32.toInt ez21; (first | rw [show (3 : Int32).toInt = 3 from by decide +kernel] at e21 | rw [show (4 : Int32).toInt = 4 from by decide +kernel] at e21 | rw [show (5 : Int32).toInt = 5 from by decide +kernel] at e21 | rw [show (6 : Int32).toInt = 6 from by decide +kernel] at e21 | skip); exact ⟨fun _ => mk3 ⟨by omega, by omega⟩ (Or.inl ⟨fun x y => M.2.2 (by first | (rw [← ez92]; exact t95) | (rw [← ez109]; exact t112) | (rw [← ez126]; exact t129) | (rw [← ez143]; exact t146)) x y, by decide +kernel⟩), fun w => absurd q w⟩), ⟨I, J, ⟨hI, fr_I, dn_I, (fun σ A => cxA_scr hQ hLp0 hKp0 fr_I (fun _ _ _ => rfl) A), dj_J⟩, by rw [ht]; exact hP⟩⟩, hS.F ht⟩) hS.2.2 dX6_mask_158
    · refine lv_tableIn (off := 138) (tgt := 159) hx hb dX6_mask_21 (by decide +kernel) (by decide +kernel) (by decide +kernel) (by decide) ?_
      have sv21 : p2.toInt = 7 := by rw [← ez21]; decide +kernel
      refine lv_aload_n hx hb dX6_mask_159 rfl (lv_at hl 1 rfl) ?_
      obtain ⟨y160, ey160, hLy160, hKy160⟩ := oQ_6_7 (Sv_at hQ hLp0 hKp0)
      refine p_get (v := .ref y160) hx hb hts inX6 hown hK hP hLp0 hKp0 rfl rfl 7 (by decide) (hts _ pq356) (congrArg (fun q => some (va_rf q)) ey160) dX6_mask_160 ?_
      refine lv_aload_n hx hb dX6_mask_163 rfl (lv_at hl 0 rfl) ?_
      refine sw_i (Z := (fun I1 J1 => Iv L K x0 m0 tx tm I1 ∧ (∀ b, ¬ (K b = 2 ∨ K b = 5 ∨ K b = 11 ∨ (K b = 3 ∧ G b / 100 = 4)) → I1 b = I b) ∧ (∀ b, ¬ (K b = 12 ∧ (G b = 401)) → J1 b = J b))) (va_runV (As := [.ref y18]) (rest := []) ⟨hx, hb, hml, hown, hts⟩ (s_X2_countIslands l dC dI cs L K G Q hQ x0 m0 tx tm H.size I J hI y160 hLy160 hKy160 y18 hLy18 hKy18) (cwV 1 hts (gV pq849 pq850 pq851 pq80 pq852) rfl rfl rfl (by decide +kernel) ⟨(by rw [hR]; exact (Nat.le_of_ble_eq_true rfl)), (by rw [hR]; exact (Nat.le_of_ble_eq_true rfl))⟩) (sP_V hP hD hK hN hLy160 hKy160 rfl rfl) rfl rfl hl.1 rfl (lv_room (Nat.le_of_ble_eq_true rfl)) dX6_mask_164 ⟨(by rw [hR]; exact (Nat.le_of_ble_eq_true rfl)), (by rw [hR]; exact (Nat.le_of_ble_eq_true rfl))⟩) hS hAL hA (fun z164 Iz164 Jz164 H locs hz164 hIz164 hP hS => ?_)
      obtain ⟨hIz164, frc164, djc164⟩ := hIz164
      have dj_Jz164 : (∀ b, ¬ (K b = 12 ∧ (G b = 401)) → Jz164 b = J b) := fun b hc => (djc164 b (fun z => hc (by exact ⟨z.1, by have z2 := z.2; omega⟩))).trans (dj_J b hc)
      have dn_Iz164 : (∀ b, K b = 7 ∨ K b = 18 ∨ K b = 19 ∨ K b = 20 ∨ K b = 24 → Iz164 b = I b) := fun b hc => (frc164 b (by omega)).trans (dn_I b hc)
      have fr_Iz164 : ∀ b, ¬ (K b = 2 ∨ K b = 5 ∨ K b = 11 ∨ (K b = 3 ∧ G b / 100 = 4)) → Iz164 b = I b := fun b q => (frc164 b (fun z => q (by omega))).trans (fr_I b q)
      have xpz164 := hz164
      subst hR; subst hQz
      exact W.iret (v := z164) hx hb hr (fun t ht hW => ⟨⟨z164, (), rfl, (fun σ h => by have q := xpz2.1 t5; rw [cx_0 h] at q; have c := cxA_m (m := p1) h q; rw [show fm Q (an Q p0) p1.toInt.toNat = y18 from (by rw [show an Q p0 = y11 from gd_of ey11]; exact fm_of ey14 ey18)] at c; have k := cxM_ok c.1 c.2; have o1 := c.2.1; have o2 := c.2.2.1; have eW := congrArg Int32.toInt c.1.1; have eH := congrArg Int32.toInt c.1.2.1; have M := c.1.2.2.2; have e21 := congrArg Int32.toInt ez21; (first | rw [show (7 : Int32).toInt = 7 from by decide +kernel] at e21 | skip); have ne : ¬ y18 = a0 Q y160 0 := (fun e => by obtain ⟨yo, eyo, hLo, hKo, hGo⟩ := oQ_2_0 (Sv_at hQ hLy160 hKy160); rw [show a0 Q y160 0 = yo from gd_of eyo] at e; rw [← e] at hGo; omega); have w := xpz164 k.1 ne; rw [show md (J (wo Q y18)) = md (mF σ p1) from funext fun x => funext fun y => md_congr c.1.2.2.1 x y] at w; exact ⟨fun _ => mk7 (by omega) w, fun w => absurd q w⟩), ⟨Iz164, Jz164, ⟨hIz164, fr_Iz164, dn_Iz164, (fun σ A => cxA_scr hQ hLp0 hKp0 fr_Iz164 (fun b h1 h2 => dj_Jz164 b (fun z => h2 (by omega))) A), dj_Jz164⟩, by rw [ht]; exact hP⟩⟩, hS.F ht⟩) hS.2.2 dX6_mask_167
    · refine lv_tableIn (off := 147) (tgt := 168) hx hb dX6_mask_21 (by decide +kernel) (by decide +kernel) (by decide +kernel) (by decide) ?_
      have sv21 : p2.toInt = 8 := by rw [← ez21]; decide +kernel
      refine lv_aload_n hx hb dX6_mask_168 rfl (lv_at hl 1 rfl) ?_
      obtain ⟨y169, ey169, hLy169, hKy169⟩ := oQ_6_7 (Sv_at hQ hLp0 hKp0)
      refine p_get (v := .ref y169) hx hb hts inX6 hown hK hP hLp0 hKp0 rfl rfl 7 (by decide) (hts _ pq356) (congrArg (fun q => some (va_rf q)) ey169) dX6_mask_169 ?_
      refine lv_aload_n hx hb dX6_mask_172 rfl (lv_at hl 0 rfl) ?_
      refine sw_i (Z := (fun I1 J1 => Iv L K x0 m0 tx tm I1 ∧ (∀ b, ¬ (K b = 2 ∨ K b = 5 ∨ K b = 11 ∨ (K b = 3 ∧ G b / 100 = 4)) → I1 b = I b) ∧ (∀ b, ¬ (K b = 12 ∧ (G b = 401)) → J1 b = J b))) (va_runV (As := [.ref y18]) (rest := []) ⟨hx, hb, hml, hown, hts⟩ (s_X2_countHoles l dC dI cs L K G Q hQ x0 m0 tx tm H.size I J hI y169 hLy169 hKy169 y18 hLy18 hKy18) (cwV 1 hts (gV pq867 pq868 pq869 pq80 pq870) rfl rfl rfl (by decide +kernel) ⟨(by rw [hR]; exact (Nat.le_of_ble_eq_true rfl)), (by rw [hR]; exact (Nat.le_of_ble_eq_true rfl))⟩) (sP_V hP hD hK hN hLy169 hKy169 rfl rfl) rfl rfl hl.1 rfl (lv_room (Nat.le_of_ble_eq_true rfl)) dX6_mask_173 ⟨(by rw [hR]; exact (Nat.le_of_ble_eq_true rfl)), (by rw [hR]; exact (Nat.le_of_ble_eq_true rfl))⟩) hS hAL hA (fun z173 Iz173 Jz173 H locs hz173 hIz173 hP hS => ?_)
      obtain ⟨hIz173, frc173, djc173⟩ := hIz173
      have dj_Jz173 : (∀ b, ¬ (K b = 12 ∧ (G b = 401)) → Jz173 b = J b) := fun b hc => (djc173 b (fun z => hc (by exact ⟨z.1, by have z2 := z.2; omega⟩))).trans (dj_J b hc)
      have dn_Iz173 : (∀ b, K b = 7 ∨ K b = 18 ∨ K b = 19 ∨ K b = 20 ∨ K b = 24 → Iz173 b = I b) := fun b hc => (frc173 b (by omega)).trans (dn_I b hc)
      have fr_Iz173 : ∀ b, ¬ (K b = 2 ∨ K b = 5 ∨ K b = 11 ∨ (K b = 3 ∧ G b / 100 = 4)) → Iz173 b = I b := fun b q => (frc173 b (fun z => q (by omega))).trans (fr_I b q)
      have xpz173 := hz173
      subst hR; subst hQz
      exact W.iret (v := z173) hx hb hr (fun t ht hW => ⟨⟨z173, (), rfl, (fun σ h => by have q := xpz2.1 t5; rw [cx_0 h] at q; have c := cxA_m (m := p1) h q; rw [show fm Q (an Q p0) p1.toInt.toNat = y18 from (by rw [show an Q p0 = y11 from gd_of ey11]; exact fm_of ey14 ey18)] at c; have k := cxM_ok c.1 c.2; have o1 := c.2.1; have o2 := c.2.2.1; have eW := congrArg Int32.toInt c.1.1; have eH := congrArg Int32.toInt c.1.2.1; have M := c.1.2.2.2; have e21 := congrArg Int32.toInt ez21; (first | rw [show (8 : Int32).toInt = 8 from by decide +kernel] at e21 | skip); have w := xpz173 k.1 (by omega); rw [dsD_congr eW eH c.1.2.2.1, eW, eH] at w; exact ⟨fun _ => mk8 (by omega) w, fun w => absurd q w⟩), ⟨Iz173, Jz173, ⟨hIz173, fr_Iz173, dn_Iz173, (fun σ A => cxA_scr hQ hLp0 hKp0 fr_Iz173 (fun b h1 h2 => dj_Jz173 b (fun z => h2 (by omega))) A), dj_Jz173⟩, by rw [ht]; exact hP⟩⟩, hS.F ht⟩) hS.2.2 dX6_mask_176
    · refine lv_tableIn (off := 156) (tgt := 177) hx hb dX6_mask_21 (by decide +kernel) (by decide +kernel) (by decide +kernel) (by decide) ?_
      have sv21 : p2.toInt = 9 := by rw [← ez21]; decide +kernel
      refine lv_aload_n hx hb dX6_mask_177 rfl (lv_at hl 0 rfl) ?_
      refine ro_i (va_runV (As := []) (rest := []) ⟨hx, hb, hml, hown, hts⟩ (s_X3_openSides l dC dI cs L K G Q hQ x0 m0 tx tm H.size I J hI y18 hLy18 hKy18) (cwV 0 hts (gV pq874 pq875 pq876 pq76 pq877) rfl rfl rfl (by decide +kernel) ⟨(by rw [hR]; exact (Nat.le_of_ble_eq_true rfl)), (by rw [hR]; exact (Nat.le_of_ble_eq_true rfl))⟩) (sP_V hP hD hK hN hLy18 hKy18 rfl rfl) rfl rfl hl.1 rfl (lv_room (Nat.le_of_ble_eq_true rfl)) dX6_mask_178 ⟨(by rw [hR]; exact (Nat.le_of_ble_eq_true rfl)), (by rw [hR]; exact (Nat.le_of_ble_eq_true rfl))⟩) hS hP (fun z178 H locs hz178 hP hS => ?_)
      have xpz178 := hz178
      subst hR; subst hQz
      exact W.iret (v := z178) hx hb hr (fun t ht hW => ⟨⟨z178, (), rfl, (fun σ h => by have q := xpz2.1 t5; rw [cx_0 h] at q; have c := cxA_m (m := p1) h q; rw [show fm Q (an Q p0) p1.toInt.toNat = y18 from (by rw [show an Q p0 = y11 from gd_of ey11]; exact fm_of ey14 ey18)] at c; have k := cxM_ok c.1 c.2; have o1 := c.2.1; have o2 := c.2.2.1; have eW := congrArg Int32.toInt c.1.1; have eH := congrArg Int32.toInt c.1.2.1; have M := c.1.2.2.2; have e21 := congrArg Int32.toInt ez21; (first | rw [show (9 : Int32).toInt = 9 from by decide +kernel] at e21 | skip); exact ⟨fun _ => mk9 (by omega) ((xpz178 k.1 k.2).trans (edN_congr c.1.2.2.1)), fun w => absurd q w⟩), ⟨I, J, ⟨hI, fr_I, dn_I, (fun σ A => cxA_scr hQ hLp0 hKp0 fr_I (fun _ _ _ => rfl) A), dj_J⟩, by rw [ht]; exact hP⟩⟩, hS.F ht⟩) hS.2.2 dX6_mask_181
    · refine lv_tableOut (tgt := 182) hx hb dX6_mask_21 hsw21 (by decide) ?_
      refine lv_iconst (v := (-1)) hx hb dX6_mask_182 (by decide +kernel) ?_
      subst hR; subst hQz
      exact W.iret (v := (-1)) hx hb hr (fun t ht hW => ⟨⟨(-1), (), rfl, (fun σ h => by refine ⟨fun w => ?_, fun _ => by decide +kernel⟩; first | (exfalso; exact xpz2.2 t5 (by rw [cx_0 h]; exact w)) | (have e21 := congrArg Int32.toInt ez21; exact mkout (by omega) (by decide +kernel))), ⟨I, J, ⟨hI, fr_I, dn_I, (fun σ A => cxA_scr hQ hLp0 hKp0 fr_I (fun _ _ _ => rfl) A), dj_J⟩, by rw [ht]; exact hP⟩⟩, hS.F ht⟩) hS.2.2 dX6_mask_183
  · have t5 := tq_eq (k := z2.toInt) (q := (0)) c5 rfl (by decide +kernel)
    refine lv_iconst (v := (-1)) hx hb dX6_mask_8 (by decide +kernel) ?_
    subst hR; subst hQz
    exact W.iret (v := (-1)) hx hb hr (fun t ht hW => ⟨⟨(-1), (), rfl, (fun σ h => by refine ⟨fun w => ?_, fun _ => by decide +kernel⟩; first | (exfalso; exact xpz2.2 t5 (by rw [cx_0 h]; exact w)) | (have e21 := congrArg Int32.toInt ez21; exact mkout (by omega) (by decide +kernel))), ⟨I, J, ⟨hI, fr_I, dn_I, (fun σ A => cxA_scr hQ hLp0 hKp0 fr_I (fun _ _ _ => rfl) A), dj_J⟩, by rw [ht]; exact hP⟩⟩, hS.F ht⟩) hS.2.2 dX6_mask_9

set_option maxHeartbeats 4000000 in
set_option maxRecDepth 100000 in
theorem s_X6_dot (l : Launch) (dC : Nat → ClassId) (dI : Nat → Nat → Nat) (cs : Nat → ClassId) (L : List Nat) (K G : Nat → Nat) (Q : Nat → Nat → Option Nat) (hQ : Sv L K G Q) (x0 m0 : Nat) (tx : GT) (tm : GT × Int) (sz : Nat) (I : Nat → Nat → Int32) (J : Nat → Nat → Int64) (hI : Iv L K x0 m0 tx tm I) (p0 : Nat) (hLp0 : p0 ∈ L) (hKp0 : K p0 = 6) (p1 : Int32) (p2 : Int32) (p3 : Int32) : Met l yX6_dot (.code yX6_dot cX6_dot 4 (some .int) :: pw) ({ frames := 2, cells := 0, slots := 0, locals := 44 }) (sP (dC, dI) cs [.ref p0, .int p1, .int p2, .int p3] sz L K I J Q) (va_Qi (fun (r : Int32) (_ : Unit) => (∀ σ : Sx, cxA Q I J p0 σ → r.toInt = dtR σ p1 p2 p3)) (fun _ _ => True) (fun _ => False)) 0 0 (fun _ => False) := by
  refine Met.ofW (cc := cX6_dot) (maxL := 4) (ret := (some .int)) (by decide +kernel) rfl ?_
  intro p e s m args below meth c s₁ B hml hv
  obtain ⟨rfl, hsz, hP, hK, hD0, hN⟩ := hv
  have hx := B.exec
  have hb := B.bytes
  have hr := B.returns
  have hts := fun w (h : w ∈ pw) => atoms_spec (ws := Cond.code yX6_dot cX6_dot 4 (some .int) :: pw) B.pre w (List.mem_cons_of_mem _ h)
  have hown : s.vm.findClass RX6 = some m.cls := findClass_of_methodNamed B.named
  have hlocks := B.notSynchronized
  subst hsz
  have hBB : 999 ≤ tm.2 ∧ tm.2 ≤ 6000000 := hI.2.2.2.2.1
  have hD := hD0
  obtain ⟨H, hHe⟩ : ∃ H : Heap, H = s.heap := ⟨_, rfl⟩
  have hS : va_S (fun _ => False) s.heap H [] := by rw [hHe]; exact va_S.rf
  rw [← hHe] at hP
  have hl := lv_entry ([.ref p0, .int p1, .int p2, .int p3]) (n := 4) (Nat.le_of_ble_eq_true rfl)
  rw [lg_entry_eq]
  generalize (lg_sl ([.ref p0, .int p1, .int p2, .int p3]) ++ List.replicate (4 - (lg_sl ([.ref p0, .int p1, .int p2, .int p3])).length) Slot.unset).toArray = ls at hl ⊢
  have hl : lv_has ls 4 [(0, .ref p0), (1, .int p1), (2, .int p2), (3, .int p3)] := hl
  rw [← hHe]
  refine namedW (fun R Qz hR hQz => ?_)
  refine lv_aload_n hx hb dX6_dot_0 rfl (lv_at hl 0 rfl) ?_
  refine lv_iload_n hx hb dX6_dot_1 rfl (lv_at hl 1 rfl) ?_
  refine ro_i (va_runV (As := [.int p1]) (rest := []) ⟨hx, hb, hml, hown, hts⟩ (s_X6_isMask l dC dI cs L K G Q hQ x0 m0 tx tm H.size I J hI p0 hLp0 hKp0 p1) (cwV 1 hts (gV pq666 pq668 pq4 pq74 pq669) rfl rfl rfl (by decide +kernel) ⟨(by rw [hR]; exact (Nat.le_of_ble_eq_true rfl)), (by rw [hR]; exact (Nat.le_of_ble_eq_true rfl))⟩) (sP_V hP hD hK hN hLp0 hKp0 rfl rfl) rfl rfl hl.1 rfl (lv_room (Nat.le_of_ble_eq_true rfl)) dX6_dot_2 ⟨(by rw [hR]; exact (Nat.le_of_ble_eq_true rfl)), (by rw [hR]; exact (Nat.le_of_ble_eq_true rfl))⟩) hS hP (fun z2 H locs hz2 hP hS => ?_)
  obtain ⟨bz2, imz2, xpz2⟩ := hz2
  refine lv_if_ne (tgt := 10) hx hb dX6_dot_5 (by decide) (fun c5 => ?_) (fun c5 => ?_)
  · have t5 := tq_ne (k := z2.toInt) (q := (0)) c5 rfl (by decide +kernel)
    have i5 := imz2 t5
    refine lv_aload_n hx hb dX6_dot_10 rfl (lv_at hl 0 rfl) ?_
    obtain ⟨y11, ey11, hLy11, hKy11, hGy11⟩ := oQ_6_2 (Sv_at hQ hLp0 hKp0)
    refine p_get (v := .ref y11) hx hb hts inX6 hown hK hP hLp0 hKp0 rfl rfl 2 (by decide) (hts _ pq351) (congrArg (fun q => some (va_rf q)) ey11) dX6_dot_11 ?_
    obtain ⟨y14, ey14, hLy14, hKy14, hGy14⟩ := oQ_1_0 (Sv_at hQ hLy11 hKy11)
    refine p_get (v := .ref y14) hx hb hts inX1 hown hK hP hLy11 hKy11 rfl rfl 0 (by decide) (hts _ pq216) (congrArg (fun q => some (va_rf q)) ey14) dX6_dot_14 ?_
    refine lv_iload_n hx hb dX6_dot_17 rfl (lv_at hl 1 rfl) ?_
    obtain ⟨y18, ey18, hLy18, hKy18, hGy18⟩ := (Sv_at hQ hLy14 hKy14).1 p1.toNatClampNeg (clamp_lt (n := 8) (in_of (by omega) (by omega)))
    have hjy18 : p1.toNatClampNeg < 8 := clamp_lt (i := p1) (n := 8) (in_of (by omega) (by omega))
    refine p_aaldR hx hb hK hP 3 hLy14 hKy14 rfl rfl (in_of (by omega) (by omega)) ey18 dX6_dot_18 ?_
    refine lv_iload_n hx hb dX6_dot_19 rfl (lv_at hl 2 rfl) ?_
    refine lv_iload_n hx hb dX6_dot_20 rfl (lv_at hl 3 rfl) ?_
    refine ro_i (va_runV (As := [.int p2, .int p3]) (rest := []) ⟨hx, hb, hml, hown, hts⟩ (s_X3_holds l dC dI cs L K G Q hQ x0 m0 tx tm H.size I J hI y18 hLy18 hKy18 p2 p3) (cwV 2 hts (gV pq673 pq674 pq675 pq76 pq676) rfl rfl rfl (by decide +kernel) ⟨(by rw [hR]; exact (Nat.le_of_ble_eq_true rfl)), (by rw [hR]; exact (Nat.le_of_ble_eq_true rfl))⟩) (sP_V hP hD hK hN hLy18 hKy18 rfl rfl) rfl rfl hl.1 rfl (lv_room (Nat.le_of_ble_eq_true rfl)) dX6_dot_21 ⟨(by rw [hR]; exact (Nat.le_of_ble_eq_true rfl)), (by rw [hR]; exact (Nat.le_of_ble_eq_true rfl))⟩) hS hP (fun z21 H locs hz21 hP hS => ?_)
    obtain ⟨bz21, xpz21⟩ := hz21
    refine lv_if_eq (tgt := 31) hx hb dX6_dot_24 (by decide) (fun c24 => ?_) (fun c24 => ?_)
    · have t24 := tq_eq (k := z21.toInt) (q := (0)) c24 rfl (by decide +kernel)
      refine lv_iconst (v := 0) hx hb dX6_dot_31 (by decide +kernel) ?_
      subst hR; subst hQz
      exact W.iret (v := 0) hx hb hr (fun t ht hW => ⟨⟨0, (), rfl, (fun σ h => by have q := xpz2.1 t5; rw [cx_0 h] at q; have c := (cxA_m (m := p1) h q).1; rw [show fm Q (an Q p0) p1.toInt.toNat = y18 from (by rw [show an Q p0 = y11 from gd_of ey11]; exact fm_of ey14 ey18)] at c; unfold dtR; rw [if_pos q, ← hs_congr (congrArg Int32.toInt c.1) (congrArg Int32.toInt c.2.1) c.2.2.1, ← xpz21, show (0 : Int32).toInt = 0 from by decide +kernel]; omega), trivial⟩, hS.F ht⟩) hS.2.2 dX6_dot_32
    · have t24 := tq_ne (k := z21.toInt) (q := (0)) c24 rfl (by decide +kernel)
      refine lv_iconst (v := 1) hx hb dX6_dot_27 (by decide +kernel) ?_
      refine lv_goto (tgt := 32) hx hb dX6_dot_28 (by decide) ?_
      subst hR; subst hQz
      exact W.iret (v := 1) hx hb hr (fun t ht hW => ⟨⟨1, (), rfl, (fun σ h => by have q := xpz2.1 t5; rw [cx_0 h] at q; have c := (cxA_m (m := p1) h q).1; rw [show fm Q (an Q p0) p1.toInt.toNat = y18 from (by rw [show an Q p0 = y11 from gd_of ey11]; exact fm_of ey14 ey18)] at c; unfold dtR; rw [if_pos q, ← hs_congr (congrArg Int32.toInt c.1) (congrArg Int32.toInt c.2.1) c.2.2.1, ← xpz21, show (1 : Int32).toInt = 1 from by decide +kernel]; omega), trivial⟩, hS.F ht⟩) hS.2.2 dX6_dot_32
  · have t5 := tq_eq (k := z2.toInt) (q := (0)) c5 rfl (by decide +kernel)
    refine lv_iconst (v := (-1)) hx hb dX6_dot_8 (by decide +kernel) ?_
    subst hR; subst hQz
    exact W.iret (v := (-1)) hx hb hr (fun t ht hW => ⟨⟨(-1), (), rfl, (fun σ h => by have q := xpz2.2 t5; rw [cx_0 h] at q; unfold dtR; rw [if_neg q]; decide +kernel), trivial⟩, hS.F ht⟩) hS.2.2 dX6_dot_9

set_option maxHeartbeats 4000000 in
set_option maxRecDepth 100000 in
theorem s_X6_row (l : Launch) (dC : Nat → ClassId) (dI : Nat → Nat → Nat) (cs : Nat → ClassId) (L : List Nat) (K G : Nat → Nat) (Q : Nat → Nat → Option Nat) (hQ : Sv L K G Q) (x0 m0 : Nat) (tx : GT) (tm : GT × Int) (sz : Nat) (I : Nat → Nat → Int32) (J : Nat → Nat → Int64) (hI : Iv L K x0 m0 tx tm I) (p0 : Nat) (hLp0 : p0 ∈ L) (hKp0 : K p0 = 6) (p1 : Int32) (p2 : Int32) (p3 : Int32) : Met l yX6_row (.code yX6_row cX6_row 4 (some .long) :: pw) ({ frames := 1, cells := 0, slots := 0, locals := 21 }) (sP (dC, dI) cs [.ref p0, .int p1, .int p2, .int p3] sz L K I J Q) (va_Ql (fun (r : Int64) (_ : Unit) => (∀ σ : Sx, cxA Q I J p0 σ → r = rwR σ p1 p2 p3)) (fun _ _ => True) (fun _ => False)) 0 0 (fun _ => False) := by
  refine Met.ofW (cc := cX6_row) (maxL := 4) (ret := (some .long)) (by decide +kernel) rfl ?_
  intro p e s m args below meth c s₁ B hml hv
  obtain ⟨rfl, hsz, hP, hK, hD0, hN⟩ := hv
  have hx := B.exec
  have hb := B.bytes
  have hr := B.returns
  have hts := fun w (h : w ∈ pw) => atoms_spec (ws := Cond.code yX6_row cX6_row 4 (some .long) :: pw) B.pre w (List.mem_cons_of_mem _ h)
  have hown : s.vm.findClass RX6 = some m.cls := findClass_of_methodNamed B.named
  have hlocks := B.notSynchronized
  subst hsz
  have hBB : 999 ≤ tm.2 ∧ tm.2 ≤ 6000000 := hI.2.2.2.2.1
  have hD := hD0
  obtain ⟨H, hHe⟩ : ∃ H : Heap, H = s.heap := ⟨_, rfl⟩
  have hS : va_S (fun _ => False) s.heap H [] := by rw [hHe]; exact va_S.rf
  rw [← hHe] at hP
  have hl := lv_entry ([.ref p0, .int p1, .int p2, .int p3]) (n := 4) (Nat.le_of_ble_eq_true rfl)
  rw [lg_entry_eq]
  generalize (lg_sl ([.ref p0, .int p1, .int p2, .int p3]) ++ List.replicate (4 - (lg_sl ([.ref p0, .int p1, .int p2, .int p3])).length) Slot.unset).toArray = ls at hl ⊢
  have hl : lv_has ls 4 [(0, .ref p0), (1, .int p1), (2, .int p2), (3, .int p3)] := hl
  rw [← hHe]
  refine namedW (fun R Qz hR hQz => ?_)
  refine lv_aload_n hx hb dX6_row_0 rfl (lv_at hl 0 rfl) ?_
  refine lv_iload_n hx hb dX6_row_1 rfl (lv_at hl 1 rfl) ?_
  refine ro_i (va_runV (As := [.int p1]) (rest := []) ⟨hx, hb, hml, hown, hts⟩ (s_X6_isMask l dC dI cs L K G Q hQ x0 m0 tx tm H.size I J hI p0 hLp0 hKp0 p1) (cwV 1 hts (gV pq666 pq668 pq4 pq74 pq669) rfl rfl rfl (by decide +kernel) ⟨(by rw [hR]; exact (Nat.le_of_ble_eq_true rfl)), (by rw [hR]; exact (Nat.le_of_ble_eq_true rfl))⟩) (sP_V hP hD hK hN hLp0 hKp0 rfl rfl) rfl rfl hl.1 rfl (lv_room (Nat.le_of_ble_eq_true rfl)) dX6_row_2 ⟨(by rw [hR]; exact (Nat.le_of_ble_eq_true rfl)), (by rw [hR]; exact (Nat.le_of_ble_eq_true rfl))⟩) hS hP (fun z2 H locs hz2 hP hS => ?_)
  obtain ⟨bz2, imz2, xpz2⟩ := hz2
  refine lv_if_eq (tgt := 36) hx hb dX6_row_5 (by decide) (fun c5 => ?_) (fun c5 => ?_)
  · have t5 := tq_eq (k := z2.toInt) (q := (0)) c5 rfl (by decide +kernel)
    refine lv_lconst (v := 0) hx hb dX6_row_36 (by decide +kernel) ?_
    subst hR; subst hQz
    exact W.lret (v := 0) hx hb hr (fun t ht hW => ⟨⟨0, (), rfl, (fun σ h => by unfold rwR; rw [if_neg (fun w => by first | exact (xpz2.2 t5) (by rw [cx_0 h]; exact w.1) | (have a := w.2.1.1; omega) | exact xpz30 t33 w.2.2 | (have c := (cxA_m (m := p1) h w.1).1; rw [show fm Q (an Q p0) p1.toInt.toNat = y21 from (by rw [show an Q p0 = y14 from gd_of ey14]; exact fm_of ey17 ey21)] at c; have e22 := ez22.trans c.2.1; have a := w.2.1.2; rw [show mH σ p1 = z22 from e22.symm] at a; omega))]), trivial⟩, hS.F ht⟩) hS.2.2 dX6_row_37
  · have t5 := tq_ne (k := z2.toInt) (q := (0)) c5 rfl (by decide +kernel)
    have i5 := imz2 t5
    refine lv_iload_n hx hb dX6_row_8 rfl (lv_at hl 2 rfl) ?_
    refine lv_if_lt (tgt := 36) hx hb dX6_row_9 (by decide) (fun c9 => ?_) (fun c9 => ?_)
    · have t9 := tq_lt (k := p2.toInt) (q := (0)) c9 rfl (by decide +kernel)
      refine lv_lconst (v := 0) hx hb dX6_row_36 (by decide +kernel) ?_
      subst hR; subst hQz
      exact W.lret (v := 0) hx hb hr (fun t ht hW => ⟨⟨0, (), rfl, (fun σ h => by unfold rwR; rw [if_neg (fun w => by first | exact (xpz2.2 t5) (by rw [cx_0 h]; exact w.1) | (have a := w.2.1.1; omega) | exact xpz30 t33 w.2.2 | (have c := (cxA_m (m := p1) h w.1).1; rw [show fm Q (an Q p0) p1.toInt.toNat = y21 from (by rw [show an Q p0 = y14 from gd_of ey14]; exact fm_of ey17 ey21)] at c; have e22 := ez22.trans c.2.1; have a := w.2.1.2; rw [show mH σ p1 = z22 from e22.symm] at a; omega))]), trivial⟩, hS.F ht⟩) hS.2.2 dX6_row_37
    · have t9 := tq_nlt (k := p2.toInt) (q := (0)) c9 rfl (by decide +kernel)
      refine lv_iload_n hx hb dX6_row_12 rfl (lv_at hl 2 rfl) ?_
      refine lv_aload_n hx hb dX6_row_13 rfl (lv_at hl 0 rfl) ?_
      obtain ⟨y14, ey14, hLy14, hKy14, hGy14⟩ := oQ_6_2 (Sv_at hQ hLp0 hKp0)
      refine p_get (v := .ref y14) hx hb hts inX6 hown hK hP hLp0 hKp0 rfl rfl 2 (by decide) (hts _ pq351) (congrArg (fun q => some (va_rf q)) ey14) dX6_row_14 ?_
      obtain ⟨y17, ey17, hLy17, hKy17, hGy17⟩ := oQ_1_0 (Sv_at hQ hLy14 hKy14)
      refine p_get (v := .ref y17) hx hb hts inX1 hown hK hP hLy14 hKy14 rfl rfl 0 (by decide) (hts _ pq216) (congrArg (fun q => some (va_rf q)) ey17) dX6_row_17 ?_
      refine lv_iload_n hx hb dX6_row_20 rfl (lv_at hl 1 rfl) ?_
      obtain ⟨y21, ey21, hLy21, hKy21, hGy21⟩ := (Sv_at hQ hLy17 hKy17).1 p1.toNatClampNeg (clamp_lt (n := 8) (in_of (by omega) (by omega)))
      have hjy21 : p1.toNatClampNeg < 8 := clamp_lt (i := p1) (n := 8) (in_of (by omega) (by omega))
      refine p_aaldR hx hb hK hP 3 hLy17 hKy17 rfl rfl (in_of (by omega) (by omega)) ey21 dX6_row_21 ?_
      refine p_get hx hb hts inX3 hown hK hP hLy21 hKy21 rfl rfl 1 (by decide) (hts _ pq123) rfl dX6_row_22 ?_
      refine lv_topi (fun z22 ez22 => ?_)
      have bz22 := oI_3_1 (Iv_at hI hLy21 hKy21)
      rw [← ez22] at bz22
      refine lv_icmp_ge (tgt := 36) hx hb dX6_row_25 (by decide) (fun c25 => ?_) (fun c25 => ?_)
      · have t25 := tq_le (k := z22.toInt) (q := p2.toInt) c25 rfl rfl
        refine lv_lconst (v := 0) hx hb dX6_row_36 (by decide +kernel) ?_
        subst hR; subst hQz
        exact W.lret (v := 0) hx hb hr (fun t ht hW => ⟨⟨0, (), rfl, (fun σ h => by unfold rwR; rw [if_neg (fun w => by first | exact (xpz2.2 t5) (by rw [cx_0 h]; exact w.1) | (have a := w.2.1.1; omega) | exact xpz30 t33 w.2.2 | (have c := (cxA_m (m := p1) h w.1).1; rw [show fm Q (an Q p0) p1.toInt.toNat = y21 from (by rw [show an Q p0 = y14 from gd_of ey14]; exact fm_of ey17 ey21)] at c; have e22 := ez22.trans c.2.1; have a := w.2.1.2; rw [show mH σ p1 = z22 from e22.symm] at a; omega))]), trivial⟩, hS.F ht⟩) hS.2.2 dX6_row_37
      · have t25 := tq_nle (k := z22.toInt) (q := p2.toInt) c25 rfl rfl
        refine lv_iload_n hx hb dX6_row_28 rfl (lv_at hl 3 rfl) ?_
        refine lv_iconst (v := 1) hx hb dX6_row_29 (by decide +kernel) ?_
        refine ro_i (va_runS (As := [.int p3, .int 1]) (rest := []) ⟨hx, hb, hml, hown, hts⟩ (s_X6_isFrom0To l dC dI cs L K G Q hQ x0 m0 tx tm H.size I J hI p3 1) (va_cwS 2 hts (gS pq651 pq652 pq74 pq653) rfl rfl rfl (by decide +kernel) ⟨(by rw [hR]; exact (Nat.le_of_ble_eq_true rfl)), (by rw [hR]; exact (Nat.le_of_ble_eq_true rfl))⟩) (sP_S hP hD hK hN) rfl rfl hl.1 rfl (lv_room (Nat.le_of_ble_eq_true rfl)) dX6_row_30 ⟨(by rw [hR]; exact (Nat.le_of_ble_eq_true rfl)), (by rw [hR]; exact (Nat.le_of_ble_eq_true rfl))⟩) hS hP (fun z30 H locs hz30 hP hS => ?_)
        have cst30_1 : (1 : Int32).toInt = 1 := by decide +kernel
        obtain ⟨bz30, imz30, xpz30⟩ := hz30
        try rw [cst30_1] at xpz30
        refine lv_if_ne (tgt := 38) hx hb dX6_row_33 (by decide) (fun c33 => ?_) (fun c33 => ?_)
        · have t33 := tq_ne (k := z30.toInt) (q := (0)) c33 rfl (by decide +kernel)
          have i33 := imz30 t33
          refine lv_aload_n hx hb dX6_row_38 rfl (lv_at hl 0 rfl) ?_
          refine p_get (v := .ref y14) hx hb hts inX6 hown hK hP hLp0 hKp0 rfl rfl 2 (by decide) (hts _ pq351) (congrArg (fun q => some (va_rf q)) ey14) dX6_row_39 ?_
          refine p_get (v := .ref y17) hx hb hts inX1 hown hK hP hLy14 hKy14 rfl rfl 0 (by decide) (hts _ pq216) (congrArg (fun q => some (va_rf q)) ey17) dX6_row_42 ?_
          refine lv_iload_n hx hb dX6_row_45 rfl (lv_at hl 1 rfl) ?_
          refine p_aaldR hx hb hK hP 3 hLy17 hKy17 rfl rfl (in_of (by omega) (by omega)) ey21 dX6_row_46 ?_
          obtain ⟨y47, ey47, hLy47, hKy47, hGy47⟩ := oQ_3_2 (Sv_at hQ hLy21 hKy21)
          refine p_get (v := .ref y47) hx hb hts inX3 hown hK hP hLy21 hKy21 rfl rfl 2 (by decide) (hts _ pq128) (congrArg (fun q => some (va_rf q)) ey47) dX6_row_47 ?_
          refine lv_iconst (v := 2) hx hb dX6_row_50 (by decide +kernel) ?_
          refine lv_iload_n hx hb dX6_row_51 rfl (lv_at hl 2 rfl) ?_
          refine lv_imul hx hb dX6_row_52 ?_
          refine lv_topi (fun z52 ez52 => ?_)
          have bz52 := tq_mul (k := (2)) (q := p2.toInt) ez52 (by decide +kernel) rfl (by omega) (by omega)
          refine lv_iload_n hx hb dX6_row_53 rfl (lv_at hl 3 rfl) ?_
          refine lv_iadd hx hb dX6_row_54 ?_
          refine lv_topi (fun z54 ez54 => ?_)
          have bz54 := tq_add (k := z52.toInt) (q := p3.toInt) ez54 rfl rfl (by omega) (by omega)
          refine p_lald hx hb hK hP 2 hLy47 hKy47 rfl rfl (in_of (by omega) (by omega)) dX6_row_55 ?_
          refine lv_topl (fun z55 ez55 => ?_)
          subst hR; subst hQz
          exact W.lret (v := z55) hx hb hr (fun t ht hW => ⟨⟨z55, (), rfl, (fun σ h => by have q := xpz2.1 t5; rw [cx_0 h] at q; have c := (cxA_m (m := p1) h q).1; rw [show fm Q (an Q p0) p1.toInt.toNat = y21 from (by rw [show an Q p0 = y14 from gd_of ey14]; exact fm_of ey17 ey21)] at c; have e22 := ez22.trans c.2.1; unfold rwR; rw [if_pos ⟨q, ⟨by omega, by rw [← e22]; omega⟩, by omega, by omega⟩, ez55, show y47 = wo Q y21 from (gd_of ey47).symm, show z54.toNatClampNeg = 2 * p2.toInt.toNat + p3.toInt.toNat from (by show z54.toInt.toNat = _; omega)]; exact c.2.2.1 _ (by omega)), trivial⟩, hS.F ht⟩) hS.2.2 dX6_row_56
        · have t33 := tq_eq (k := z30.toInt) (q := (0)) c33 rfl (by decide +kernel)
          refine lv_lconst (v := 0) hx hb dX6_row_36 (by decide +kernel) ?_
          subst hR; subst hQz
          exact W.lret (v := 0) hx hb hr (fun t ht hW => ⟨⟨0, (), rfl, (fun σ h => by unfold rwR; rw [if_neg (fun w => by first | exact (xpz2.2 t5) (by rw [cx_0 h]; exact w.1) | (have a := w.2.1.1; omega) | exact xpz30 t33 w.2.2 | (have c := (cxA_m (m := p1) h w.1).1; rw [show fm Q (an Q p0) p1.toInt.toNat = y21 from (by rw [show an Q p0 = y14 from gd_of ey14]; exact fm_of ey17 ey21)] at c; have e22 := ez22.trans c.2.1; have a := w.2.1.2; rw [show mH σ p1 = z22 from e22.symm] at a; omega))]), trivial⟩, hS.F ht⟩) hS.2.2 dX6_row_37

set_option maxHeartbeats 4000000 in
set_option maxRecDepth 100000 in
theorem s_X6_island (l : Launch) (dC : Nat → ClassId) (dI : Nat → Nat → Nat) (cs : Nat → ClassId) (L : List Nat) (K G : Nat → Nat) (Q : Nat → Nat → Option Nat) (hQ : Sv L K G Q) (x0 m0 : Nat) (tx : GT) (tm : GT × Int) (sz : Nat) (I : Nat → Nat → Int32) (J : Nat → Nat → Int64) (hI : Iv L K x0 m0 tx tm I) (p0 : Nat) (hLp0 : p0 ∈ L) (hKp0 : K p0 = 6) (p1 : Int32) (p2 : Int32) (p3 : Int32) : Met l yX6_island (.code yX6_island cX6_island 5 (some .int) :: pw) ({ frames := 5, cells := 0, slots := 0, locals := 115 }) (sP (dC, dI) cs [.ref p0, .int p1, .int p2, .int p3] sz L K I J Q) (va_Qi (fun (r : Int32) (_ : Unit) => (∀ σ : Sx, cxA Q I J p0 σ → ilR σ p1 p2 p3 r)) (fun _ t => sB (dC, dI) cs L K Q (fun I1 J1 => Iv L K x0 m0 tx tm I1 ∧ (∀ b, ¬ (K b = 2 ∨ K b = 5 ∨ K b = 11 ∨ (K b = 3 ∧ G b / 100 = 4)) → I1 b = I b) ∧ (∀ b, K b = 7 ∨ K b = 18 ∨ K b = 19 ∨ K b = 20 ∨ K b = 24 → I1 b = I b) ∧ (∀ σ : Sx, cxA Q I J p0 σ → cxA Q I1 J1 p0 σ) ∧ (∀ b, ¬ (K b = 12 ∧ (G b = 401)) → J1 b = J b)) t) (fun q => q ∈ L ∨ sz ≤ q)) 0 0 (fun q => q ∈ L ∨ sz ≤ q) := by
  refine Met.ofW (cc := cX6_island) (maxL := 5) (ret := (some .int)) (by decide +kernel) rfl ?_
  intro p e s m args below meth c s₁ B hml hv
  obtain ⟨rfl, hsz, hP, hK, hD0, hN⟩ := hv
  have hx := B.exec
  have hb := B.bytes
  have hr := B.returns
  have hts := fun w (h : w ∈ pw) => atoms_spec (ws := Cond.code yX6_island cX6_island 5 (some .int) :: pw) B.pre w (List.mem_cons_of_mem _ h)
  have hown : s.vm.findClass RX6 = some m.cls := findClass_of_methodNamed B.named
  have hlocks := B.notSynchronized
  subst hsz
  have hBB : 999 ≤ tm.2 ∧ tm.2 ≤ 6000000 := hI.2.2.2.2.1
  have dn_I : (∀ b, K b = 7 ∨ K b = 18 ∨ K b = 19 ∨ K b = 20 ∨ K b = 24 → I b = I b) := fun _ _ => rfl
  have dj_J : (∀ b, ¬ (K b = 12 ∧ (G b = 401)) → J b = J b) := fun _ _ => rfl
  have fr_I : ∀ b, ¬ (K b = 2 ∨ K b = 5 ∨ K b = 11 ∨ (K b = 3 ∧ G b / 100 = 4)) → I b = I b := fun _ _ => rfl
  obtain ⟨A, hAe⟩ : ∃ A : Nat → Prop, A = (fun q => q ∈ L ∨ s.heap.size ≤ q) := ⟨_, rfl⟩
  rw [← hAe]
  have hAL : ∀ q, q ∈ L → A q := fun q h => by rw [hAe]; exact Or.inl h
  have hA : ∀ q, s.heap.size ≤ q → A q := fun q h => by rw [hAe]; exact Or.inr h
  have hD : ∀ F, va_D A (va_pl L F) := fun F => (hD0 F).weaken (fun k q hk _ => hAL _ (pl_mem hk))
  obtain ⟨H, hHe⟩ : ∃ H : Heap, H = s.heap := ⟨_, rfl⟩
  have hS : va_S A s.heap H [] := by rw [hHe]; exact va_S.rf
  rw [← hHe] at hP
  have hl := lv_entry ([.ref p0, .int p1, .int p2, .int p3]) (n := 5) (Nat.le_of_ble_eq_true rfl)
  rw [lg_entry_eq]
  generalize (lg_sl ([.ref p0, .int p1, .int p2, .int p3]) ++ List.replicate (5 - (lg_sl ([.ref p0, .int p1, .int p2, .int p3])).length) Slot.unset).toArray = ls at hl ⊢
  have hl : lv_has ls 5 [(0, .ref p0), (1, .int p1), (2, .int p2), (3, .int p3)] := hl
  rw [← hHe]
  refine namedW (fun R Qz hR hQz => ?_)
  refine lv_aload_n hx hb dX6_island_0 rfl (lv_at hl 0 rfl) ?_
  refine lv_iload_n hx hb dX6_island_1 rfl (lv_at hl 1 rfl) ?_
  refine ro_i (va_runV (As := [.int p1]) (rest := []) ⟨hx, hb, hml, hown, hts⟩ (s_X6_isMask l dC dI cs L K G Q hQ x0 m0 tx tm H.size I J hI p0 hLp0 hKp0 p1) (cwV 1 hts (gV pq666 pq668 pq4 pq74 pq669) rfl rfl rfl (by decide +kernel) ⟨(by rw [hR]; exact (Nat.le_of_ble_eq_true rfl)), (by rw [hR]; exact (Nat.le_of_ble_eq_true rfl))⟩) (sP_V hP hD hK hN hLp0 hKp0 rfl rfl) rfl rfl hl.1 rfl (lv_room (Nat.le_of_ble_eq_true rfl)) dX6_island_2 ⟨(by rw [hR]; exact (Nat.le_of_ble_eq_true rfl)), (by rw [hR]; exact (Nat.le_of_ble_eq_true rfl))⟩) hS hP (fun z2 H locs hz2 hP hS => ?_)
  obtain ⟨bz2, imz2, xpz2⟩ := hz2
  refine lv_if_eq (tgt := 21) hx hb dX6_island_5 (by decide) (fun c5 => ?_) (fun c5 => ?_)
  · have t5 := tq_eq (k := z2.toInt) (q := (0)) c5 rfl (by decide +kernel)
    refine lv_iconst (v := (-1)) hx hb dX6_island_21 (by decide +kernel) ?_
    subst hR; subst hQz
    exact W.iret (v := (-1)) hx hb hr (fun t ht hW => ⟨⟨(-1), (), rfl, (fun σ h => by refine ⟨fun w => ?_, fun _ => by decide +kernel⟩; have w2 := w.2; first | (exfalso; exact xpz2.2 t5 (by rw [cx_0 h]; exact w.1)) | (exfalso; omega) | (exfalso; exact xpz15 t18 w.2.2) | (exfalso; have a := w.2.2; exact xpz15 t18 ⟨by omega, by omega⟩) | (have n40 := t40; have q := xpz2.1 t5; rw [cx_0 h] at q; have c := cxA_m (m := p1) h q; rw [show fm Q (an Q p0) p1.toInt.toNat = y31 from (by rw [show an Q p0 = y24 from gd_of ey24]; exact fm_of ey27 ey31)] at c; have k := cxM_ok c.1 c.2; have o1 := c.2.1; have o2 := c.2.2.1; have eW := congrArg Int32.toInt c.1.1; have eH := congrArg Int32.toInt c.1.2.1; have eD : md (J (wo Q y31)) = md (mF σ p1) := funext fun x => funext fun y => md_congr c.1.2.2.1 x y; exact ⟨⟨fun _ => by unfold ilN; rw [if_neg t40]; decide +kernel, fun a => absurd a (by omega), fun a => absurd a (by omega)⟩, c.2⟩) | (have q := xpz2.1 t5; rw [cx_0 h] at q; have c := cxA_m (m := p1) h q; rw [show fm Q (an Q p0) p1.toInt.toNat = y31 from (by rw [show an Q p0 = y24 from gd_of ey24]; exact fm_of ey27 ey31)] at c; have k := cxM_ok c.1 c.2; have o1 := c.2.1; have o2 := c.2.2.1; have eW := congrArg Int32.toInt c.1.1; have eH := congrArg Int32.toInt c.1.2.1; have eD : md (J (wo Q y31)) = md (mF σ p1) := funext fun x => funext fun y => md_congr c.1.2.2.1 x y; have ne : ¬ y31 = a0 Q y58 0 := (fun e => by obtain ⟨yo, eyo, hLo, hKo, hGo⟩ := oQ_2_0 (Sv_at hQ hLy58 hKy58); rw [show a0 Q y58 0 = yo from gd_of eyo] at e; rw [← e] at hGo; omega); have N := (jz64 k.1 ne).1 t67; rw [eD] at N; exact ⟨⟨fun a => absurd a t36, fun _ _ => by decide +kernel, fun a b => absurd ⟨a, b⟩ N⟩, c.2⟩)), ⟨I, J, ⟨hI, fr_I, dn_I, (fun σ A => cxA_scr hQ hLp0 hKp0 fr_I (fun _ _ _ => rfl) A), dj_J⟩, by rw [ht]; exact hP⟩⟩, hS.F ht⟩) hS.2.2 dX6_island_22
  · have t5 := tq_ne (k := z2.toInt) (q := (0)) c5 rfl (by decide +kernel)
    have i5 := imz2 t5
    refine lv_iload_n hx hb dX6_island_8 rfl (lv_at hl 2 rfl) ?_
    refine lv_iconst (v := (-1)) hx hb dX6_island_9 (by decide +kernel) ?_
    refine lv_icmp_lt (tgt := 21) hx hb dX6_island_10 (by decide) (fun c10 => ?_) (fun c10 => ?_)
    · have t10 := tq_lt (k := p2.toInt) (q := (-1)) c10 rfl (by decide +kernel)
      refine lv_iconst (v := (-1)) hx hb dX6_island_21 (by decide +kernel) ?_
      subst hR; subst hQz
      exact W.iret (v := (-1)) hx hb hr (fun t ht hW => ⟨⟨(-1), (), rfl, (fun σ h => by refine ⟨fun w => ?_, fun _ => by decide +kernel⟩; have w2 := w.2; first | (exfalso; exact xpz2.2 t5 (by rw [cx_0 h]; exact w.1)) | (exfalso; omega) | (exfalso; exact xpz15 t18 w.2.2) | (exfalso; have a := w.2.2; exact xpz15 t18 ⟨by omega, by omega⟩) | (have n40 := t40; have q := xpz2.1 t5; rw [cx_0 h] at q; have c := cxA_m (m := p1) h q; rw [show fm Q (an Q p0) p1.toInt.toNat = y31 from (by rw [show an Q p0 = y24 from gd_of ey24]; exact fm_of ey27 ey31)] at c; have k := cxM_ok c.1 c.2; have o1 := c.2.1; have o2 := c.2.2.1; have eW := congrArg Int32.toInt c.1.1; have eH := congrArg Int32.toInt c.1.2.1; have eD : md (J (wo Q y31)) = md (mF σ p1) := funext fun x => funext fun y => md_congr c.1.2.2.1 x y; exact ⟨⟨fun _ => by unfold ilN; rw [if_neg t40]; decide +kernel, fun a => absurd a (by omega), fun a => absurd a (by omega)⟩, c.2⟩) | (have q := xpz2.1 t5; rw [cx_0 h] at q; have c := cxA_m (m := p1) h q; rw [show fm Q (an Q p0) p1.toInt.toNat = y31 from (by rw [show an Q p0 = y24 from gd_of ey24]; exact fm_of ey27 ey31)] at c; have k := cxM_ok c.1 c.2; have o1 := c.2.1; have o2 := c.2.2.1; have eW := congrArg Int32.toInt c.1.1; have eH := congrArg Int32.toInt c.1.2.1; have eD : md (J (wo Q y31)) = md (mF σ p1) := funext fun x => funext fun y => md_congr c.1.2.2.1 x y; have ne : ¬ y31 = a0 Q y58 0 := (fun e => by obtain ⟨yo, eyo, hLo, hKo, hGo⟩ := oQ_2_0 (Sv_at hQ hLy58 hKy58); rw [show a0 Q y58 0 = yo from gd_of eyo] at e; rw [← e] at hGo; omega); have N := (jz64 k.1 ne).1 t67; rw [eD] at N; exact ⟨⟨fun a => absurd a t36, fun _ _ => by decide +kernel, fun a b => absurd ⟨a, b⟩ N⟩, c.2⟩)), ⟨I, J, ⟨hI, fr_I, dn_I, (fun σ A => cxA_scr hQ hLp0 hKp0 fr_I (fun _ _ _ => rfl) A), dj_J⟩, by rw [ht]; exact hP⟩⟩, hS.F ht⟩) hS.2.2 dX6_island_22
    · have t10 := tq_nlt (k := p2.toInt) (q := (-1)) c10 rfl (by decide +kernel)
      refine lv_iload_n hx hb dX6_island_13 rfl (lv_at hl 3 rfl) ?_
      refine lv_iconst (v := 4) hx hb dX6_island_14 (by decide +kernel) ?_
      refine ro_i (va_runS (As := [.int p3, .int 4]) (rest := []) ⟨hx, hb, hml, hown, hts⟩ (s_X6_isFrom0To l dC dI cs L K G Q hQ x0 m0 tx tm H.size I J hI p3 4) (va_cwS 2 hts (gS pq651 pq652 pq74 pq653) rfl rfl rfl (by decide +kernel) ⟨(by rw [hR]; exact (Nat.le_of_ble_eq_true rfl)), (by rw [hR]; exact (Nat.le_of_ble_eq_true rfl))⟩) (sP_S hP hD hK hN) rfl rfl hl.1 rfl (lv_room (Nat.le_of_ble_eq_true rfl)) dX6_island_15 ⟨(by rw [hR]; exact (Nat.le_of_ble_eq_true rfl)), (by rw [hR]; exact (Nat.le_of_ble_eq_true rfl))⟩) hS hP (fun z15 H locs hz15 hP hS => ?_)
      have cst15_4 : (4 : Int32).toInt = 4 := by decide +kernel
      obtain ⟨bz15, imz15, xpz15⟩ := hz15
      try rw [cst15_4] at xpz15
      refine lv_if_ne (tgt := 23) hx hb dX6_island_18 (by decide) (fun c18 => ?_) (fun c18 => ?_)
      · have t18 := tq_ne (k := z15.toInt) (q := (0)) c18 rfl (by decide +kernel)
        have i18 := imz15 t18
        refine lv_aload_n hx hb dX6_island_23 rfl (lv_at hl 0 rfl) ?_
        obtain ⟨y24, ey24, hLy24, hKy24, hGy24⟩ := oQ_6_2 (Sv_at hQ hLp0 hKp0)
        refine p_get (v := .ref y24) hx hb hts inX6 hown hK hP hLp0 hKp0 rfl rfl 2 (by decide) (hts _ pq351) (congrArg (fun q => some (va_rf q)) ey24) dX6_island_24 ?_
        obtain ⟨y27, ey27, hLy27, hKy27, hGy27⟩ := oQ_1_0 (Sv_at hQ hLy24 hKy24)
        refine p_get (v := .ref y27) hx hb hts inX1 hown hK hP hLy24 hKy24 rfl rfl 0 (by decide) (hts _ pq216) (congrArg (fun q => some (va_rf q)) ey27) dX6_island_27 ?_
        refine lv_iload_n hx hb dX6_island_30 rfl (lv_at hl 1 rfl) ?_
        obtain ⟨y31, ey31, hLy31, hKy31, hGy31⟩ := (Sv_at hQ hLy27 hKy27).1 p1.toNatClampNeg (clamp_lt (n := 8) (in_of (by omega) (by omega)))
        have hjy31 : p1.toNatClampNeg < 8 := clamp_lt (i := p1) (n := 8) (in_of (by omega) (by omega))
        refine p_aaldR hx hb hK hP 3 hLy27 hKy27 rfl rfl (in_of (by omega) (by omega)) ey31 dX6_island_31 ?_
        refine lv_astore (lv' := [(4, .ref y31), (0, .ref p0), (1, .int p1), (2, .int p2), (3, .int p3)]) hx hb dX6_island_32 hl (by decide) rfl (fun ls hl => ?_)
        refine lv_iload_n hx hb dX6_island_34 rfl (lv_at hl 3 rfl) ?_
        refine lv_iconst (v := (-1)) hx hb dX6_island_35 (by decide +kernel) ?_
        refine lv_icmp_ne (tgt := 57) hx hb dX6_island_36 (by decide) (fun c36 => ?_) (fun c36 => ?_)
        · have t36 := tq_ne (k := p2.toInt) (q := (-1)) c36 rfl (by decide +kernel)
          refine lv_aload_n hx hb dX6_island_57 rfl (lv_at hl 1 rfl) ?_
          obtain ⟨y58, ey58, hLy58, hKy58⟩ := oQ_6_7 (Sv_at hQ hLp0 hKp0)
          refine p_get (v := .ref y58) hx hb hts inX6 hown hK hP hLp0 hKp0 rfl rfl 7 (by decide) (hts _ pq356) (congrArg (fun q => some (va_rf q)) ey58) dX6_island_58 ?_
          refine lv_aload hx hb dX6_island_61 (lv_at hl 0 rfl) ?_
          refine lv_iload_n hx hb dX6_island_63 rfl (lv_at hl 3 rfl) ?_
          refine sw_ir (Z := (fun u => (fun I1 J1 => Iv L K x0 m0 tx tm I1 ∧ (∀ b, ¬ (K b = 2 ∨ K b = 5 ∨ K b = 11 ∨ (K b = 3 ∧ G b / 100 = 4)) → I1 b = I b) ∧ (okm (I y31 0).toInt (I y31 1).toInt (J (wo Q y31)) → ¬ y31 = a0 Q y58 0 → (u.toInt = 0 → ¬ (0 ≤ p2.toInt ∧ p2.toInt < isT (B2P (md (J (wo Q y31)))))) ∧ (¬ u.toInt = 0 → ∃ p : Int × Int, fstP (B2P (md (J (wo Q y31)))) p ∧ isN (B2P (md (J (wo Q y31)))) p.2 p.1 = p2.toInt ∧ (I1 y58 3).toInt = (cntD (cpB (B2P (md (J (wo Q y31)))) p) : Int) ∧ exD (cpB (B2P (md (J (wo Q y31)))) p) ((I1 y58 4).toInt, (I1 y58 5).toInt, (I1 y58 6).toInt, (I1 y58 7).toInt))) ∧ (∀ b, ¬ (K b = 12 ∧ (G b = 401)) → J1 b = J b)))) (va_runV (As := [.ref y31, .int p2]) (rest := []) ⟨hx, hb, hml, hown, hts⟩ (s_X2_findIsland l dC dI cs L K G Q hQ x0 m0 tx tm H.size I J hI y58 hLy58 hKy58 y31 hLy31 hKy31 p2) (cwV 2 hts (gV pq890 pq891 pq892 pq80 pq893) rfl rfl rfl (by decide +kernel) ⟨(by rw [hR]; exact (Nat.le_of_ble_eq_true rfl)), (by rw [hR]; exact (Nat.le_of_ble_eq_true rfl))⟩) (sP_V hP hD hK hN hLy58 hKy58 rfl rfl) rfl rfl hl.1 rfl (lv_room (Nat.le_of_ble_eq_true rfl)) dX6_island_64 ⟨(by rw [hR]; exact (Nat.le_of_ble_eq_true rfl)), (by rw [hR]; exact (Nat.le_of_ble_eq_true rfl))⟩) hS hAL hA (fun z64 Iz64 Jz64 H locs hz64 hIz64 hP hS => ?_)
          obtain ⟨hIz64, frc64, jz64, djc64⟩ := hIz64
          have dj_Jz64 : (∀ b, ¬ (K b = 12 ∧ (G b = 401)) → Jz64 b = J b) := fun b hc => (djc64 b (fun z => hc (by exact ⟨z.1, by have z2 := z.2; omega⟩))).trans (dj_J b hc)
          have dn_Iz64 : (∀ b, K b = 7 ∨ K b = 18 ∨ K b = 19 ∨ K b = 20 ∨ K b = 24 → Iz64 b = I b) := fun b hc => (frc64 b (by omega)).trans (dn_I b hc)
          have fr_Iz64 : ∀ b, ¬ (K b = 2 ∨ K b = 5 ∨ K b = 11 ∨ (K b = 3 ∧ G b / 100 = 4)) → Iz64 b = I b := fun b q => (frc64 b (fun z => q (by omega))).trans (fr_I b q)
          have bz64 := hz64
          refine lv_if_ne (tgt := 72) hx hb dX6_island_67 (by decide) (fun c67 => ?_) (fun c67 => ?_)
          · have t67 := tq_ne (k := z64.toInt) (q := (0)) c67 rfl (by decide +kernel)
            refine lv_iload_n hx hb dX6_island_72 rfl (lv_at hl 4 rfl) ?_
            refine lv_topi (fun z73 ez73 => ?_)
            rcases sw4 z73 with rfl | rfl | rfl | rfl | hsw73
            · refine lv_tableIn (off := 31) (tgt := 104) hx hb dX6_island_73 (by decide +kernel) (by decide +kernel) (by decide +kernel) (by decide) ?_
              have sv73 : p3.toInt = 0 := by rw [← ez73]; decide +kernel
              refine lv_aload_n hx hb dX6_island_104 rfl (lv_at hl 1 rfl) ?_
              refine p_get (v := .ref y58) hx hb hts inX6 hown hK hP hLp0 hKp0 rfl rfl 7 (by decide) (hts _ pq356) (congrArg (fun q => some (va_rf q)) ey58) dX6_island_105 ?_
              refine p_get hx hb hts inX2 hown hK hP hLy58 hKy58 rfl rfl 3 (by decide) (hts _ pq321) rfl dX6_island_108 ?_
              refine lv_topi (fun z108 ez108 => ?_)
              have cgz108 := congrArg Int32.toInt ez108
              have bz108 := oI_2_3 (Iv_at hIz64 hLy58 hKy58)
              rw [← ez108] at bz108
              subst hR; subst hQz
              exact W.iret (v := z108) hx hb hr (fun t ht hW => ⟨⟨z108, (), rfl, (fun σ h => by have q := xpz2.1 t5; rw [cx_0 h] at q; have c := cxA_m (m := p1) h q; rw [show fm Q (an Q p0) p1.toInt.toNat = y31 from (by rw [show an Q p0 = y24 from gd_of ey24]; exact fm_of ey27 ey31)] at c; have k := cxM_ok c.1 c.2; have o1 := c.2.1; have o2 := c.2.2.1; have eW := congrArg Int32.toInt c.1.1; have eH := congrArg Int32.toInt c.1.2.1; have eD : md (J (wo Q y31)) = md (mF σ p1) := funext fun x => funext fun y => md_congr c.1.2.2.1 x y; have ne : ¬ y31 = a0 Q y58 0 := (fun e => by obtain ⟨yo, eyo, hLo, hKo, hGo⟩ := oQ_2_0 (Sv_at hQ hLy58 hKy58); rw [show a0 Q y58 0 = yo from gd_of eyo] at e; rw [← e] at hGo; omega); have e73 := congrArg Int32.toInt ez73; (try rw [show (0 : Int32).toInt = 0 from by decide +kernel] at e73); obtain ⟨p, f1, f2, f3, f4⟩ := (jz64 k.1 ne).2 t67; rw [eD] at f1 f2 f3 f4; have lt := fst_lt (fun u d => md_R c.2 u d) f1; exact ⟨fun _ => ⟨⟨fun a => absurd a t36, fun a b => absurd b (by omega), fun _ _ => ⟨p, _, f1, f2, f4, by unfold ilA; rw [if_pos (by omega)]; rw [← f3]; exact congrArg Int32.toInt ez108⟩⟩, c.2⟩, fun n => absurd ⟨q, by omega, by omega, by omega⟩ n⟩), ⟨Iz64, Jz64, ⟨hIz64, fr_Iz64, dn_Iz64, (fun σ A => cxA_scr hQ hLp0 hKp0 fr_Iz64 (fun b h1 h2 => dj_Jz64 b (fun z => h2 (by omega))) A), dj_Jz64⟩, by rw [ht]; exact hP⟩⟩, hS.F ht⟩) hS.2.2 dX6_island_111
            · refine lv_tableIn (off := 39) (tgt := 112) hx hb dX6_island_73 (by decide +kernel) (by decide +kernel) (by decide +kernel) (by decide) ?_
              have sv73 : p3.toInt = 1 := by rw [← ez73]; decide +kernel
              refine lv_aload_n hx hb dX6_island_112 rfl (lv_at hl 1 rfl) ?_
              refine p_get (v := .ref y58) hx hb hts inX6 hown hK hP hLp0 hKp0 rfl rfl 7 (by decide) (hts _ pq356) (congrArg (fun q => some (va_rf q)) ey58) dX6_island_113 ?_
              refine p_get hx hb hts inX2 hown hK hP hLy58 hKy58 rfl rfl 4 (by decide) (hts _ pq323) rfl dX6_island_116 ?_
              refine lv_topi (fun z116 ez116 => ?_)
              subst hR; subst hQz
              exact W.iret (v := z116) hx hb hr (fun t ht hW => ⟨⟨z116, (), rfl, (fun σ h => by have q := xpz2.1 t5; rw [cx_0 h] at q; have c := cxA_m (m := p1) h q; rw [show fm Q (an Q p0) p1.toInt.toNat = y31 from (by rw [show an Q p0 = y24 from gd_of ey24]; exact fm_of ey27 ey31)] at c; have k := cxM_ok c.1 c.2; have o1 := c.2.1; have o2 := c.2.2.1; have eW := congrArg Int32.toInt c.1.1; have eH := congrArg Int32.toInt c.1.2.1; have eD : md (J (wo Q y31)) = md (mF σ p1) := funext fun x => funext fun y => md_congr c.1.2.2.1 x y; have ne : ¬ y31 = a0 Q y58 0 := (fun e => by obtain ⟨yo, eyo, hLo, hKo, hGo⟩ := oQ_2_0 (Sv_at hQ hLy58 hKy58); rw [show a0 Q y58 0 = yo from gd_of eyo] at e; rw [← e] at hGo; omega); have e73 := congrArg Int32.toInt ez73; (try rw [show (1 : Int32).toInt = 1 from by decide +kernel] at e73); obtain ⟨p, f1, f2, f3, f4⟩ := (jz64 k.1 ne).2 t67; rw [eD] at f1 f2 f3 f4; have lt := fst_lt (fun u d => md_R c.2 u d) f1; exact ⟨fun _ => ⟨⟨fun a => absurd a t36, fun a b => absurd b (by omega), fun _ _ => ⟨p, _, f1, f2, f4, by unfold ilA; rw [if_neg (by omega), if_pos (by omega)]; exact congrArg Int32.toInt ez116⟩⟩, c.2⟩, fun n => absurd ⟨q, by omega, by omega, by omega⟩ n⟩), ⟨Iz64, Jz64, ⟨hIz64, fr_Iz64, dn_Iz64, (fun σ A => cxA_scr hQ hLp0 hKp0 fr_Iz64 (fun b h1 h2 => dj_Jz64 b (fun z => h2 (by omega))) A), dj_Jz64⟩, by rw [ht]; exact hP⟩⟩, hS.F ht⟩) hS.2.2 dX6_island_119
            · refine lv_tableIn (off := 47) (tgt := 120) hx hb dX6_island_73 (by decide +kernel) (by decide +kernel) (by decide +kernel) (by decide) ?_
              have sv73 : p3.toInt = 2 := by rw [← ez73]; decide +kernel
              refine lv_aload_n hx hb dX6_island_120 rfl (lv_at hl 1 rfl) ?_
              refine p_get (v := .ref y58) hx hb hts inX6 hown hK hP hLp0 hKp0 rfl rfl 7 (by decide) (hts _ pq356) (congrArg (fun q => some (va_rf q)) ey58) dX6_island_121 ?_
              refine p_get hx hb hts inX2 hown hK hP hLy58 hKy58 rfl rfl 5 (by decide) (hts _ pq325) rfl dX6_island_124 ?_
              refine lv_topi (fun z124 ez124 => ?_)
              subst hR; subst hQz
              exact W.iret (v := z124) hx hb hr (fun t ht hW => ⟨⟨z124, (), rfl, (fun σ h => by have q := xpz2.1 t5; rw [cx_0 h] at q; have c := cxA_m (m := p1) h q; rw [show fm Q (an Q p0) p1.toInt.toNat = y31 from (by rw [show an Q p0 = y24 from gd_of ey24]; exact fm_of ey27 ey31)] at c; have k := cxM_ok c.1 c.2; have o1 := c.2.1; have o2 := c.2.2.1; have eW := congrArg Int32.toInt c.1.1; have eH := congrArg Int32.toInt c.1.2.1; have eD : md (J (wo Q y31)) = md (mF σ p1) := funext fun x => funext fun y => md_congr c.1.2.2.1 x y; have ne : ¬ y31 = a0 Q y58 0 := (fun e => by obtain ⟨yo, eyo, hLo, hKo, hGo⟩ := oQ_2_0 (Sv_at hQ hLy58 hKy58); rw [show a0 Q y58 0 = yo from gd_of eyo] at e; rw [← e] at hGo; omega); have e73 := congrArg Int32.toInt ez73; (try rw [show (2 : Int32).toInt = 2 from by decide +kernel] at e73); obtain ⟨p, f1, f2, f3, f4⟩ := (jz64 k.1 ne).2 t67; rw [eD] at f1 f2 f3 f4; have lt := fst_lt (fun u d => md_R c.2 u d) f1; exact ⟨fun _ => ⟨⟨fun a => absurd a t36, fun a b => absurd b (by omega), fun _ _ => ⟨p, _, f1, f2, f4, by unfold ilA; rw [if_neg (by omega), if_neg (by omega), if_pos (by omega)]; exact congrArg Int32.toInt ez124⟩⟩, c.2⟩, fun n => absurd ⟨q, by omega, by omega, by omega⟩ n⟩), ⟨Iz64, Jz64, ⟨hIz64, fr_Iz64, dn_Iz64, (fun σ A => cxA_scr hQ hLp0 hKp0 fr_Iz64 (fun b h1 h2 => dj_Jz64 b (fun z => h2 (by omega))) A), dj_Jz64⟩, by rw [ht]; exact hP⟩⟩, hS.F ht⟩) hS.2.2 dX6_island_127
            · refine lv_tableIn (off := 55) (tgt := 128) hx hb dX6_island_73 (by decide +kernel) (by decide +kernel) (by decide +kernel) (by decide) ?_
              have sv73 : p3.toInt = 3 := by rw [← ez73]; decide +kernel
              refine lv_aload_n hx hb dX6_island_128 rfl (lv_at hl 1 rfl) ?_
              refine p_get (v := .ref y58) hx hb hts inX6 hown hK hP hLp0 hKp0 rfl rfl 7 (by decide) (hts _ pq356) (congrArg (fun q => some (va_rf q)) ey58) dX6_island_129 ?_
              refine p_get hx hb hts inX2 hown hK hP hLy58 hKy58 rfl rfl 6 (by decide) (hts _ pq327) rfl dX6_island_132 ?_
              refine lv_topi (fun z132 ez132 => ?_)
              subst hR; subst hQz
              exact W.iret (v := z132) hx hb hr (fun t ht hW => ⟨⟨z132, (), rfl, (fun σ h => by have q := xpz2.1 t5; rw [cx_0 h] at q; have c := cxA_m (m := p1) h q; rw [show fm Q (an Q p0) p1.toInt.toNat = y31 from (by rw [show an Q p0 = y24 from gd_of ey24]; exact fm_of ey27 ey31)] at c; have k := cxM_ok c.1 c.2; have o1 := c.2.1; have o2 := c.2.2.1; have eW := congrArg Int32.toInt c.1.1; have eH := congrArg Int32.toInt c.1.2.1; have eD : md (J (wo Q y31)) = md (mF σ p1) := funext fun x => funext fun y => md_congr c.1.2.2.1 x y; have ne : ¬ y31 = a0 Q y58 0 := (fun e => by obtain ⟨yo, eyo, hLo, hKo, hGo⟩ := oQ_2_0 (Sv_at hQ hLy58 hKy58); rw [show a0 Q y58 0 = yo from gd_of eyo] at e; rw [← e] at hGo; omega); have e73 := congrArg Int32.toInt ez73; (try rw [show (3 : Int32).toInt = 3 from by decide +kernel] at e73); obtain ⟨p, f1, f2, f3, f4⟩ := (jz64 k.1 ne).2 t67; rw [eD] at f1 f2 f3 f4; have lt := fst_lt (fun u d => md_R c.2 u d) f1; exact ⟨fun _ => ⟨⟨fun a => absurd a t36, fun a b => absurd b (by omega), fun _ _ => ⟨p, _, f1, f2, f4, by unfold ilA; rw [if_neg (by omega), if_neg (by omega), if_neg (by omega), if_pos (by omega)]; exact congrArg Int32.toInt ez132⟩⟩, c.2⟩, fun n => absurd ⟨q, by omega, by omega, by omega⟩ n⟩), ⟨Iz64, Jz64, ⟨hIz64, fr_Iz64, dn_Iz64, (fun σ A => cxA_scr hQ hLp0 hKp0 fr_Iz64 (fun b h1 h2 => dj_Jz64 b (fun z => h2 (by omega))) A), dj_Jz64⟩, by rw [ht]; exact hP⟩⟩, hS.F ht⟩) hS.2.2 dX6_island_135
            · refine lv_tableOut (tgt := 136) hx hb dX6_island_73 hsw73 (by decide) ?_
              refine lv_aload_n hx hb dX6_island_136 rfl (lv_at hl 1 rfl) ?_
              refine p_get (v := .ref y58) hx hb hts inX6 hown hK hP hLp0 hKp0 rfl rfl 7 (by decide) (hts _ pq356) (congrArg (fun q => some (va_rf q)) ey58) dX6_island_137 ?_
              refine p_get hx hb hts inX2 hown hK hP hLy58 hKy58 rfl rfl 7 (by decide) (hts _ pq329) rfl dX6_island_140 ?_
              refine lv_topi (fun z140 ez140 => ?_)
              subst hR; subst hQz
              exact W.iret (v := z140) hx hb hr (fun t ht hW => ⟨⟨z140, (), rfl, (fun σ h => by have q := xpz2.1 t5; rw [cx_0 h] at q; have c := cxA_m (m := p1) h q; rw [show fm Q (an Q p0) p1.toInt.toNat = y31 from (by rw [show an Q p0 = y24 from gd_of ey24]; exact fm_of ey27 ey31)] at c; have k := cxM_ok c.1 c.2; have o1 := c.2.1; have o2 := c.2.2.1; have eW := congrArg Int32.toInt c.1.1; have eH := congrArg Int32.toInt c.1.2.1; have eD : md (J (wo Q y31)) = md (mF σ p1) := funext fun x => funext fun y => md_congr c.1.2.2.1 x y; have ne : ¬ y31 = a0 Q y58 0 := (fun e => by obtain ⟨yo, eyo, hLo, hKo, hGo⟩ := oQ_2_0 (Sv_at hQ hLy58 hKy58); rw [show a0 Q y58 0 = yo from gd_of eyo] at e; rw [← e] at hGo; omega); have e73 := congrArg Int32.toInt ez73; obtain ⟨p, f1, f2, f3, f4⟩ := (jz64 k.1 ne).2 t67; rw [eD] at f1 f2 f3 f4; have lt := fst_lt (fun u d => md_R c.2 u d) f1; exact ⟨fun _ => ⟨⟨fun a => absurd a t36, fun a b => absurd b (by omega), fun _ _ => ⟨p, _, f1, f2, f4, by unfold ilA; rw [if_neg (by omega), if_neg (by omega), if_neg (by omega), if_neg (by omega)]; exact congrArg Int32.toInt ez140⟩⟩, c.2⟩, fun n => absurd ⟨q, by omega, by omega, by omega⟩ n⟩), ⟨Iz64, Jz64, ⟨hIz64, fr_Iz64, dn_Iz64, (fun σ A => cxA_scr hQ hLp0 hKp0 fr_Iz64 (fun b h1 h2 => dj_Jz64 b (fun z => h2 (by omega))) A), dj_Jz64⟩, by rw [ht]; exact hP⟩⟩, hS.F ht⟩) hS.2.2 dX6_island_143
          · have t67 := tq_eq (k := z64.toInt) (q := (0)) c67 rfl (by decide +kernel)
            refine lv_iconst (v := (-1)) hx hb dX6_island_70 (by decide +kernel) ?_
            subst hR; subst hQz
            exact W.iret (v := (-1)) hx hb hr (fun t ht hW => ⟨⟨(-1), (), rfl, (fun σ h => by refine ⟨fun w => ?_, fun _ => by decide +kernel⟩; have w2 := w.2; first | (exfalso; exact xpz2.2 t5 (by rw [cx_0 h]; exact w.1)) | (exfalso; omega) | (exfalso; exact xpz15 t18 w.2.2) | (exfalso; have a := w.2.2; exact xpz15 t18 ⟨by omega, by omega⟩) | (have n40 := t40; have q := xpz2.1 t5; rw [cx_0 h] at q; have c := cxA_m (m := p1) h q; rw [show fm Q (an Q p0) p1.toInt.toNat = y31 from (by rw [show an Q p0 = y24 from gd_of ey24]; exact fm_of ey27 ey31)] at c; have k := cxM_ok c.1 c.2; have o1 := c.2.1; have o2 := c.2.2.1; have eW := congrArg Int32.toInt c.1.1; have eH := congrArg Int32.toInt c.1.2.1; have eD : md (J (wo Q y31)) = md (mF σ p1) := funext fun x => funext fun y => md_congr c.1.2.2.1 x y; exact ⟨⟨fun _ => by unfold ilN; rw [if_neg t40]; decide +kernel, fun a => absurd a (by omega), fun a => absurd a (by omega)⟩, c.2⟩) | (have q := xpz2.1 t5; rw [cx_0 h] at q; have c := cxA_m (m := p1) h q; rw [show fm Q (an Q p0) p1.toInt.toNat = y31 from (by rw [show an Q p0 = y24 from gd_of ey24]; exact fm_of ey27 ey31)] at c; have k := cxM_ok c.1 c.2; have o1 := c.2.1; have o2 := c.2.2.1; have eW := congrArg Int32.toInt c.1.1; have eH := congrArg Int32.toInt c.1.2.1; have eD : md (J (wo Q y31)) = md (mF σ p1) := funext fun x => funext fun y => md_congr c.1.2.2.1 x y; have ne : ¬ y31 = a0 Q y58 0 := (fun e => by obtain ⟨yo, eyo, hLo, hKo, hGo⟩ := oQ_2_0 (Sv_at hQ hLy58 hKy58); rw [show a0 Q y58 0 = yo from gd_of eyo] at e; rw [← e] at hGo; omega); have N := (jz64 k.1 ne).1 t67; rw [eD] at N; exact ⟨⟨fun a => absurd a t36, fun _ _ => by decide +kernel, fun a b => absurd ⟨a, b⟩ N⟩, c.2⟩)), ⟨Iz64, Jz64, ⟨hIz64, fr_Iz64, dn_Iz64, (fun σ A => cxA_scr hQ hLp0 hKp0 fr_Iz64 (fun b h1 h2 => dj_Jz64 b (fun z => h2 (by omega))) A), dj_Jz64⟩, by rw [ht]; exact hP⟩⟩, hS.F ht⟩) hS.2.2 dX6_island_71
        · have t36 := tq_eq (k := p2.toInt) (q := (-1)) c36 rfl (by decide +kernel)
          refine lv_iload_n hx hb dX6_island_39 rfl (lv_at hl 4 rfl) ?_
          refine lv_if_ne (tgt := 55) hx hb dX6_island_40 (by decide) (fun c40 => ?_) (fun c40 => ?_)
          · have t40 := tq_ne (k := p3.toInt) (q := (0)) c40 rfl (by decide +kernel)
            refine lv_iconst (v := (-1)) hx hb dX6_island_55 (by decide +kernel) ?_
            subst hR; subst hQz
            exact W.iret (v := (-1)) hx hb hr (fun t ht hW => ⟨⟨(-1), (), rfl, (fun σ h => by refine ⟨fun w => ?_, fun _ => by decide +kernel⟩; have w2 := w.2; first | (exfalso; exact xpz2.2 t5 (by rw [cx_0 h]; exact w.1)) | (exfalso; omega) | (exfalso; exact xpz15 t18 w.2.2) | (exfalso; have a := w.2.2; exact xpz15 t18 ⟨by omega, by omega⟩) | (have n40 := t40; have q := xpz2.1 t5; rw [cx_0 h] at q; have c := cxA_m (m := p1) h q; rw [show fm Q (an Q p0) p1.toInt.toNat = y31 from (by rw [show an Q p0 = y24 from gd_of ey24]; exact fm_of ey27 ey31)] at c; have k := cxM_ok c.1 c.2; have o1 := c.2.1; have o2 := c.2.2.1; have eW := congrArg Int32.toInt c.1.1; have eH := congrArg Int32.toInt c.1.2.1; have eD : md (J (wo Q y31)) = md (mF σ p1) := funext fun x => funext fun y => md_congr c.1.2.2.1 x y; exact ⟨⟨fun _ => by unfold ilN; rw [if_neg t40]; decide +kernel, fun a => absurd a (by omega), fun a => absurd a (by omega)⟩, c.2⟩) | (have q := xpz2.1 t5; rw [cx_0 h] at q; have c := cxA_m (m := p1) h q; rw [show fm Q (an Q p0) p1.toInt.toNat = y31 from (by rw [show an Q p0 = y24 from gd_of ey24]; exact fm_of ey27 ey31)] at c; have k := cxM_ok c.1 c.2; have o1 := c.2.1; have o2 := c.2.2.1; have eW := congrArg Int32.toInt c.1.1; have eH := congrArg Int32.toInt c.1.2.1; have eD : md (J (wo Q y31)) = md (mF σ p1) := funext fun x => funext fun y => md_congr c.1.2.2.1 x y; have ne : ¬ y31 = a0 Q y58 0 := (fun e => by obtain ⟨yo, eyo, hLo, hKo, hGo⟩ := oQ_2_0 (Sv_at hQ hLy58 hKy58); rw [show a0 Q y58 0 = yo from gd_of eyo] at e; rw [← e] at hGo; omega); have N := (jz64 k.1 ne).1 t67; rw [eD] at N; exact ⟨⟨fun a => absurd a t36, fun _ _ => by decide +kernel, fun a b => absurd ⟨a, b⟩ N⟩, c.2⟩)), ⟨I, J, ⟨hI, fr_I, dn_I, (fun σ A => cxA_scr hQ hLp0 hKp0 fr_I (fun _ _ _ => rfl) A), dj_J⟩, by rw [ht]; exact hP⟩⟩, hS.F ht⟩) hS.2.2 dX6_island_56
          · have t40 := tq_eq (k := p3.toInt) (q := (0)) c40 rfl (by decide +kernel)
            refine lv_aload_n hx hb dX6_island_43 rfl (lv_at hl 1 rfl) ?_
            obtain ⟨y44, ey44, hLy44, hKy44⟩ := oQ_6_7 (Sv_at hQ hLp0 hKp0)
            refine p_get (v := .ref y44) hx hb hts inX6 hown hK hP hLp0 hKp0 rfl rfl 7 (by decide) (hts _ pq356) (congrArg (fun q => some (va_rf q)) ey44) dX6_island_44 ?_
            refine lv_aload hx hb dX6_island_47 (lv_at hl 0 rfl) ?_
            refine sw_i (Z := (fun I1 J1 => Iv L K x0 m0 tx tm I1 ∧ (∀ b, ¬ (K b = 2 ∨ K b = 5 ∨ K b = 11 ∨ (K b = 3 ∧ G b / 100 = 4)) → I1 b = I b) ∧ (∀ b, ¬ (K b = 12 ∧ (G b = 401)) → J1 b = J b))) (va_runV (As := [.ref y31]) (rest := []) ⟨hx, hb, hml, hown, hts⟩ (s_X2_countIslands l dC dI cs L K G Q hQ x0 m0 tx tm H.size I J hI y44 hLy44 hKy44 y31 hLy31 hKy31) (cwV 1 hts (gV pq849 pq850 pq851 pq80 pq852) rfl rfl rfl (by decide +kernel) ⟨(by rw [hR]; exact (Nat.le_of_ble_eq_true rfl)), (by rw [hR]; exact (Nat.le_of_ble_eq_true rfl))⟩) (sP_V hP hD hK hN hLy44 hKy44 rfl rfl) rfl rfl hl.1 rfl (lv_room (Nat.le_of_ble_eq_true rfl)) dX6_island_49 ⟨(by rw [hR]; exact (Nat.le_of_ble_eq_true rfl)), (by rw [hR]; exact (Nat.le_of_ble_eq_true rfl))⟩) hS hAL hA (fun z49 Iz49 Jz49 H locs hz49 hIz49 hP hS => ?_)
            obtain ⟨hIz49, frc49, djc49⟩ := hIz49
            have dj_Jz49 : (∀ b, ¬ (K b = 12 ∧ (G b = 401)) → Jz49 b = J b) := fun b hc => (djc49 b (fun z => hc (by exact ⟨z.1, by have z2 := z.2; omega⟩))).trans (dj_J b hc)
            have dn_Iz49 : (∀ b, K b = 7 ∨ K b = 18 ∨ K b = 19 ∨ K b = 20 ∨ K b = 24 → Iz49 b = I b) := fun b hc => (frc49 b (by omega)).trans (dn_I b hc)
            have fr_Iz49 : ∀ b, ¬ (K b = 2 ∨ K b = 5 ∨ K b = 11 ∨ (K b = 3 ∧ G b / 100 = 4)) → Iz49 b = I b := fun b q => (frc49 b (fun z => q (by omega))).trans (fr_I b q)
            have xpz49 := hz49
            refine lv_goto (tgt := 56) hx hb dX6_island_52 (by decide) ?_
            subst hR; subst hQz
            exact W.iret (v := z49) hx hb hr (fun t ht hW => ⟨⟨z49, (), rfl, (fun σ h => by have q := xpz2.1 t5; rw [cx_0 h] at q; have c := cxA_m (m := p1) h q; rw [show fm Q (an Q p0) p1.toInt.toNat = y31 from (by rw [show an Q p0 = y24 from gd_of ey24]; exact fm_of ey27 ey31)] at c; have k := cxM_ok c.1 c.2; have o1 := c.2.1; have o2 := c.2.2.1; have eW := congrArg Int32.toInt c.1.1; have eH := congrArg Int32.toInt c.1.2.1; have eD : md (J (wo Q y31)) = md (mF σ p1) := funext fun x => funext fun y => md_congr c.1.2.2.1 x y; have ne : ¬ y31 = a0 Q y44 0 := (fun e => by obtain ⟨yo, eyo, hLo, hKo, hGo⟩ := oQ_2_0 (Sv_at hQ hLy44 hKy44); rw [show a0 Q y44 0 = yo from gd_of eyo] at e; rw [← e] at hGo; omega); have w := xpz49 k.1 ne; rw [eD] at w; exact ⟨fun _ => ⟨⟨fun _ => by unfold ilN; rw [if_pos t40]; exact w, fun a => absurd a (by omega), fun a => absurd a (by omega)⟩, c.2⟩, fun n => absurd ⟨q, by omega, by omega, by omega⟩ n⟩), ⟨Iz49, Jz49, ⟨hIz49, fr_Iz49, dn_Iz49, (fun σ A => cxA_scr hQ hLp0 hKp0 fr_Iz49 (fun b h1 h2 => dj_Jz49 b (fun z => h2 (by omega))) A), dj_Jz49⟩, by rw [ht]; exact hP⟩⟩, hS.F ht⟩) hS.2.2 dX6_island_56
      · have t18 := tq_eq (k := z15.toInt) (q := (0)) c18 rfl (by decide +kernel)
        refine lv_iconst (v := (-1)) hx hb dX6_island_21 (by decide +kernel) ?_
        subst hR; subst hQz
        exact W.iret (v := (-1)) hx hb hr (fun t ht hW => ⟨⟨(-1), (), rfl, (fun σ h => by refine ⟨fun w => ?_, fun _ => by decide +kernel⟩; have w2 := w.2; first | (exfalso; exact xpz2.2 t5 (by rw [cx_0 h]; exact w.1)) | (exfalso; omega) | (exfalso; exact xpz15 t18 w.2.2) | (exfalso; have a := w.2.2; exact xpz15 t18 ⟨by omega, by omega⟩) | (have n40 := t40; have q := xpz2.1 t5; rw [cx_0 h] at q; have c := cxA_m (m := p1) h q; rw [show fm Q (an Q p0) p1.toInt.toNat = y31 from (by rw [show an Q p0 = y24 from gd_of ey24]; exact fm_of ey27 ey31)] at c; have k := cxM_ok c.1 c.2; have o1 := c.2.1; have o2 := c.2.2.1; have eW := congrArg Int32.toInt c.1.1; have eH := congrArg Int32.toInt c.1.2.1; have eD : md (J (wo Q y31)) = md (mF σ p1) := funext fun x => funext fun y => md_congr c.1.2.2.1 x y; exact ⟨⟨fun _ => by unfold ilN; rw [if_neg t40]; decide +kernel, fun a => absurd a (by omega), fun a => absurd a (by omega)⟩, c.2⟩) | (have q := xpz2.1 t5; rw [cx_0 h] at q; have c := cxA_m (m := p1) h q; rw [show fm Q (an Q p0) p1.toInt.toNat = y31 from (by rw [show an Q p0 = y24 from gd_of ey24]; exact fm_of ey27 ey31)] at c; have k := cxM_ok c.1 c.2; have o1 := c.2.1; have o2 := c.2.2.1; have eW := congrArg Int32.toInt c.1.1; have eH := congrArg Int32.toInt c.1.2.1; have eD : md (J (wo Q y31)) = md (mF σ p1) := funext fun x => funext fun y => md_congr c.1.2.2.1 x y; have ne : ¬ y31 = a0 Q y58 0 := (fun e => by obtain ⟨yo, eyo, hLo, hKo, hGo⟩ := oQ_2_0 (Sv_at hQ hLy58 hKy58); rw [show a0 Q y58 0 = yo from gd_of eyo] at e; rw [← e] at hGo; omega); have N := (jz64 k.1 ne).1 t67; rw [eD] at N; exact ⟨⟨fun a => absurd a t36, fun _ _ => by decide +kernel, fun a b => absurd ⟨a, b⟩ N⟩, c.2⟩)), ⟨I, J, ⟨hI, fr_I, dn_I, (fun σ A => cxA_scr hQ hLp0 hKp0 fr_I (fun _ _ _ => rfl) A), dj_J⟩, by rw [ht]; exact hP⟩⟩, hS.F ht⟩) hS.2.2 dX6_island_22
