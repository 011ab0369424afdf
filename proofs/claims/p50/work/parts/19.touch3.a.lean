def yX6_remember : MethodName := ⟨RX6, "remember", "()V"⟩
abbrev cX6_remember : ByteArray := prog_1_method_28_code
abbrev cX6_flip : ByteArray := prog_1_method_7_code
abbrev cX6_keep : ByteArray := prog_1_method_25_code
abbrev cX6_layers : ByteArray := prog_1_method_8_code
abbrev cX6_place : ByteArray := prog_1_method_6_code
abbrev cX6_speed : ByteArray := prog_1_method_9_code
abbrev cX6_turn : ByteArray := prog_1_method_10_code
def yX6_flip : MethodName := ⟨RX6, "flip", "(II)I"⟩
def yX6_keep : MethodName := ⟨RX6, "keep", "(I)I"⟩
def yX6_layers : MethodName := ⟨RX6, "layers", "(III)I"⟩
def yX6_place : MethodName := ⟨RX6, "place", "(III)I"⟩
def yX6_speed : MethodName := ⟨RX6, "speed", "(III)I"⟩
def yX6_turn : MethodName := ⟨RX6, "turn", "(III)I"⟩
theorem dX6_flip_0 : decode cX6_flip 0 = .ok (.aload_n 0, 1) := by decide +kernel
theorem dX6_flip_1 : decode cX6_flip 1 = .ok (.iload_n 1, 1) := by decide +kernel
theorem dX6_flip_2 : decode cX6_flip 2 = .ok (.invokevirtual 86, 3) := by decide +kernel
theorem dX6_flip_5 : decode cX6_flip 5 = .ok (.ifCond .eq 11, 3) := by decide +kernel
theorem dX6_flip_8 : decode cX6_flip 8 = .ok (.iload_n 2, 1) := by decide +kernel
theorem dX6_flip_9 : decode cX6_flip 9 = .ok (.iconst 3, 1) := by decide +kernel
theorem dX6_flip_10 : decode cX6_flip 10 = .ok (.invokestatic 109, 3) := by decide +kernel
theorem dX6_flip_13 : decode cX6_flip 13 = .ok (.ifCond .ne 5, 3) := by decide +kernel
theorem dX6_flip_16 : decode cX6_flip 16 = .ok (.iconst (-1), 1) := by decide +kernel
theorem dX6_flip_17 : decode cX6_flip 17 = .ok (.ireturn, 1) := by decide +kernel
theorem dX6_flip_18 : decode cX6_flip 18 = .ok (.aload_n 0, 1) := by decide +kernel
theorem dX6_flip_19 : decode cX6_flip 19 = .ok (.getfield 20, 3) := by decide +kernel
theorem dX6_flip_22 : decode cX6_flip 22 = .ok (.getfield 94, 3) := by decide +kernel
theorem dX6_flip_25 : decode cX6_flip 25 = .ok (.iload_n 1, 1) := by decide +kernel
theorem dX6_flip_26 : decode cX6_flip 26 = .ok (.aaload, 1) := by decide +kernel
theorem dX6_flip_27 : decode cX6_flip 27 = .ok (.astore_n 3, 1) := by decide +kernel
theorem dX6_flip_28 : decode cX6_flip 28 = .ok (.aload_n 3, 1) := by decide +kernel
theorem dX6_flip_29 : decode cX6_flip 29 = .ok (.getfield 112, 3) := by decide +kernel
theorem dX6_flip_32 : decode cX6_flip 32 = .ok (.istore 4, 2) := by decide +kernel
theorem dX6_flip_34 : decode cX6_flip 34 = .ok (.iload 4, 2) := by decide +kernel
theorem dX6_flip_36 : decode cX6_flip 36 = .ok (.iload_n 2, 1) := by decide +kernel
theorem dX6_flip_37 : decode cX6_flip 37 = .ok (.if_icmp .ne 6, 3) := by decide +kernel
theorem dX6_flip_40 : decode cX6_flip 40 = .ok (.bipush (-2), 2) := by decide +kernel
theorem dX6_flip_42 : decode cX6_flip 42 = .ok (.ireturn, 1) := by decide +kernel
theorem dX6_flip_43 : decode cX6_flip 43 = .ok (.aload_n 0, 1) := by decide +kernel
theorem dX6_flip_44 : decode cX6_flip 44 = .ok (.invokevirtual 106, 3) := by decide +kernel
theorem dX6_flip_47 : decode cX6_flip 47 = .ok (.aload_n 3, 1) := by decide +kernel
theorem dX6_flip_48 : decode cX6_flip 48 = .ok (.iload_n 2, 1) := by decide +kernel
theorem dX6_flip_49 : decode cX6_flip 49 = .ok (.putfield 112, 3) := by decide +kernel
theorem dX6_flip_52 : decode cX6_flip 52 = .ok (.aload_n 0, 1) := by decide +kernel
theorem dX6_flip_53 : decode cX6_flip 53 = .ok (.getfield 41, 3) := by decide +kernel
theorem dX6_flip_56 : decode cX6_flip 56 = .ok (.invokevirtual 115, 3) := by decide +kernel
theorem dX6_flip_59 : decode cX6_flip 59 = .ok (.iload 4, 2) := by decide +kernel
theorem dX6_flip_61 : decode cX6_flip 61 = .ok (.ireturn, 1) := by decide +kernel
theorem dX6_keep_0 : decode cX6_keep 0 = .ok (.iload_n 1, 1) := by decide +kernel
theorem dX6_keep_1 : decode cX6_keep 1 = .ok (.iconst 1, 1) := by decide +kernel
theorem dX6_keep_2 : decode cX6_keep 2 = .ok (.invokestatic 109, 3) := by decide +kernel
theorem dX6_keep_5 : decode cX6_keep 5 = .ok (.ifCond .ne 5, 3) := by decide +kernel
theorem dX6_keep_8 : decode cX6_keep 8 = .ok (.iconst (-1), 1) := by decide +kernel
theorem dX6_keep_9 : decode cX6_keep 9 = .ok (.ireturn, 1) := by decide +kernel
theorem dX6_keep_10 : decode cX6_keep 10 = .ok (.aload_n 0, 1) := by decide +kernel
theorem dX6_keep_11 : decode cX6_keep 11 = .ok (.getfield 69, 3) := by decide +kernel
theorem dX6_keep_14 : decode cX6_keep 14 = .ok (.iload_n 1, 1) := by decide +kernel
theorem dX6_keep_15 : decode cX6_keep 15 = .ok (.aaload, 1) := by decide +kernel
theorem dX6_keep_16 : decode cX6_keep 16 = .ok (.astore_n 2, 1) := by decide +kernel
theorem dX6_keep_17 : decode cX6_keep 17 = .ok (.aload_n 2, 1) := by decide +kernel
theorem dX6_keep_18 : decode cX6_keep 18 = .ok (.ifnonnull 18, 3) := by decide +kernel
theorem dX6_keep_21 : decode cX6_keep 21 = .ok (.new 17, 3) := by decide +kernel
theorem dX6_keep_24 : decode cX6_keep 24 = .ok (.dup, 1) := by decide +kernel
theorem dX6_keep_25 : decode cX6_keep 25 = .ok (.invokespecial 19, 3) := by decide +kernel
theorem dX6_keep_28 : decode cX6_keep 28 = .ok (.astore_n 2, 1) := by decide +kernel
theorem dX6_keep_29 : decode cX6_keep 29 = .ok (.aload_n 0, 1) := by decide +kernel
theorem dX6_keep_30 : decode cX6_keep 30 = .ok (.getfield 69, 3) := by decide +kernel
theorem dX6_keep_33 : decode cX6_keep 33 = .ok (.iload_n 1, 1) := by decide +kernel
theorem dX6_keep_34 : decode cX6_keep 34 = .ok (.aload_n 2, 1) := by decide +kernel
theorem dX6_keep_35 : decode cX6_keep 35 = .ok (.aastore, 1) := by decide +kernel
theorem dX6_keep_36 : decode cX6_keep 36 = .ok (.aload_n 2, 1) := by decide +kernel
theorem dX6_keep_37 : decode cX6_keep 37 = .ok (.aload_n 0, 1) := by decide +kernel
theorem dX6_keep_38 : decode cX6_keep 38 = .ok (.getfield 20, 3) := by decide +kernel
theorem dX6_keep_41 : decode cX6_keep 41 = .ok (.invokevirtual 238, 3) := by decide +kernel
theorem dX6_keep_44 : decode cX6_keep 44 = .ok (.aload_n 0, 1) := by decide +kernel
theorem dX6_keep_45 : decode cX6_keep 45 = .ok (.getfield 20, 3) := by decide +kernel
theorem dX6_keep_48 : decode cX6_keep 48 = .ok (.getfield 83, 3) := by decide +kernel
theorem dX6_keep_51 : decode cX6_keep 51 = .ok (.ireturn, 1) := by decide +kernel
theorem dX6_layers_0 : decode cX6_layers 0 = .ok (.aload_n 0, 1) := by decide +kernel
theorem dX6_layers_1 : decode cX6_layers 1 = .ok (.iload_n 1, 1) := by decide +kernel
theorem dX6_layers_2 : decode cX6_layers 2 = .ok (.invokevirtual 86, 3) := by decide +kernel
theorem dX6_layers_5 : decode cX6_layers 5 = .ok (.ifCond .eq 21, 3) := by decide +kernel
theorem dX6_layers_8 : decode cX6_layers 8 = .ok (.iload_n 2, 1) := by decide +kernel
theorem dX6_layers_9 : decode cX6_layers 9 = .ok (.bipush 15, 2) := by decide +kernel
theorem dX6_layers_11 : decode cX6_layers 11 = .ok (.invokestatic 109, 3) := by decide +kernel
theorem dX6_layers_14 : decode cX6_layers 14 = .ok (.ifCond .eq 12, 3) := by decide +kernel
theorem dX6_layers_17 : decode cX6_layers 17 = .ok (.iload_n 3, 1) := by decide +kernel
theorem dX6_layers_18 : decode cX6_layers 18 = .ok (.bipush 15, 2) := by decide +kernel
theorem dX6_layers_20 : decode cX6_layers 20 = .ok (.invokestatic 109, 3) := by decide +kernel
theorem dX6_layers_23 : decode cX6_layers 23 = .ok (.ifCond .ne 5, 3) := by decide +kernel
theorem dX6_layers_26 : decode cX6_layers 26 = .ok (.iconst (-1), 1) := by decide +kernel
theorem dX6_layers_27 : decode cX6_layers 27 = .ok (.ireturn, 1) := by decide +kernel
theorem dX6_layers_28 : decode cX6_layers 28 = .ok (.aload_n 0, 1) := by decide +kernel
theorem dX6_layers_29 : decode cX6_layers 29 = .ok (.getfield 20, 3) := by decide +kernel
theorem dX6_layers_32 : decode cX6_layers 32 = .ok (.getfield 94, 3) := by decide +kernel
theorem dX6_layers_35 : decode cX6_layers 35 = .ok (.iload_n 1, 1) := by decide +kernel
theorem dX6_layers_36 : decode cX6_layers 36 = .ok (.aaload, 1) := by decide +kernel
theorem dX6_layers_37 : decode cX6_layers 37 = .ok (.astore 4, 2) := by decide +kernel
theorem dX6_layers_39 : decode cX6_layers 39 = .ok (.aload 4, 2) := by decide +kernel
theorem dX6_layers_41 : decode cX6_layers 41 = .ok (.getfield 118, 3) := by decide +kernel
theorem dX6_layers_44 : decode cX6_layers 44 = .ok (.iload_n 2, 1) := by decide +kernel
theorem dX6_layers_45 : decode cX6_layers 45 = .ok (.if_icmp .ne 15, 3) := by decide +kernel
theorem dX6_layers_48 : decode cX6_layers 48 = .ok (.aload 4, 2) := by decide +kernel
theorem dX6_layers_50 : decode cX6_layers 50 = .ok (.getfield 121, 3) := by decide +kernel
theorem dX6_layers_53 : decode cX6_layers 53 = .ok (.iload_n 3, 1) := by decide +kernel
theorem dX6_layers_54 : decode cX6_layers 54 = .ok (.if_icmp .ne 6, 3) := by decide +kernel
theorem dX6_layers_57 : decode cX6_layers 57 = .ok (.bipush (-2), 2) := by decide +kernel
theorem dX6_layers_59 : decode cX6_layers 59 = .ok (.ireturn, 1) := by decide +kernel
theorem dX6_layers_60 : decode cX6_layers 60 = .ok (.aload_n 0, 1) := by decide +kernel
theorem dX6_layers_61 : decode cX6_layers 61 = .ok (.invokevirtual 106, 3) := by decide +kernel
theorem dX6_layers_64 : decode cX6_layers 64 = .ok (.aload 4, 2) := by decide +kernel
theorem dX6_layers_66 : decode cX6_layers 66 = .ok (.iload_n 2, 1) := by decide +kernel
theorem dX6_layers_67 : decode cX6_layers 67 = .ok (.putfield 118, 3) := by decide +kernel
theorem dX6_layers_70 : decode cX6_layers 70 = .ok (.aload 4, 2) := by decide +kernel
theorem dX6_layers_72 : decode cX6_layers 72 = .ok (.iload_n 3, 1) := by decide +kernel
theorem dX6_layers_73 : decode cX6_layers 73 = .ok (.putfield 121, 3) := by decide +kernel
theorem dX6_layers_76 : decode cX6_layers 76 = .ok (.iconst 1, 1) := by decide +kernel
theorem dX6_layers_77 : decode cX6_layers 77 = .ok (.ireturn, 1) := by decide +kernel
theorem dX6_place_0 : decode cX6_place 0 = .ok (.aload_n 0, 1) := by decide +kernel
theorem dX6_place_1 : decode cX6_place 1 = .ok (.iload_n 1, 1) := by decide +kernel
theorem dX6_place_2 : decode cX6_place 2 = .ok (.invokevirtual 86, 3) := by decide +kernel
theorem dX6_place_5 : decode cX6_place 5 = .ok (.ifCond .eq 23, 3) := by decide +kernel
theorem dX6_place_8 : decode cX6_place 8 = .ok (.iload_n 2, 1) := by decide +kernel
theorem dX6_place_9 : decode cX6_place 9 = .ok (.sipush 999, 3) := by decide +kernel
theorem dX6_place_12 : decode cX6_place 12 = .ok (.invokestatic 90, 3) := by decide +kernel
theorem dX6_place_15 : decode cX6_place 15 = .ok (.ifCond .eq 13, 3) := by decide +kernel
theorem dX6_place_18 : decode cX6_place 18 = .ok (.iload_n 3, 1) := by decide +kernel
theorem dX6_place_19 : decode cX6_place 19 = .ok (.sipush 999, 3) := by decide +kernel
theorem dX6_place_22 : decode cX6_place 22 = .ok (.invokestatic 90, 3) := by decide +kernel
theorem dX6_place_25 : decode cX6_place 25 = .ok (.ifCond .ne 5, 3) := by decide +kernel
theorem dX6_place_28 : decode cX6_place 28 = .ok (.iconst (-1), 1) := by decide +kernel
theorem dX6_place_29 : decode cX6_place 29 = .ok (.ireturn, 1) := by decide +kernel
theorem dX6_place_30 : decode cX6_place 30 = .ok (.aload_n 0, 1) := by decide +kernel
theorem dX6_place_31 : decode cX6_place 31 = .ok (.getfield 20, 3) := by decide +kernel
theorem dX6_place_34 : decode cX6_place 34 = .ok (.getfield 94, 3) := by decide +kernel
theorem dX6_place_37 : decode cX6_place 37 = .ok (.iload_n 1, 1) := by decide +kernel
theorem dX6_place_38 : decode cX6_place 38 = .ok (.aaload, 1) := by decide +kernel
theorem dX6_place_39 : decode cX6_place 39 = .ok (.astore 4, 2) := by decide +kernel
theorem dX6_place_41 : decode cX6_place 41 = .ok (.aload 4, 2) := by decide +kernel
theorem dX6_place_43 : decode cX6_place 43 = .ok (.getfield 98, 3) := by decide +kernel
theorem dX6_place_46 : decode cX6_place 46 = .ok (.iload_n 2, 1) := by decide +kernel
theorem dX6_place_47 : decode cX6_place 47 = .ok (.if_icmp .ne 15, 3) := by decide +kernel
theorem dX6_place_50 : decode cX6_place 50 = .ok (.aload 4, 2) := by decide +kernel
theorem dX6_place_52 : decode cX6_place 52 = .ok (.getfield 103, 3) := by decide +kernel
theorem dX6_place_55 : decode cX6_place 55 = .ok (.iload_n 3, 1) := by decide +kernel
theorem dX6_place_56 : decode cX6_place 56 = .ok (.if_icmp .ne 6, 3) := by decide +kernel
theorem dX6_place_59 : decode cX6_place 59 = .ok (.bipush (-2), 2) := by decide +kernel
theorem dX6_place_61 : decode cX6_place 61 = .ok (.ireturn, 1) := by decide +kernel
theorem dX6_place_62 : decode cX6_place 62 = .ok (.aload_n 0, 1) := by decide +kernel
theorem dX6_place_63 : decode cX6_place 63 = .ok (.invokevirtual 106, 3) := by decide +kernel
theorem dX6_place_66 : decode cX6_place 66 = .ok (.aload 4, 2) := by decide +kernel
theorem dX6_place_68 : decode cX6_place 68 = .ok (.iload_n 2, 1) := by decide +kernel
theorem dX6_place_69 : decode cX6_place 69 = .ok (.putfield 98, 3) := by decide +kernel
theorem dX6_place_72 : decode cX6_place 72 = .ok (.aload 4, 2) := by decide +kernel
theorem dX6_place_74 : decode cX6_place 74 = .ok (.iload_n 3, 1) := by decide +kernel
theorem dX6_place_75 : decode cX6_place 75 = .ok (.putfield 103, 3) := by decide +kernel
theorem dX6_place_78 : decode cX6_place 78 = .ok (.iconst 1, 1) := by decide +kernel
theorem dX6_place_79 : decode cX6_place 79 = .ok (.ireturn, 1) := by decide +kernel
theorem dX6_remember_0 : decode cX6_remember 0 = .ok (.aload_n 0, 1) := by decide +kernel
theorem dX6_remember_1 : decode cX6_remember 1 = .ok (.getfield 66, 3) := by decide +kernel
theorem dX6_remember_4 : decode cX6_remember 4 = .ok (.bipush 10, 2) := by decide +kernel
theorem dX6_remember_6 : decode cX6_remember 6 = .ok (.if_icmp .ne 26, 3) := by decide +kernel
theorem dX6_remember_9 : decode cX6_remember 9 = .ok (.aload_n 0, 1) := by decide +kernel
theorem dX6_remember_10 : decode cX6_remember 10 = .ok (.aload_n 0, 1) := by decide +kernel
theorem dX6_remember_11 : decode cX6_remember 11 = .ok (.getfield 63, 3) := by decide +kernel
theorem dX6_remember_14 : decode cX6_remember 14 = .ok (.iconst 1, 1) := by decide +kernel
theorem dX6_remember_15 : decode cX6_remember 15 = .ok (.iadd, 1) := by decide +kernel
theorem dX6_remember_16 : decode cX6_remember 16 = .ok (.bipush 10, 2) := by decide +kernel
theorem dX6_remember_18 : decode cX6_remember 18 = .ok (.irem, 1) := by decide +kernel
theorem dX6_remember_19 : decode cX6_remember 19 = .ok (.putfield 63, 3) := by decide +kernel
theorem dX6_remember_22 : decode cX6_remember 22 = .ok (.aload_n 0, 1) := by decide +kernel
theorem dX6_remember_23 : decode cX6_remember 23 = .ok (.dup, 1) := by decide +kernel
theorem dX6_remember_24 : decode cX6_remember 24 = .ok (.getfield 66, 3) := by decide +kernel
theorem dX6_remember_27 : decode cX6_remember 27 = .ok (.iconst 1, 1) := by decide +kernel
theorem dX6_remember_28 : decode cX6_remember 28 = .ok (.isub, 1) := by decide +kernel
theorem dX6_remember_29 : decode cX6_remember 29 = .ok (.putfield 66, 3) := by decide +kernel
theorem dX6_remember_32 : decode cX6_remember 32 = .ok (.aload_n 0, 1) := by decide +kernel
theorem dX6_remember_33 : decode cX6_remember 33 = .ok (.getfield 63, 3) := by decide +kernel
theorem dX6_remember_36 : decode cX6_remember 36 = .ok (.aload_n 0, 1) := by decide +kernel
theorem dX6_remember_37 : decode cX6_remember 37 = .ok (.getfield 66, 3) := by decide +kernel
theorem dX6_remember_40 : decode cX6_remember 40 = .ok (.iadd, 1) := by decide +kernel
theorem dX6_remember_41 : decode cX6_remember 41 = .ok (.bipush 10, 2) := by decide +kernel
theorem dX6_remember_43 : decode cX6_remember 43 = .ok (.irem, 1) := by decide +kernel
theorem dX6_remember_44 : decode cX6_remember 44 = .ok (.istore_n 1, 1) := by decide +kernel
theorem dX6_remember_45 : decode cX6_remember 45 = .ok (.aload_n 0, 1) := by decide +kernel
theorem dX6_remember_46 : decode cX6_remember 46 = .ok (.getfield 59, 3) := by decide +kernel
theorem dX6_remember_49 : decode cX6_remember 49 = .ok (.iload_n 1, 1) := by decide +kernel
theorem dX6_remember_50 : decode cX6_remember 50 = .ok (.aaload, 1) := by decide +kernel
theorem dX6_remember_51 : decode cX6_remember 51 = .ok (.astore_n 2, 1) := by decide +kernel
theorem dX6_remember_52 : decode cX6_remember 52 = .ok (.aload_n 2, 1) := by decide +kernel
theorem dX6_remember_53 : decode cX6_remember 53 = .ok (.ifnonnull 18, 3) := by decide +kernel
theorem dX6_remember_56 : decode cX6_remember 56 = .ok (.new 17, 3) := by decide +kernel
theorem dX6_remember_59 : decode cX6_remember 59 = .ok (.dup, 1) := by decide +kernel
theorem dX6_remember_60 : decode cX6_remember 60 = .ok (.invokespecial 19, 3) := by decide +kernel
theorem dX6_remember_63 : decode cX6_remember 63 = .ok (.astore_n 2, 1) := by decide +kernel
theorem dX6_remember_64 : decode cX6_remember 64 = .ok (.aload_n 0, 1) := by decide +kernel
theorem dX6_remember_65 : decode cX6_remember 65 = .ok (.getfield 59, 3) := by decide +kernel
theorem dX6_remember_68 : decode cX6_remember 68 = .ok (.iload_n 1, 1) := by decide +kernel
theorem dX6_remember_69 : decode cX6_remember 69 = .ok (.aload_n 2, 1) := by decide +kernel
theorem dX6_remember_70 : decode cX6_remember 70 = .ok (.aastore, 1) := by decide +kernel
theorem dX6_remember_71 : decode cX6_remember 71 = .ok (.aload_n 2, 1) := by decide +kernel
theorem dX6_remember_72 : decode cX6_remember 72 = .ok (.aload_n 0, 1) := by decide +kernel
theorem dX6_remember_73 : decode cX6_remember 73 = .ok (.getfield 20, 3) := by decide +kernel
theorem dX6_remember_76 : decode cX6_remember 76 = .ok (.invokevirtual 238, 3) := by decide +kernel
theorem dX6_remember_79 : decode cX6_remember 79 = .ok (.aload_n 0, 1) := by decide +kernel
theorem dX6_remember_80 : decode cX6_remember 80 = .ok (.dup, 1) := by decide +kernel
theorem dX6_remember_81 : decode cX6_remember 81 = .ok (.getfield 66, 3) := by decide +kernel
theorem dX6_remember_84 : decode cX6_remember 84 = .ok (.iconst 1, 1) := by decide +kernel
theorem dX6_remember_85 : decode cX6_remember 85 = .ok (.iadd, 1) := by decide +kernel
theorem dX6_remember_86 : decode cX6_remember 86 = .ok (.putfield 66, 3) := by decide +kernel
theorem dX6_remember_89 : decode cX6_remember 89 = .ok (.return_, 1) := by decide +kernel
theorem dX6_speed_0 : decode cX6_speed 0 = .ok (.aload_n 0, 1) := by decide +kernel
theorem dX6_speed_1 : decode cX6_speed 1 = .ok (.iload_n 1, 1) := by decide +kernel
theorem dX6_speed_2 : decode cX6_speed 2 = .ok (.invokevirtual 86, 3) := by decide +kernel
theorem dX6_speed_5 : decode cX6_speed 5 = .ok (.ifCond .eq 21, 3) := by decide +kernel
theorem dX6_speed_8 : decode cX6_speed 8 = .ok (.iload_n 2, 1) := by decide +kernel
theorem dX6_speed_9 : decode cX6_speed 9 = .ok (.bipush 20, 2) := by decide +kernel
theorem dX6_speed_11 : decode cX6_speed 11 = .ok (.invokestatic 90, 3) := by decide +kernel
theorem dX6_speed_14 : decode cX6_speed 14 = .ok (.ifCond .eq 12, 3) := by decide +kernel
theorem dX6_speed_17 : decode cX6_speed 17 = .ok (.iload_n 3, 1) := by decide +kernel
theorem dX6_speed_18 : decode cX6_speed 18 = .ok (.bipush 20, 2) := by decide +kernel
theorem dX6_speed_20 : decode cX6_speed 20 = .ok (.invokestatic 90, 3) := by decide +kernel
theorem dX6_speed_23 : decode cX6_speed 23 = .ok (.ifCond .ne 5, 3) := by decide +kernel
theorem dX6_speed_26 : decode cX6_speed 26 = .ok (.iconst (-1), 1) := by decide +kernel
theorem dX6_speed_27 : decode cX6_speed 27 = .ok (.ireturn, 1) := by decide +kernel
theorem dX6_speed_28 : decode cX6_speed 28 = .ok (.aload_n 0, 1) := by decide +kernel
theorem dX6_speed_29 : decode cX6_speed 29 = .ok (.getfield 20, 3) := by decide +kernel
theorem dX6_speed_32 : decode cX6_speed 32 = .ok (.getfield 94, 3) := by decide +kernel
theorem dX6_speed_35 : decode cX6_speed 35 = .ok (.iload_n 1, 1) := by decide +kernel
theorem dX6_speed_36 : decode cX6_speed 36 = .ok (.aaload, 1) := by decide +kernel
theorem dX6_speed_37 : decode cX6_speed 37 = .ok (.astore 4, 2) := by decide +kernel
theorem dX6_speed_39 : decode cX6_speed 39 = .ok (.aload 4, 2) := by decide +kernel
theorem dX6_speed_41 : decode cX6_speed 41 = .ok (.getfield 124, 3) := by decide +kernel
theorem dX6_speed_44 : decode cX6_speed 44 = .ok (.iload_n 2, 1) := by decide +kernel
theorem dX6_speed_45 : decode cX6_speed 45 = .ok (.if_icmp .ne 15, 3) := by decide +kernel
theorem dX6_speed_48 : decode cX6_speed 48 = .ok (.aload 4, 2) := by decide +kernel
theorem dX6_speed_50 : decode cX6_speed 50 = .ok (.getfield 127, 3) := by decide +kernel
theorem dX6_speed_53 : decode cX6_speed 53 = .ok (.iload_n 3, 1) := by decide +kernel
theorem dX6_speed_54 : decode cX6_speed 54 = .ok (.if_icmp .ne 6, 3) := by decide +kernel
theorem dX6_speed_57 : decode cX6_speed 57 = .ok (.bipush (-2), 2) := by decide +kernel
theorem dX6_speed_59 : decode cX6_speed 59 = .ok (.ireturn, 1) := by decide +kernel
theorem dX6_speed_60 : decode cX6_speed 60 = .ok (.aload_n 0, 1) := by decide +kernel
theorem dX6_speed_61 : decode cX6_speed 61 = .ok (.invokevirtual 106, 3) := by decide +kernel
theorem dX6_speed_64 : decode cX6_speed 64 = .ok (.aload 4, 2) := by decide +kernel
theorem dX6_speed_66 : decode cX6_speed 66 = .ok (.iload_n 2, 1) := by decide +kernel
theorem dX6_speed_67 : decode cX6_speed 67 = .ok (.putfield 124, 3) := by decide +kernel
theorem dX6_speed_70 : decode cX6_speed 70 = .ok (.aload 4, 2) := by decide +kernel
theorem dX6_speed_72 : decode cX6_speed 72 = .ok (.iload_n 3, 1) := by decide +kernel
theorem dX6_speed_73 : decode cX6_speed 73 = .ok (.putfield 127, 3) := by decide +kernel
theorem dX6_speed_76 : decode cX6_speed 76 = .ok (.iconst 1, 1) := by decide +kernel
theorem dX6_speed_77 : decode cX6_speed 77 = .ok (.ireturn, 1) := by decide +kernel
theorem dX6_turn_0 : decode cX6_turn 0 = .ok (.aload_n 0, 1) := by decide +kernel
theorem dX6_turn_1 : decode cX6_turn 1 = .ok (.iload_n 1, 1) := by decide +kernel
theorem dX6_turn_2 : decode cX6_turn 2 = .ok (.invokevirtual 130, 3) := by decide +kernel
theorem dX6_turn_5 : decode cX6_turn 5 = .ok (.ifCond .eq 20, 3) := by decide +kernel
theorem dX6_turn_8 : decode cX6_turn 8 = .ok (.aload_n 0, 1) := by decide +kernel
theorem dX6_turn_9 : decode cX6_turn 9 = .ok (.getfield 20, 3) := by decide +kernel
theorem dX6_turn_12 : decode cX6_turn 12 = .ok (.getfield 133, 3) := by decide +kernel
theorem dX6_turn_15 : decode cX6_turn 15 = .ok (.iload_n 1, 1) := by decide +kernel
theorem dX6_turn_16 : decode cX6_turn 16 = .ok (.aaload, 1) := by decide +kernel
theorem dX6_turn_17 : decode cX6_turn 17 = .ok (.iload_n 2, 1) := by decide +kernel
theorem dX6_turn_18 : decode cX6_turn 18 = .ok (.iload_n 3, 1) := by decide +kernel
theorem dX6_turn_19 : decode cX6_turn 19 = .ok (.invokevirtual 137, 3) := by decide +kernel
theorem dX6_turn_22 : decode cX6_turn 22 = .ok (.ifCond .ne 5, 3) := by decide +kernel
theorem dX6_turn_25 : decode cX6_turn 25 = .ok (.iconst (-1), 1) := by decide +kernel
theorem dX6_turn_26 : decode cX6_turn 26 = .ok (.ireturn, 1) := by decide +kernel
theorem dX6_turn_27 : decode cX6_turn 27 = .ok (.aload_n 0, 1) := by decide +kernel
theorem dX6_turn_28 : decode cX6_turn 28 = .ok (.invokevirtual 106, 3) := by decide +kernel
theorem dX6_turn_31 : decode cX6_turn 31 = .ok (.aload_n 0, 1) := by decide +kernel
theorem dX6_turn_32 : decode cX6_turn 32 = .ok (.getfield 20, 3) := by decide +kernel
theorem dX6_turn_35 : decode cX6_turn 35 = .ok (.getfield 133, 3) := by decide +kernel
theorem dX6_turn_38 : decode cX6_turn 38 = .ok (.iload_n 1, 1) := by decide +kernel
theorem dX6_turn_39 : decode cX6_turn 39 = .ok (.aaload, 1) := by decide +kernel
theorem dX6_turn_40 : decode cX6_turn 40 = .ok (.astore 4, 2) := by decide +kernel
theorem dX6_turn_42 : decode cX6_turn 42 = .ok (.aload 4, 2) := by decide +kernel
theorem dX6_turn_44 : decode cX6_turn 44 = .ok (.iload_n 2, 1) := by decide +kernel
theorem dX6_turn_45 : decode cX6_turn 45 = .ok (.iload_n 3, 1) := by decide +kernel
theorem dX6_turn_46 : decode cX6_turn 46 = .ok (.invokevirtual 140, 3) := by decide +kernel
theorem dX6_turn_49 : decode cX6_turn 49 = .ok (.aload 4, 2) := by decide +kernel
theorem dX6_turn_51 : decode cX6_turn 51 = .ok (.invokevirtual 144, 3) := by decide +kernel
theorem dX6_turn_54 : decode cX6_turn 54 = .ok (.aload_n 0, 1) := by decide +kernel
theorem dX6_turn_55 : decode cX6_turn 55 = .ok (.getfield 41, 3) := by decide +kernel
theorem dX6_turn_58 : decode cX6_turn 58 = .ok (.invokevirtual 115, 3) := by decide +kernel
theorem dX6_turn_61 : decode cX6_turn 61 = .ok (.aload 4, 2) := by decide +kernel
theorem dX6_turn_63 : decode cX6_turn 63 = .ok (.iload_n 2, 1) := by decide +kernel
theorem dX6_turn_64 : decode cX6_turn 64 = .ok (.iload_n 3, 1) := by decide +kernel
theorem dX6_turn_65 : decode cX6_turn 65 = .ok (.invokevirtual 147, 3) := by decide +kernel
theorem dX6_turn_68 : decode cX6_turn 68 = .ok (.ifCond .eq 7, 3) := by decide +kernel
theorem dX6_turn_71 : decode cX6_turn 71 = .ok (.iconst 1, 1) := by decide +kernel
theorem dX6_turn_72 : decode cX6_turn 72 = .ok (.goto 4, 3) := by decide +kernel
theorem dX6_turn_75 : decode cX6_turn 75 = .ok (.iconst 0, 1) := by decide +kernel
theorem dX6_turn_76 : decode cX6_turn 76 = .ok (.ireturn, 1) := by decide +kernel
set_option maxRecDepth 100000 in
theorem pq3 : Cond.selects RX6 yX6_remember yX6_remember ∈ pw := pw_mem (i := 3) (by decide +kernel) rfl
set_option maxRecDepth 100000 in
theorem pq101 : Cond.classLink RX6 17 RX1 ∈ pw := pw_mem (i := 101) (by decide +kernel) rfl
set_option maxRecDepth 100000 in
theorem pq102 : Cond.instantiable RX1 5 ∈ pw := pw_mem (i := 102) (by decide +kernel) rfl
set_option maxRecDepth 100000 in
theorem pq103 : Cond.methodLink RX6 19 yX1_init ∈ pw := pw_mem (i := 103) (by decide +kernel) rfl
set_option maxRecDepth 100000 in
theorem pq104 : Cond.instanceMethod yX1_init ∈ pw := pw_mem (i := 104) (by decide +kernel) rfl
set_option maxRecDepth 100000 in
theorem pq105 : Cond.code yX1_init cX1_init 2 none ∈ pw := pw_mem (i := 105) (by rfl) rfl
set_option maxRecDepth 100000 in
theorem pq174 : Cond.fieldLink RX6 98 "MaskTouch$Body" "x" "I" ∈ pw := pw_mem (i := 174) (by decide +kernel) rfl
set_option maxRecDepth 100000 in
theorem pq177 : Cond.fieldLink RX6 103 "MaskTouch$Body" "y" "I" ∈ pw := pw_mem (i := 177) (by decide +kernel) rfl
set_option maxRecDepth 100000 in
theorem pq180 : Cond.fieldLink RX6 112 "MaskTouch$Body" "flip" "I" ∈ pw := pw_mem (i := 180) (by decide +kernel) rfl
set_option maxRecDepth 100000 in
theorem pq184 : Cond.fieldLink RX6 118 "MaskTouch$Body" "own" "I" ∈ pw := pw_mem (i := 184) (by decide +kernel) rfl
set_option maxRecDepth 100000 in
theorem pq188 : Cond.fieldLink RX6 121 "MaskTouch$Body" "sees" "I" ∈ pw := pw_mem (i := 188) (by decide +kernel) rfl
set_option maxRecDepth 100000 in
theorem pq643 : Cond.methodLink RX6 106 yX6_remember ∈ pw := pw_mem (i := 643) (by decide +kernel) rfl
set_option maxRecDepth 100000 in
theorem pq645 : Cond.instanceMethod yX6_remember ∈ pw := pw_mem (i := 645) (by decide +kernel) rfl
set_option maxRecDepth 100000 in
theorem pq646 : Cond.code yX6_remember cX6_remember 3 none ∈ pw := pw_mem (i := 646) (by rfl) rfl
set_option maxRecDepth 100000 in
theorem pq670 : Cond.methodLink RX6 137 yX3_isInside ∈ pw := pw_mem (i := 670) (by decide +kernel) rfl
set_option maxRecDepth 100000 in
theorem pq671 : Cond.methodLink RX6 140 yX3_toggle ∈ pw := pw_mem (i := 671) (by decide +kernel) rfl
set_option maxRecDepth 100000 in
theorem pq672 : Cond.methodLink RX6 144 yX3_measure ∈ pw := pw_mem (i := 672) (by decide +kernel) rfl
set_option maxHeartbeats 4000000 in
set_option maxRecDepth 100000 in
theorem s_X6_remember (l : Launch) (dC : Nat → ClassId) (dI : Nat → Nat → Nat) (cs : Nat → ClassId) (L0 : List Nat) (K0 G0 : Nat → Nat) (Q0 : Nat → Nat → Option Nat) (hQ : Sv L0 K0 G0 Q0) (x0 m0 : Nat) (tx : GT) (tm : GT × Int) (hx0 : x0 ∈ L0) (hm0 : m0 ∈ L0) (sz : Nat) (I : Nat → Nat → Int32) (J : Nat → Nat → Int64) (hI : Iv L0 K0 x0 m0 tx tm I) (p0 : Nat) (hLp0 : p0 ∈ L0) (hKp0 : K0 p0 = 6) : Met l yX6_remember (.code yX6_remember cX6_remember 3 none :: pw) ({ frames := 3, cells := 29, slots := 807, locals := 103 }) (sP (dC, dI) cs [.ref p0] sz L0 K0 I J Q0) (va_Qv (fun (_ : Unit) => True) (fun _ t => sA (dC, dI) cs L0 K0 G0 Q0 x0 m0 tx tm sz (fun L K G Q I1 J1 => (∀ b, b ∈ L0 → nP (G0 b) → ¬ K0 b = 6 → I1 b = I b) ∧ (∀ σ : Sx, cxA Q0 I J p0 σ → cxA Q I1 J1 p0 (rem σ)) ∧ (∀ b, b ∈ L0 → (K0 b = 7 ∨ K0 b = 18 ∨ K0 b = 19 ∨ K0 b = 20 ∨ K0 b = 24) → I1 b = I b) ∧ (∀ b, b ∈ L0 → ¬ (K0 b = 12 ∧ (¬ nP (G0 b))) → J1 b = J b)) t) (fun q => q ∈ L0 ∨ sz ≤ q)) 29 807 (fun q => q ∈ L0 ∨ sz ≤ q) := by
  refine Met.ofW (cc := cX6_remember) (maxL := 3) (ret := none) (by decide +kernel) rfl ?_
  intro p e s m args below meth c s₁ B hml hv
  obtain ⟨rfl, hsz, hP, hK, hD0, hN⟩ := hv
  have hx := B.exec
  have hb := B.bytes
  have hr := B.returns
  have hts := fun w (h : w ∈ pw) => atoms_spec (ws := Cond.code yX6_remember cX6_remember 3 none :: pw) B.pre w (List.mem_cons_of_mem _ h)
  have hown : s.vm.findClass RX6 = some m.cls := findClass_of_methodNamed B.named
  have hlocks := B.notSynchronized
  subst hsz
  have hBB : 999 ≤ tm.2 ∧ tm.2 ≤ 6000000 := hI.2.2.2.2.1
  have dn_I : (∀ b, b ∈ L0 → (K0 b = 7 ∨ K0 b = 18 ∨ K0 b = 19 ∨ K0 b = 20 ∨ K0 b = 24) → I b = I b) := fun _ _ _ => rfl
  have dj_J : (∀ b, b ∈ L0 → ¬ (K0 b = 12 ∧ (¬ nP (G0 b))) → J b = J b) := fun _ _ _ => rfl
  have fr_I : ∀ b, b ∈ L0 → nP (G0 b) → ¬ K0 b = 6 → I b = I b := fun _ _ _ _ => rfl
  obtain ⟨A, hAe⟩ : ∃ A : Nat → Prop, A = (fun q => q ∈ L0 ∨ s.heap.size ≤ q) := ⟨_, rfl⟩
  rw [← hAe]
  have hAL : ∀ q, q ∈ L0 → A q := fun q h => by rw [hAe]; exact Or.inl h
  have hA : ∀ q, s.heap.size ≤ q → A q := fun q h => by rw [hAe]; exact Or.inr h
  have hD : ∀ F, va_D A (va_pl L0 F) := fun F => (hD0 F).weaken (fun k q hk _ => hAL _ (pl_mem hk))
  obtain ⟨H, hHe⟩ : ∃ H : Heap, H = s.heap := ⟨_, rfl⟩
  have hS : va_S A s.heap H [] := by rw [hHe]; exact va_S.rf
  rw [← hHe] at hP
  have hl := lv_entry ([.ref p0]) (n := 3) (Nat.le_of_ble_eq_true rfl)
  rw [lg_entry_eq]
  generalize (lg_sl ([.ref p0]) ++ List.replicate (3 - (lg_sl ([.ref p0])).length) Slot.unset).toArray = ls at hl ⊢
  have hl : lv_has ls 3 [(0, .ref p0)] := hl
  rw [← hHe]
  refine namedW (fun R Qz hR hQz => ?_)
  have hAe2 : ∀ q, A q → q ∈ L0 ∨ H.size ≤ q := fun q h => by rw [hHe]; rw [hAe] at h; exact h
  have hQ0 := hQ
  have hK0p0 := hKp0
  have hL0p0 := hLp0
  obtain ⟨L, K, G, Q, hX, hQ, hI, hP, hD, hAL, hx0, hm0, hLp0, hKp0, rx0⟩ : ∃ L K G Q, extW L0 K0 G0 Q0 L K G Q ∧ Sv L K G Q ∧ Iv L K x0 m0 tx tm I ∧ va_P (dC, dI) vwCl (Wd cs L K I J Q) H ∧ (∀ F, va_D A (va_pl L F)) ∧ (∀ q, q ∈ L → A q) ∧ x0 ∈ L ∧ m0 ∈ L ∧ p0 ∈ L ∧ K p0 = 6 ∧ (∀ σ : Sx, cxA Q0 I J p0 σ → cxA Q I J p0 σ) := ⟨L0, K0, G0, Q0, extW_refl, hQ, hI, hP, hD, hAL, hx0, hm0, hLp0, hKp0, fun _ h => h⟩
  refine lv_aload_n hx hb dX6_remember_0 rfl (lv_at hl 0 rfl) ?_
  refine p_get hx hb hts inX6 hown hK hP hLp0 hKp0 rfl rfl 10 (by decide) (hts _ pq359) rfl dX6_remember_1 ?_
  refine lv_topi (fun z1 ez1 => ?_)
  have bz1 := oI_6_10 (Iv_at hI hLp0 hKp0)
  rw [← ez1] at bz1
  refine lv_bipush (v := 10) hx hb dX6_remember_4 (by decide +kernel) ?_
  have j32 : ∀ (I32 : Nat → Nat → Int32) (H : Heap) (lo : List Loc) (ls : Array Slot), Iv L K x0 m0 tx tm I32 → (∀ b, b ∈ L0 → nP (G0 b) → ¬ K0 b = 6 → I32 b = I b) → (∀ b, b ∈ L0 → (K0 b = 7 ∨ K0 b = 18 ∨ K0 b = 19 ∨ K0 b = 20 ∨ K0 b = 24) → I32 b = I b) → (I32 p0 10).toInt ≤ 9 → (∀ σ : Sx, cxA Q0 I J p0 σ → cxA Q I32 J p0 (shf σ)) → va_P (dC, dI) vwCl (Wd cs L K I32 J Q) H → va_S A s.heap H lo → lv_has ls 3 [(0, .ref p0)] → W p l e R s m (([.ref p0] : List Value).toArray) below meth c H lo 0 0 Qz (F0 m 32 ls []) := by
    intro I32 H lo ls hI32 fr_I32 dn_I32 hu32 hr32 hP hS hl
    refine lv_aload_n hx hb dX6_remember_32 rfl (lv_at hl 0 rfl) ?_
    refine p_get hx hb hts inX6 hown hK hP hLp0 hKp0 rfl rfl 9 (by decide) (hts _ pq358) rfl dX6_remember_33 ?_
    refine lv_topi (fun z33 ez33 => ?_)
    have bz33 := oI_6_9 (Iv_at hI32 hLp0 hKp0)
    rw [← ez33] at bz33
    refine lv_aload_n hx hb dX6_remember_36 rfl (lv_at hl 0 rfl) ?_
    refine p_get hx hb hts inX6 hown hK hP hLp0 hKp0 rfl rfl 10 (by decide) (hts _ pq359) rfl dX6_remember_37 ?_
    refine lv_topi (fun z37 ez37 => ?_)
    have bz37 := oI_6_10 (Iv_at hI32 hLp0 hKp0)
    rw [← ez37] at bz37
    refine lv_iadd hx hb dX6_remember_40 ?_
    refine lv_topi (fun z40 ez40 => ?_)
    have bz40 := tq_add (k := z33.toInt) (q := z37.toInt) ez40 rfl rfl (by omega) (by omega)
    refine lv_bipush (v := 10) hx hb dX6_remember_41 (by decide +kernel) ?_
    refine lv_irem hx hb dX6_remember_43 (by decide +kernel) ?_
    refine lv_topi (fun z43 ez43 => ?_)
    have bz43 := tq_rem (k := 10) ez43 (by decide +kernel) (by omega) (by omega)
    refine lv_istore_n (lv' := [(1, .int z43), (0, .ref p0)]) hx hb dX6_remember_44 rfl hl (by decide) rfl (fun ls hl => ?_)
    have sl43 : z43.toInt.toNat = ((I32 p0 9).toInt.toNat + (I32 p0 10).toInt.toNat) % 10 := by rw [← ez33, ← ez37]; omega
    refine lv_aload_n hx hb dX6_remember_45 rfl (lv_at hl 1 rfl) ?_
    obtain ⟨y46, ey46, hLy46, hKy46⟩ := oQ_6_8 (Sv_at hQ hLp0 hKp0)
    refine p_get (v := .ref y46) hx hb hts inX6 hown hK hP hLp0 hKp0 rfl rfl 8 (by decide) (hts _ pq357) (congrArg (fun q => some (va_rf q)) ey46) dX6_remember_46 ?_
    refine lv_iload_n hx hb dX6_remember_49 rfl (lv_at hl 0 rfl) ?_
    rcases (Sv_at hQ hLy46 hKy46) z43.toNatClampNeg (clamp_lt (n := 10) (in_of (by omega) (by omega))) with en50 | ⟨y50, ey50, hLy50, hKy50, hGy50⟩
    · refine p_aaldN hx hb hK hP 6 hLy46 hKy46 rfl rfl (in_of (by omega) (by omega)) en50 dX6_remember_50 ?_
      refine lv_astore_nN (lv' := [(2, .null), (1, .int z43), (0, .ref p0)]) hx hb dX6_remember_51 rfl hl (by decide) rfl (fun ls hl => ?_)
      refine lv_aload_nN hx hb dX6_remember_52 rfl (lv_at hl 0 rfl) ?_
      have j71 : ∀ (L : List Nat) (K : Nat → Nat) (G : Nat → Nat) (Q : Nat → Nat → Option Nat) (v71_2 : Nat) (I71 : Nat → Nat → Int32) (J71 : Nat → Nat → Int64) (nc71 : Nat) (ns71 : Nat) (H : Heap) (lo : List Loc) (ls : Array Slot), extW L0 K0 G0 Q0 L K G Q → Sv L K G Q → (∀ F, va_D A (va_pl L F)) → (∀ q, q ∈ L → A q) → x0 ∈ L → m0 ∈ L → p0 ∈ L → K p0 = 6 → (nc71 ≤ 29 ∧ ns71 ≤ 807) → v71_2 ∈ L → K v71_2 = 1 → Iv L K x0 m0 tx tm I71 → (∀ b, b ∈ L0 → nP (G0 b) → ¬ K0 b = 6 → I71 b = I b) → (∀ b, b ∈ L0 → (K0 b = 7 ∨ K0 b = 18 ∨ K0 b = 19 ∨ K0 b = 20 ∨ K0 b = 24) → I71 b = I b) → (∀ b, b ∈ L0 → ¬ (K0 b = 12 ∧ (¬ nP (G0 b))) → J71 b = J b) → G v71_2 = 20 + z43.toInt.toNat → 20 ≤ G v71_2 ∧ G v71_2 < 30 → (I71 p0 10).toInt ≤ 9 → (∃ yp, Q p0 8 = some yp ∧ Q yp (((I71 p0 9).toInt.toNat + (I71 p0 10).toInt.toNat) % 10) = some v71_2) → (∀ σ : Sx, cxA Q0 I J p0 σ → cxA Q I71 J71 p0 (shf σ)) → va_P (dC, dI) vwCl (Wd cs L K I71 J71 Q) H → va_S A s.heap H lo → lv_has ls 3 [(0, .ref p0), (1, .int z43), (2, .ref v71_2)] → W p l e R s m (([.ref p0] : List Value).toArray) below meth c H lo nc71 ns71 Qz (F0 m 71 ls []) := by
        intro L K G Q v71_2 I71 J71 nc71 ns71 H lo ls hX hQ hD hAL hx0 hm0 hLp0 hKp0 hnc71 hLv71_2 hKv71_2 hI71 fr_I71 dn_I71 dj_J71 hGv71_2 hNv71_2 hun hsl hr71 hP hS hl
        refine lv_aload_n hx hb dX6_remember_71 rfl (lv_at hl 2 rfl) ?_
        refine lv_aload_n hx hb dX6_remember_72 rfl (lv_at hl 0 rfl) ?_
        obtain ⟨y73, ey73, hLy73, hKy73, hGy73⟩ := oQ_6_2 (Sv_at hQ hLp0 hKp0)
        refine p_get (v := .ref y73) hx hb hts inX6 hown hK hP hLp0 hKp0 rfl rfl 2 (by decide) (hts _ pq351) (congrArg (fun q => some (va_rf q)) ey73) dX6_remember_73 ?_
        refine sw_v (Z := (fun I1 J1 => Iv L K x0 m0 tx tm I1 ∧ (∀ b, ¬ ((G b = G v71_2 ∨ G b / 100 = G v71_2) ∧ ¬ K b = 6) → I1 b = I71 b) ∧ (I1 v71_2 3 = I71 y73 3 ∧ (∀ b, K b = 1 → ¬ b = v71_2 → I1 b = I71 b) ∧ ∀ b, ¬ K b = 0 → ¬ K b = 1 → ¬ K b = 3 → I1 b = I71 b) ∧ (neF (G v71_2) (G y73) → ∀ c : Fx, okF c → cxF Q I71 J71 y73 c → cxF Q I1 J1 v71_2 c) ∧ (∀ b, ¬ (K b = 12 ∧ (G b / 100 = G v71_2)) → J1 b = J71 b))) (va_runV (As := [.ref y73]) (rest := []) ⟨hx, hb, hml, hown, hts⟩ (s_X1_become l dC dI cs L K G Q hQ x0 m0 tx tm H.size I71 J71 hI71 v71_2 hLv71_2 hKv71_2 y73 hLy73 hKy73) (cwV 1 hts (gV pq589 pq590 pq591 pq75 pq592) rfl rfl rfl (by decide +kernel) ⟨(by rw [hR]; exact (Nat.le_of_ble_eq_true rfl)), (by rw [hR]; exact (Nat.le_of_ble_eq_true rfl))⟩) (sP_V hP hD hK hN hLv71_2 hKv71_2 rfl rfl) rfl rfl hl.1 rfl (lv_room (Nat.le_of_ble_eq_true rfl)) dX6_remember_76 ⟨(by rw [hR]; exact (show nc71 + 0 ≤ 29 by omega)), (by rw [hR]; exact (show ns71 + 0 ≤ 807 by omega))⟩) hS hAL hA (fun Iz76 Jz76 H locs hz76 hIz76 hP hS => ?_)
        obtain ⟨hIz76, frc76, fz76, jz76, djc76⟩ := hIz76
        have dj_Jz76 : (∀ b, b ∈ L0 → ¬ (K0 b = 12 ∧ (¬ nP (G0 b))) → Jz76 b = J b) := fun b hb hc => (djc76 b (fun z => hc (by have w1 := (hX b hb).2.1; have w2 := (hX b hb).2.2.1; rw [w1] at z; exact ⟨z.1, by have z2 := z.2; omega⟩))).trans (dj_J71 b hb hc)
        have dn_Iz76 : (∀ b, b ∈ L0 → (K0 b = 7 ∨ K0 b = 18 ∨ K0 b = 19 ∨ K0 b = 20 ∨ K0 b = 24) → Iz76 b = I b) := fun b hb hc => (fz76.2.2 b (by have w := (hX b hb).2.1; omega) (by have w := (hX b hb).2.1; omega) (by have w := (hX b hb).2.1; omega)).trans (dn_I71 b hb hc)
        have fr_Iz76 : ∀ b, b ∈ L0 → nP (G0 b) → ¬ K0 b = 6 → Iz76 b = I b := fun b h1 h2 h3 => (frc76 b (fun z => by have w1 := (hX b h1).2.2.1; have w2 := z.1; have w3 := hNv71_2; unfold nP at h2; omega)).trans (fr_I71 b h1 h2 h3)
        refine lv_aload_n hx hb dX6_remember_79 rfl (lv_at hl 0 rfl) ?_
        refine lv_dup hx hb dX6_remember_80 rfl ?_
        refine p_get hx hb hts inX6 hown hK hP hLp0 hKp0 rfl rfl 10 (by decide) (hts _ pq359) rfl dX6_remember_81 ?_
        refine lv_topi (fun z81 ez81 => ?_)
        have bz81 := oI_6_10 (Iv_at hIz76 hLp0 hKp0)
        rw [← ez81] at bz81
        have c81 := congrArg Int32.toInt (ez81.trans (congrFun (frc76 p0 (fun z => z.2 hKp0)) 10))
        refine lv_iconst (v := 1) hx hb dX6_remember_84 (by decide +kernel) ?_
        refine lv_iadd hx hb dX6_remember_85 ?_
        refine lv_topi (fun z85 ez85 => ?_)
        have bz85 := tq_add (k := z81.toInt) (q := (1)) ez85 rfl (by decide +kernel) (by omega) (by omega)
        refine p_put hx hb hts inX6 tyX6 tyX6_ok nmX6 hown hK hP hD hS hLp0 hKp0 rfl rfl 10 (by decide) (hts _ pq359) rfl (by decide +kernel) (Nat.le_of_ble_eq_true rfl) (oS_6_10 cs _ _ _ _) dX6_remember_86 (fun H locs hP hS => ?_)
        obtain ⟨Iz86, hP, hIz86, qIz86⟩ : ∃ Iz86, va_P (dC, dI) vwCl (Wd cs L K Iz86 Jz76 Q) H ∧ Iv L K x0 m0 tx tm Iz86 ∧ Iz86 = va_up Iz76 p0 (upd (Iz76 p0) 10 z85) := ⟨_, hP, Iv_put hIz76 hKp0 (oP_6_10 (Iv_at hIz76 hLp0 hKp0) ⟨by omega, by omega⟩) (by decide) (by decide), rfl⟩
        have dn_Iz86 : (∀ b, b ∈ L0 → (K0 b = 7 ∨ K0 b = 18 ∨ K0 b = 19 ∨ K0 b = 20 ∨ K0 b = 24) → Iz86 b = I b) := fun b hb hc => (congrFun qIz86 b).trans ((va_up_ne _ _ (fun z => by have q := hKp0; rw [← z, (hX b hb).2.1] at q; omega)).trans (dn_Iz76 b hb hc))
        have fr_Iz86 : ∀ b, b ∈ L0 → nP (G0 b) → ¬ K0 b = 6 → Iz86 b = I b := fun b h1 h2 h3 => (congrFun qIz86 b).trans ((va_up_ne _ _ (fun z => h3 (by rw [z]; exact hK0p0))).trans (fr_Iz76 b h1 h2 h3))
        subst hR; subst hQz
        refine W.widen (k := 29) (n := 807) (by omega) (by omega) ?_
        exact W.vret hx hb hr (fun t ht hW => ⟨⟨(), rfl, trivial, ⟨L, K, G, Q, Iz86, Jz76, hX, hQ, hIz86, fun F => (hD F).weaken (fun _ _ _ _ => trivial), fun q h => hAe2 q (hAL q h), by rw [ht]; exact hP, ⟨fr_Iz86, (fun σ h => by have A := hr71 σ h; have n9 := shf_le (σ := σ) h.1.2.1.2; have en := A.1.2.1.1; obtain ⟨yp8, e8, esl⟩ := hsl; have ep : pa Q p0 = yp8 := gd_of e8; rw [← ep] at esl; have pg := p_g hQ hLp0 hKp0 (Nat.mod_lt _ (by decide)) esl; have es : (shf σ).2.1 = (I71 p0 10).toInt.toNat := (by omega); have f9 := congrFun (frc76 p0 (fun z => z.2 hKp0)) 9; have f10 := congrFun (frc76 p0 (fun z => z.2 hKp0)) 10; have B := cxA_bec hQ hLp0 hKp0 n9 (by rw [es]) pg.2.2 f9 f10 frc76 djc76 A; have ea : an Q p0 = y73 := gd_of ey73; have C := jz76 (by have := hNv71_2; have := hGy73; exact ⟨⟨by omega, by omega, by omega⟩, by omega, by omega⟩) (shf σ).1 A.1.1.1 (by rw [← ea]; exact A.1.1.2); exact cxA_more hQ hLp0 hKp0 n9 (by rw [f9, es]; exact esl) C qIz86 (by rw [← ez81]; omega) B), dn_Iz86, dj_Jz76⟩⟩⟩, hS.F ht⟩) hS.2.2 dX6_remember_89
      refine lv_ifnonnullN hx hb dX6_remember_53 ?_
      refine va_new (ci := 1) (fs := [.null, .null, .int 0, .int 0, .int 0]) (C := RX1) (T := TX1) (N := 5) hx hb hts inX1 tyX1 tyX1_ok hown (hts _ pq101) (hts _ pq102) (hts _ pq75) hK hP (hD _) hS hA rfl dfX1 (by rw [hR]; exact (Nat.le_of_ble_eq_true rfl)) (by rw [hR]; exact (Nat.le_of_ble_eq_true rfl)) dX6_remember_56 (fun q56 H hPn hDn hS => ?_)
      refine W.widen (k := 1) (n := 5) (Nat.le_of_ble_eq_true rfl) (Nat.le_of_ble_eq_true rfl) ?_
      refine lv_dup hx hb dX6_remember_59 rfl ?_
      refine al_field (20 + z43.toInt.toNat) (va_runI (As := []) (rest := [.ref q56]) ⟨hx, hb, hml, hown, hts⟩ (c_X1_init l dC dI q56 H.size) (cwI 0 hts (gI pq105) rfl rfl rfl (hts _ pq75) (hts _ pq103) (hts _ pq104) rfl (by decide +kernel) ⟨(by rw [hR]; exact (Nat.le_of_ble_eq_true rfl)), (by rw [hR]; exact (Nat.le_of_ble_eq_true rfl))⟩) (pc_S (P_last hPn) (D_last hDn) (hK.sub (tys' := []) [] rfl) hN) rfl rfl hl.1 rfl (lv_room (Nat.le_of_ble_eq_true rfl)) dX6_remember_60 ⟨(by rw [hR]; exact (Nat.le_of_ble_eq_true rfl)), (by rw [hR]; exact (Nat.le_of_ble_eq_true rfl))⟩) hS hK hPn hDn hA hQ hI32 hx0 hm0 (fun L K G Q Iz60 Jz60 H locs hE hIe hLq56 hKq56 hGq56 hQn hIz60 hDn hALn hP hS => ?_)
      have fr_Iz60 : ∀ b, b ∈ L0 → nP (G0 b) → ¬ K0 b = 6 → Iz60 b = I b := fun b h1 h2 h3 => (hIe b (hX b h1).1).1.trans (fr_I32 b h1 h2 h3)
      have dn_Iz60 : (∀ b, b ∈ L0 → (K0 b = 7 ∨ K0 b = 18 ∨ K0 b = 19 ∨ K0 b = 20 ∨ K0 b = 24) → Iz60 b = I b) := fun b hb hc => (hIe b (hX b hb).1).1.trans (dn_I32 b hb hc)
      have dj_Jz60 : (∀ b, b ∈ L0 → ¬ (K0 b = 12 ∧ (¬ nP (G0 b))) → Jz60 b = J b) := fun b hb hc => (hIe b (hX b hb).1).2.2.trans (dj_J b hb hc)
      have hi60 := congrFun (hIe p0 hLp0).1 10
      have hi60b := congrFun (hIe p0 hLp0).1 9
      have rx60 : ∀ σ : Sx, cxA Q0 I J p0 σ → cxA Q Iz60 Jz60 p0 (shf σ) := fun σ h => cxA_new hQ hE hLp0 hKp0 hIe (hr32 σ h)
      have hKp0 := (hE p0 hLp0).2.1.trans hKp0
      have hLp0 := (hE p0 hLp0).1
      have hx0 := (hE x0 hx0).1
      have hm0 := (hE m0 hm0).1
      have hX := extW_trans hX hE
      have hQ := hQn
      have hD := hDn
      have hAL := hALn
      have hNq56 : 20 ≤ G q56 ∧ G q56 < 30 := by omega
      refine W.widen (k := 29) (n := 807) (Nat.le_of_ble_eq_true rfl) (Nat.le_of_ble_eq_true rfl) ?_
      refine lv_astore_n (lv' := [(2, .ref q56), (1, .int z43), (0, .ref p0)]) hx hb dX6_remember_63 rfl hl (by decide) rfl (fun ls hl => ?_)
      refine lv_aload_n hx hb dX6_remember_64 rfl (lv_at hl 2 rfl) ?_
      obtain ⟨y65, ey65, hLy65, hKy65⟩ := oQ_6_8 (Sv_at hQ hLp0 hKp0)
      refine p_get (v := .ref y65) hx hb hts inX6 hown hK hP hLp0 hKp0 rfl rfl 8 (by decide) (hts _ pq357) (congrArg (fun q => some (va_rf q)) ey65) dX6_remember_65 ?_
      have epa : pa Q p0 = y65 := gd_of ey65
      refine lv_iload_n hx hb dX6_remember_68 rfl (lv_at hl 1 rfl) ?_
      refine lv_aload_n hx hb dX6_remember_69 rfl (lv_at hl 0 rfl) ?_
      refine p_aast hx hb hK hP hD hS 6 hLy65 hKy65 rfl (fun _ => rfl) rfl hLq56 hKq56 rfl rfl (in_of (by omega) (by omega)) dX6_remember_70 (fun H locs hP hS => ?_)
      have hQw := hQ
      obtain ⟨Q, hP, hQ, hX, qQ70⟩ : ∃ Q1, va_P (dC, dI) vwCl (Wd cs L K Iz60 Jz60 Q1) H ∧ Sv L K G Q1 ∧ extW L0 K0 G0 Q0 L K G Q1 ∧ Q1 = va_up Q y65 (va_up (Q y65) z43.toNatClampNeg (some q56)) := ⟨_, hP, Sv_ast16 hQ hLy65 hKy65 hLq56 hKq56 hGq56, extW_ast hX (Or.inl hKy65), rfl⟩
      exact j71 L K G Q q56 Iz60 Jz60 29 807 _ _ _ hX hQ hD hAL hx0 hm0 hLp0 hKp0 ⟨by omega, by omega⟩ hLq56 hKq56 hIz60 fr_Iz60 dn_Iz60 dj_Jz60 hGq56 hNq56 (by rw [hi60]; exact hu32) ⟨y65, by rw [qQ70, va_up_ne _ _ (ne_k hKp0 hKy65 (by decide))]; exact ey65, by rw [hi60b, hi60, show ((I32 p0 9).toInt.toNat + (I32 p0 10).toInt.toNat) % 10 = z43.toNatClampNeg from sl43.symm, qQ70, va_up_self, va_up_self]⟩ (fun σ h => cxA_ast16 hQw hLp0 hKp0 (shf_le h.1.2.1.2) (i := z43.toInt.toNat) (by rw [hi60b]; have e := (hr32 σ h).1.2.1.1; omega) (by rw [epa]; exact qQ70) (rx60 σ h)) hP hS (lv_sub hl [2, 1, 0] rfl)
    · have hNy50 : 20 ≤ G y50 ∧ G y50 < 30 := by (have hj := clamp_lt (i := z43) (n := 10) (in_of (by omega) (by omega))); omega
      refine p_aaldR hx hb hK hP 6 hLy46 hKy46 rfl rfl (in_of (by omega) (by omega)) ey50 dX6_remember_50 ?_
      refine lv_astore_n (lv' := [(2, .ref y50), (1, .int z43), (0, .ref p0)]) hx hb dX6_remember_51 rfl hl (by decide) rfl (fun ls hl => ?_)
      refine lv_aload_n hx hb dX6_remember_52 rfl (lv_at hl 0 rfl) ?_
      have j71 : ∀ (L : List Nat) (K : Nat → Nat) (G : Nat → Nat) (Q : Nat → Nat → Option Nat) (v71_2 : Nat) (I71 : Nat → Nat → Int32) (J71 : Nat → Nat → Int64) (nc71 : Nat) (ns71 : Nat) (H : Heap) (lo : List Loc) (ls : Array Slot), extW L0 K0 G0 Q0 L K G Q → Sv L K G Q → (∀ F, va_D A (va_pl L F)) → (∀ q, q ∈ L → A q) → x0 ∈ L → m0 ∈ L → p0 ∈ L → K p0 = 6 → (nc71 ≤ 29 ∧ ns71 ≤ 807) → v71_2 ∈ L → K v71_2 = 1 → Iv L K x0 m0 tx tm I71 → (∀ b, b ∈ L0 → nP (G0 b) → ¬ K0 b = 6 → I71 b = I b) → (∀ b, b ∈ L0 → (K0 b = 7 ∨ K0 b = 18 ∨ K0 b = 19 ∨ K0 b = 20 ∨ K0 b = 24) → I71 b = I b) → (∀ b, b ∈ L0 → ¬ (K0 b = 12 ∧ (¬ nP (G0 b))) → J71 b = J b) → G v71_2 = 20 + z43.toInt.toNat → 20 ≤ G v71_2 ∧ G v71_2 < 30 → (I71 p0 10).toInt ≤ 9 → (∃ yp, Q p0 8 = some yp ∧ Q yp (((I71 p0 9).toInt.toNat + (I71 p0 10).toInt.toNat) % 10) = some v71_2) → (∀ σ : Sx, cxA Q0 I J p0 σ → cxA Q I71 J71 p0 (shf σ)) → va_P (dC, dI) vwCl (Wd cs L K I71 J71 Q) H → va_S A s.heap H lo → lv_has ls 3 [(0, .ref p0), (1, .int z43), (2, .ref v71_2)] → W p l e R s m (([.ref p0] : List Value).toArray) below meth c H lo nc71 ns71 Qz (F0 m 71 ls []) := by
        intro L K G Q v71_2 I71 J71 nc71 ns71 H lo ls hX hQ hD hAL hx0 hm0 hLp0 hKp0 hnc71 hLv71_2 hKv71_2 hI71 fr_I71 dn_I71 dj_J71 hGv71_2 hNv71_2 hun hsl hr71 hP hS hl
        refine lv_aload_n hx hb dX6_remember_71 rfl (lv_at hl 2 rfl) ?_
        refine lv_aload_n hx hb dX6_remember_72 rfl (lv_at hl 0 rfl) ?_
        obtain ⟨y73, ey73, hLy73, hKy73, hGy73⟩ := oQ_6_2 (Sv_at hQ hLp0 hKp0)
        refine p_get (v := .ref y73) hx hb hts inX6 hown hK hP hLp0 hKp0 rfl rfl 2 (by decide) (hts _ pq351) (congrArg (fun q => some (va_rf q)) ey73) dX6_remember_73 ?_
        refine sw_v (Z := (fun I1 J1 => Iv L K x0 m0 tx tm I1 ∧ (∀ b, ¬ ((G b = G v71_2 ∨ G b / 100 = G v71_2) ∧ ¬ K b = 6) → I1 b = I71 b) ∧ (I1 v71_2 3 = I71 y73 3 ∧ (∀ b, K b = 1 → ¬ b = v71_2 → I1 b = I71 b) ∧ ∀ b, ¬ K b = 0 → ¬ K b = 1 → ¬ K b = 3 → I1 b = I71 b) ∧ (neF (G v71_2) (G y73) → ∀ c : Fx, okF c → cxF Q I71 J71 y73 c → cxF Q I1 J1 v71_2 c) ∧ (∀ b, ¬ (K b = 12 ∧ (G b / 100 = G v71_2)) → J1 b = J71 b))) (va_runV (As := [.ref y73]) (rest := []) ⟨hx, hb, hml, hown, hts⟩ (s_X1_become l dC dI cs L K G Q hQ x0 m0 tx tm H.size I71 J71 hI71 v71_2 hLv71_2 hKv71_2 y73 hLy73 hKy73) (cwV 1 hts (gV pq589 pq590 pq591 pq75 pq592) rfl rfl rfl (by decide +kernel) ⟨(by rw [hR]; exact (Nat.le_of_ble_eq_true rfl)), (by rw [hR]; exact (Nat.le_of_ble_eq_true rfl))⟩) (sP_V hP hD hK hN hLv71_2 hKv71_2 rfl rfl) rfl rfl hl.1 rfl (lv_room (Nat.le_of_ble_eq_true rfl)) dX6_remember_76 ⟨(by rw [hR]; exact (show nc71 + 0 ≤ 29 by omega)), (by rw [hR]; exact (show ns71 + 0 ≤ 807 by omega))⟩) hS hAL hA (fun Iz76 Jz76 H locs hz76 hIz76 hP hS => ?_)
        obtain ⟨hIz76, frc76, fz76, jz76, djc76⟩ := hIz76
        have dj_Jz76 : (∀ b, b ∈ L0 → ¬ (K0 b = 12 ∧ (¬ nP (G0 b))) → Jz76 b = J b) := fun b hb hc => (djc76 b (fun z => hc (by have w1 := (hX b hb).2.1; have w2 := (hX b hb).2.2.1; rw [w1] at z; exact ⟨z.1, by have z2 := z.2; omega⟩))).trans (dj_J71 b hb hc)
        have dn_Iz76 : (∀ b, b ∈ L0 → (K0 b = 7 ∨ K0 b = 18 ∨ K0 b = 19 ∨ K0 b = 20 ∨ K0 b = 24) → Iz76 b = I b) := fun b hb hc => (fz76.2.2 b (by have w := (hX b hb).2.1; omega) (by have w := (hX b hb).2.1; omega) (by have w := (hX b hb).2.1; omega)).trans (dn_I71 b hb hc)
        have fr_Iz76 : ∀ b, b ∈ L0 → nP (G0 b) → ¬ K0 b = 6 → Iz76 b = I b := fun b h1 h2 h3 => (frc76 b (fun z => by have w1 := (hX b h1).2.2.1; have w2 := z.1; have w3 := hNv71_2; unfold nP at h2; omega)).trans (fr_I71 b h1 h2 h3)
        refine lv_aload_n hx hb dX6_remember_79 rfl (lv_at hl 0 rfl) ?_
        refine lv_dup hx hb dX6_remember_80 rfl ?_
        refine p_get hx hb hts inX6 hown hK hP hLp0 hKp0 rfl rfl 10 (by decide) (hts _ pq359) rfl dX6_remember_81 ?_
        refine lv_topi (fun z81 ez81 => ?_)
        have bz81 := oI_6_10 (Iv_at hIz76 hLp0 hKp0)
        rw [← ez81] at bz81
        have c81 := congrArg Int32.toInt (ez81.trans (congrFun (frc76 p0 (fun z => z.2 hKp0)) 10))
        refine lv_iconst (v := 1) hx hb dX6_remember_84 (by decide +kernel) ?_
        refine lv_iadd hx hb dX6_remember_85 ?_
        refine lv_topi (fun z85 ez85 => ?_)
        have bz85 := tq_add (k := z81.toInt) (q := (1)) ez85 rfl (by decide +kernel) (by omega) (by omega)
        refine p_put hx hb hts inX6 tyX6 tyX6_ok nmX6 hown hK hP hD hS hLp0 hKp0 rfl rfl 10 (by decide) (hts _ pq359) rfl (by decide +kernel) (Nat.le_of_ble_eq_true rfl) (oS_6_10 cs _ _ _ _) dX6_remember_86 (fun H locs hP hS => ?_)
        obtain ⟨Iz86, hP, hIz86, qIz86⟩ : ∃ Iz86, va_P (dC, dI) vwCl (Wd cs L K Iz86 Jz76 Q) H ∧ Iv L K x0 m0 tx tm Iz86 ∧ Iz86 = va_up Iz76 p0 (upd (Iz76 p0) 10 z85) := ⟨_, hP, Iv_put hIz76 hKp0 (oP_6_10 (Iv_at hIz76 hLp0 hKp0) ⟨by omega, by omega⟩) (by decide) (by decide), rfl⟩
        have dn_Iz86 : (∀ b, b ∈ L0 → (K0 b = 7 ∨ K0 b = 18 ∨ K0 b = 19 ∨ K0 b = 20 ∨ K0 b = 24) → Iz86 b = I b) := fun b hb hc => (congrFun qIz86 b).trans ((va_up_ne _ _ (fun z => by have q := hKp0; rw [← z, (hX b hb).2.1] at q; omega)).trans (dn_Iz76 b hb hc))
        have fr_Iz86 : ∀ b, b ∈ L0 → nP (G0 b) → ¬ K0 b = 6 → Iz86 b = I b := fun b h1 h2 h3 => (congrFun qIz86 b).trans ((va_up_ne _ _ (fun z => h3 (by rw [z]; exact hK0p0))).trans (fr_Iz76 b h1 h2 h3))
        subst hR; subst hQz
        refine W.widen (k := 29) (n := 807) (by omega) (by omega) ?_
        exact W.vret hx hb hr (fun t ht hW => ⟨⟨(), rfl, trivial, ⟨L, K, G, Q, Iz86, Jz76, hX, hQ, hIz86, fun F => (hD F).weaken (fun _ _ _ _ => trivial), fun q h => hAe2 q (hAL q h), by rw [ht]; exact hP, ⟨fr_Iz86, (fun σ h => by have A := hr71 σ h; have n9 := shf_le (σ := σ) h.1.2.1.2; have en := A.1.2.1.1; obtain ⟨yp8, e8, esl⟩ := hsl; have ep : pa Q p0 = yp8 := gd_of e8; rw [← ep] at esl; have pg := p_g hQ hLp0 hKp0 (Nat.mod_lt _ (by decide)) esl; have es : (shf σ).2.1 = (I71 p0 10).toInt.toNat := (by omega); have f9 := congrFun (frc76 p0 (fun z => z.2 hKp0)) 9; have f10 := congrFun (frc76 p0 (fun z => z.2 hKp0)) 10; have B := cxA_bec hQ hLp0 hKp0 n9 (by rw [es]) pg.2.2 f9 f10 frc76 djc76 A; have ea : an Q p0 = y73 := gd_of ey73; have C := jz76 (by have := hNv71_2; have := hGy73; exact ⟨⟨by omega, by omega, by omega⟩, by omega, by omega⟩) (shf σ).1 A.1.1.1 (by rw [← ea]; exact A.1.1.2); exact cxA_more hQ hLp0 hKp0 n9 (by rw [f9, es]; exact esl) C qIz86 (by rw [← ez81]; omega) B), dn_Iz86, dj_Jz76⟩⟩⟩, hS.F ht⟩) hS.2.2 dX6_remember_89
      refine lv_ifnonnull (tgt := 71) hx hb dX6_remember_53 (by decide) ?_
      exact j71 L K G Q y50 I32 J 0 0 _ _ _ hX hQ hD hAL hx0 hm0 hLp0 hKp0 ⟨by omega, by omega⟩ hLy50 hKy50 hI32 fr_I32 dn_I32 dj_J hGy50 hNy50 hu32 ⟨y46, ey46, by rw [show ((I32 p0 9).toInt.toNat + (I32 p0 10).toInt.toNat) % 10 = z43.toNatClampNeg from sl43.symm]; exact ey50⟩ hr32 hP hS (lv_sub hl [2, 1, 0] rfl)
  refine lv_icmp_ne (tgt := 32) hx hb dX6_remember_6 (by decide) (fun c6 => ?_) (fun c6 => ?_)
  · have t6 := tq_ne (k := z1.toInt) (q := (10)) c6 rfl (by decide +kernel)
    exact j32 I _ _ _ hI fr_I dn_I (by rw [← ez1]; omega) (fun σ h => by have e := h.1.2.1.1; unfold shf; rw [if_neg (by rw [← ez1] at e; omega)]; exact rx0 σ h) hP hS (lv_sub hl [0] rfl)
  · have t6 := tq_eq (k := z1.toInt) (q := (10)) c6 rfl (by decide +kernel)
    refine lv_aload_n hx hb dX6_remember_9 rfl (lv_at hl 0 rfl) ?_
    refine lv_aload_n hx hb dX6_remember_10 rfl (lv_at hl 0 rfl) ?_
    refine p_get hx hb hts inX6 hown hK hP hLp0 hKp0 rfl rfl 9 (by decide) (hts _ pq358) rfl dX6_remember_11 ?_
    refine lv_topi (fun z11 ez11 => ?_)
    have bz11 := oI_6_9 (Iv_at hI hLp0 hKp0)
    rw [← ez11] at bz11
    refine lv_iconst (v := 1) hx hb dX6_remember_14 (by decide +kernel) ?_
    refine lv_iadd hx hb dX6_remember_15 ?_
    refine lv_topi (fun z15 ez15 => ?_)
    have bz15 := tq_add (k := z11.toInt) (q := (1)) ez15 rfl (by decide +kernel) (by omega) (by omega)
    refine lv_bipush (v := 10) hx hb dX6_remember_16 (by decide +kernel) ?_
    refine lv_irem hx hb dX6_remember_18 (by decide +kernel) ?_
    refine lv_topi (fun z18 ez18 => ?_)
    have bz18 := tq_rem (k := 10) ez18 (by decide +kernel) (by omega) (by omega)
    refine p_put hx hb hts inX6 tyX6 tyX6_ok nmX6 hown hK hP hD hS hLp0 hKp0 rfl rfl 9 (by decide) (hts _ pq358) rfl (by decide +kernel) (Nat.le_of_ble_eq_true rfl) (oS_6_9 cs _ _ _ _) dX6_remember_19 (fun H locs hP hS => ?_)
    obtain ⟨Iz19, hP, hIz19, qIz19⟩ : ∃ Iz19, va_P (dC, dI) vwCl (Wd cs L K Iz19 J Q) H ∧ Iv L K x0 m0 tx tm Iz19 ∧ Iz19 = va_up I p0 (upd (I p0) 9 z18) := ⟨_, hP, Iv_put hI hKp0 (oP_6_9 (Iv_at hI hLp0 hKp0) ⟨by omega, by omega⟩) (by decide) (by decide), rfl⟩
    have dn_Iz19 : (∀ b, b ∈ L0 → (K0 b = 7 ∨ K0 b = 18 ∨ K0 b = 19 ∨ K0 b = 20 ∨ K0 b = 24) → Iz19 b = I b) := fun b hb hc => (congrFun qIz19 b).trans ((va_up_ne _ _ (fun z => by have q := hKp0; rw [← z, (hX b hb).2.1] at q; omega)).trans (dn_I b hb hc))
    have fr_Iz19 : ∀ b, b ∈ L0 → nP (G0 b) → ¬ K0 b = 6 → Iz19 b = I b := fun b h1 h2 h3 => (congrFun qIz19 b).trans ((va_up_ne _ _ (fun z => h3 (by rw [z]; exact hK0p0))).trans (fr_I b h1 h2 h3))
    refine lv_aload_n hx hb dX6_remember_22 rfl (lv_at hl 0 rfl) ?_
    refine lv_dup hx hb dX6_remember_23 rfl ?_
    refine p_get hx hb hts inX6 hown hK hP hLp0 hKp0 rfl rfl 10 (by decide) (hts _ pq359) rfl dX6_remember_24 ?_
    refine lv_topi (fun z24 ez24 => ?_)
    obtain rfl : z1 = z24 := by rw [ez24, qIz19, rz_fr _ _ _ _ (by decide)]; exact ez1
    have ez1x24 := ez24
    refine lv_iconst (v := 1) hx hb dX6_remember_27 (by decide +kernel) ?_
    refine lv_isub hx hb dX6_remember_28 ?_
    refine lv_topi (fun z28 ez28 => ?_)
    have bz28 := tq_sub (k := z1.toInt) (q := (1)) ez28 rfl (by decide +kernel) (by omega) (by omega)
    refine p_put hx hb hts inX6 tyX6 tyX6_ok nmX6 hown hK hP hD hS hLp0 hKp0 rfl rfl 10 (by decide) (hts _ pq359) rfl (by decide +kernel) (Nat.le_of_ble_eq_true rfl) (oS_6_10 cs _ _ _ _) dX6_remember_29 (fun H locs hP hS => ?_)
    obtain ⟨Iz29, hP, hIz29, qIz29⟩ : ∃ Iz29, va_P (dC, dI) vwCl (Wd cs L K Iz29 J Q) H ∧ Iv L K x0 m0 tx tm Iz29 ∧ Iz29 = va_up Iz19 p0 (upd (Iz19 p0) 10 z28) := ⟨_, hP, Iv_put hIz19 hKp0 (oP_6_10 (Iv_at hIz19 hLp0 hKp0) ⟨by omega, by omega⟩) (by decide) (by decide), rfl⟩
    have dn_Iz29 : (∀ b, b ∈ L0 → (K0 b = 7 ∨ K0 b = 18 ∨ K0 b = 19 ∨ K0 b = 20 ∨ K0 b = 24) → Iz29 b = I b) := fun b hb hc => (congrFun qIz29 b).trans ((va_up_ne _ _ (fun z => by have q := hKp0; rw [← z, (hX b hb).2.1] at q; omega)).trans (dn_Iz19 b hb hc))
    have fr_Iz29 : ∀ b, b ∈ L0 → nP (G0 b) → ¬ K0 b = 6 → Iz29 b = I b := fun b h1 h2 h3 => (congrFun qIz29 b).trans ((va_up_ne _ _ (fun z => h3 (by rw [z]; exact hK0p0))).trans (fr_Iz19 b h1 h2 h3))
    exact j32 Iz29 _ _ _ hIz29 fr_Iz29 dn_Iz29 (by rw [qIz29, rz_at]; omega) (fun σ h => cxA_ring hQ hLp0 hKp0 (by rw [← ez1]; omega) (by rw [← ez11]; omega) (by rw [qIz29, rz_fr _ _ _ _ (by decide), qIz19, rz_at, ← ez11]; omega) (by rw [qIz29, rz_at]; omega) (fun b hb => by rw [qIz29, va_up_ne _ _ hb, qIz19, va_up_ne _ _ hb]) (rx0 σ h)) hP hS (lv_sub hl [0] rfl)

set_option maxHeartbeats 4000000 in
set_option maxRecDepth 100000 in
theorem s_X6_keep (l : Launch) (dC : Nat → ClassId) (dI : Nat → Nat → Nat) (cs : Nat → ClassId) (L0 : List Nat) (K0 G0 : Nat → Nat) (Q0 : Nat → Nat → Option Nat) (hQ : Sv L0 K0 G0 Q0) (x0 m0 : Nat) (tx : GT) (tm : GT × Int) (hx0 : x0 ∈ L0) (hm0 : m0 ∈ L0) (sz : Nat) (I : Nat → Nat → Int32) (J : Nat → Nat → Int64) (hI : Iv L0 K0 x0 m0 tx tm I) (p0 : Nat) (hLp0 : p0 ∈ L0) (hKp0 : K0 p0 = 6) (p1 : Int32) : Met l yX6_keep (.code yX6_keep cX6_keep 3 (some .int) :: pw) ({ frames := 3, cells := 29, slots := 807, locals := 103 }) (sP (dC, dI) cs [.ref p0, .int p1] sz L0 K0 I J Q0) (va_Qi (fun (r : Int32) (_ : Unit) => (∀ σ : Sx, cxA Q0 I J p0 σ → r.toInt = (kpA σ p1).1)) (fun _ t => sA (dC, dI) cs L0 K0 G0 Q0 x0 m0 tx tm sz (fun L K G Q I1 J1 => (∀ σ : Sx, cxA Q0 I J p0 σ → cxA Q I1 J1 p0 (kpA σ p1).2) ∧ (∀ b, b ∈ L0 → (K0 b = 7 ∨ K0 b = 18 ∨ K0 b = 19 ∨ K0 b = 20 ∨ K0 b = 24) → I1 b = I b) ∧ (∀ b, b ∈ L0 → ¬ (K0 b = 12 ∧ (6 ≤ G0 b / 100 ∧ G0 b / 100 < 8)) → J1 b = J b)) t) (fun q => q ∈ L0 ∨ sz ≤ q)) 29 807 (fun q => q ∈ L0 ∨ sz ≤ q) := by
  refine Met.ofW (cc := cX6_keep) (maxL := 3) (ret := (some .int)) (by decide +kernel) rfl ?_
  intro p e s m args below meth c s₁ B hml hv
  obtain ⟨rfl, hsz, hP, hK, hD0, hN⟩ := hv
  have hx := B.exec
  have hb := B.bytes
  have hr := B.returns
  have hts := fun w (h : w ∈ pw) => atoms_spec (ws := Cond.code yX6_keep cX6_keep 3 (some .int) :: pw) B.pre w (List.mem_cons_of_mem _ h)
  have hown : s.vm.findClass RX6 = some m.cls := findClass_of_methodNamed B.named
  have hlocks := B.notSynchronized
  subst hsz
  have hBB : 999 ≤ tm.2 ∧ tm.2 ≤ 6000000 := hI.2.2.2.2.1
  have dn_I : (∀ b, b ∈ L0 → (K0 b = 7 ∨ K0 b = 18 ∨ K0 b = 19 ∨ K0 b = 20 ∨ K0 b = 24) → I b = I b) := fun _ _ _ => rfl
  have dj_J : (∀ b, b ∈ L0 → ¬ (K0 b = 12 ∧ (6 ≤ G0 b / 100 ∧ G0 b / 100 < 8)) → J b = J b) := fun _ _ _ => rfl
  obtain ⟨A, hAe⟩ : ∃ A : Nat → Prop, A = (fun q => q ∈ L0 ∨ s.heap.size ≤ q) := ⟨_, rfl⟩
  rw [← hAe]
  have hAL : ∀ q, q ∈ L0 → A q := fun q h => by rw [hAe]; exact Or.inl h
  have hA : ∀ q, s.heap.size ≤ q → A q := fun q h => by rw [hAe]; exact Or.inr h
  have hD : ∀ F, va_D A (va_pl L0 F) := fun F => (hD0 F).weaken (fun k q hk _ => hAL _ (pl_mem hk))
  obtain ⟨H, hHe⟩ : ∃ H : Heap, H = s.heap := ⟨_, rfl⟩
  have hS : va_S A s.heap H [] := by rw [hHe]; exact va_S.rf
  rw [← hHe] at hP
  have hl := lv_entry ([.ref p0, .int p1]) (n := 3) (Nat.le_of_ble_eq_true rfl)
  rw [lg_entry_eq]
  generalize (lg_sl ([.ref p0, .int p1]) ++ List.replicate (3 - (lg_sl ([.ref p0, .int p1])).length) Slot.unset).toArray = ls at hl ⊢
  have hl : lv_has ls 3 [(0, .ref p0), (1, .int p1)] := hl
  rw [← hHe]
  refine namedW (fun R Qz hR hQz => ?_)
  have hAe2 : ∀ q, A q → q ∈ L0 ∨ H.size ≤ q := fun q h => by rw [hHe]; rw [hAe] at h; exact h
  have hQ0 := hQ
  have hK0p0 := hKp0
  have hL0p0 := hLp0
  obtain ⟨L, K, G, Q, hX, hQ, hI, hP, hD, hAL, hx0, hm0, hLp0, hKp0, rx0⟩ : ∃ L K G Q, extW L0 K0 G0 Q0 L K G Q ∧ Sv L K G Q ∧ Iv L K x0 m0 tx tm I ∧ va_P (dC, dI) vwCl (Wd cs L K I J Q) H ∧ (∀ F, va_D A (va_pl L F)) ∧ (∀ q, q ∈ L → A q) ∧ x0 ∈ L ∧ m0 ∈ L ∧ p0 ∈ L ∧ K p0 = 6 ∧ (∀ σ : Sx, cxA Q0 I J p0 σ → cxA Q I J p0 σ) := ⟨L0, K0, G0, Q0, extW_refl, hQ, hI, hP, hD, hAL, hx0, hm0, hLp0, hKp0, fun _ h => h⟩
  refine lv_iload_n hx hb dX6_keep_0 rfl (lv_at hl 1 rfl) ?_
  refine lv_iconst (v := 1) hx hb dX6_keep_1 (by decide +kernel) ?_
  refine ro_i (va_runS (As := [.int p1, .int 1]) (rest := []) ⟨hx, hb, hml, hown, hts⟩ (s_X6_isFrom0To l dC dI cs L K G Q hQ x0 m0 tx tm H.size I J hI p1 1) (va_cwS 2 hts (gS pq651 pq652 pq74 pq653) rfl rfl rfl (by decide +kernel) ⟨(by rw [hR]; exact (Nat.le_of_ble_eq_true rfl)), (by rw [hR]; exact (Nat.le_of_ble_eq_true rfl))⟩) (sP_S hP hD hK hN) rfl rfl hl.1 rfl (lv_room (Nat.le_of_ble_eq_true rfl)) dX6_keep_2 ⟨(by rw [hR]; exact (Nat.le_of_ble_eq_true rfl)), (by rw [hR]; exact (Nat.le_of_ble_eq_true rfl))⟩) hS hP (fun z2 H locs hz2 hP hS => ?_)
  have cst2_1 : (1 : Int32).toInt = 1 := by decide +kernel
  obtain ⟨bz2, imz2, xpz2⟩ := hz2
  try rw [cst2_1] at xpz2
  refine lv_if_ne (tgt := 10) hx hb dX6_keep_5 (by decide) (fun c5 => ?_) (fun c5 => ?_)
  · have t5 := tq_ne (k := z2.toInt) (q := (0)) c5 rfl (by decide +kernel)
    have i5 := imz2 t5
    refine lv_aload_n hx hb dX6_keep_10 rfl (lv_at hl 0 rfl) ?_
    obtain ⟨y11, ey11, hLy11, hKy11⟩ := oQ_6_11 (Sv_at hQ hLp0 hKp0)
    refine p_get (v := .ref y11) hx hb hts inX6 hown hK hP hLp0 hKp0 rfl rfl 11 (by decide) (hts _ pq360) (congrArg (fun q => some (va_rf q)) ey11) dX6_keep_11 ?_
    refine lv_iload_n hx hb dX6_keep_14 rfl (lv_at hl 1 rfl) ?_
    rcases (Sv_at hQ hLy11 hKy11) p1.toNatClampNeg (clamp_lt (n := 2) (in_of (by omega) (by omega))) with en15 | ⟨y15, ey15, hLy15, hKy15, hGy15⟩
    · refine p_aaldN hx hb hK hP 7 hLy11 hKy11 rfl rfl (in_of (by omega) (by omega)) en15 dX6_keep_15 ?_
      refine lv_astore_nN (lv' := [(2, .null), (0, .ref p0), (1, .int p1)]) hx hb dX6_keep_16 rfl hl (by decide) rfl (fun ls hl => ?_)
      refine lv_aload_nN hx hb dX6_keep_17 rfl (lv_at hl 0 rfl) ?_
      have j36 : ∀ (L : List Nat) (K : Nat → Nat) (G : Nat → Nat) (Q : Nat → Nat → Option Nat) (v36_2 : Nat) (I36 : Nat → Nat → Int32) (J36 : Nat → Nat → Int64) (nc36 : Nat) (ns36 : Nat) (H : Heap) (lo : List Loc) (ls : Array Slot), extW L0 K0 G0 Q0 L K G Q → Sv L K G Q → (∀ F, va_D A (va_pl L F)) → (∀ q, q ∈ L → A q) → x0 ∈ L → m0 ∈ L → p0 ∈ L → K p0 = 6 → (nc36 ≤ 29 ∧ ns36 ≤ 807) → v36_2 ∈ L → K v36_2 = 1 → Iv L K x0 m0 tx tm I36 → (∀ b, b ∈ L0 → (K0 b = 7 ∨ K0 b = 18 ∨ K0 b = 19 ∨ K0 b = 20 ∨ K0 b = 24) → I36 b = I b) → (∀ b, b ∈ L0 → ¬ (K0 b = 12 ∧ (6 ≤ G0 b / 100 ∧ G0 b / 100 < 8)) → J36 b = J b) → 6 ≤ G v36_2 ∧ G v36_2 < 8 → (∃ ys, Q p0 11 = some ys ∧ Q ys p1.toInt.toNat = some v36_2) → (∀ σ : Sx, cxA Q0 I J p0 σ → cxK Q I36 J36 p0 σ p1.toInt.toNat) → va_P (dC, dI) vwCl (Wd cs L K I36 J36 Q) H → va_S A s.heap H lo → lv_has ls 3 [(0, .ref p0), (1, .int p1), (2, .ref v36_2)] → W p l e R s m (([.ref p0, .int p1] : List Value).toArray) below meth c H lo nc36 ns36 Qz (F0 m 36 ls []) := by
        intro L K G Q v36_2 I36 J36 nc36 ns36 H lo ls hX hQ hD hAL hx0 hm0 hLp0 hKp0 hnc36 hLv36_2 hKv36_2 hI36 dn_I36 dj_J36 hNv36_2 hsl hr36 hP hS hl
        refine lv_aload_n hx hb dX6_keep_36 rfl (lv_at hl 2 rfl) ?_
        refine lv_aload_n hx hb dX6_keep_37 rfl (lv_at hl 0 rfl) ?_
        obtain ⟨y38, ey38, hLy38, hKy38, hGy38⟩ := oQ_6_2 (Sv_at hQ hLp0 hKp0)
        refine p_get (v := .ref y38) hx hb hts inX6 hown hK hP hLp0 hKp0 rfl rfl 2 (by decide) (hts _ pq351) (congrArg (fun q => some (va_rf q)) ey38) dX6_keep_38 ?_
        refine sw_v (Z := (fun I1 J1 => Iv L K x0 m0 tx tm I1 ∧ (∀ b, ¬ ((G b = G v36_2 ∨ G b / 100 = G v36_2) ∧ ¬ K b = 6) → I1 b = I36 b) ∧ (I1 v36_2 3 = I36 y38 3 ∧ (∀ b, K b = 1 → ¬ b = v36_2 → I1 b = I36 b) ∧ ∀ b, ¬ K b = 0 → ¬ K b = 1 → ¬ K b = 3 → I1 b = I36 b) ∧ (neF (G v36_2) (G y38) → ∀ c : Fx, okF c → cxF Q I36 J36 y38 c → cxF Q I1 J1 v36_2 c) ∧ (∀ b, ¬ (K b = 12 ∧ (G b / 100 = G v36_2)) → J1 b = J36 b))) (va_runV (As := [.ref y38]) (rest := []) ⟨hx, hb, hml, hown, hts⟩ (s_X1_become l dC dI cs L K G Q hQ x0 m0 tx tm H.size I36 J36 hI36 v36_2 hLv36_2 hKv36_2 y38 hLy38 hKy38) (cwV 1 hts (gV pq589 pq590 pq591 pq75 pq592) rfl rfl rfl (by decide +kernel) ⟨(by rw [hR]; exact (Nat.le_of_ble_eq_true rfl)), (by rw [hR]; exact (Nat.le_of_ble_eq_true rfl))⟩) (sP_V hP hD hK hN hLv36_2 hKv36_2 rfl rfl) rfl rfl hl.1 rfl (lv_room (Nat.le_of_ble_eq_true rfl)) dX6_keep_41 ⟨(by rw [hR]; exact (show nc36 + 0 ≤ 29 by omega)), (by rw [hR]; exact (show ns36 + 0 ≤ 807 by omega))⟩) hS hAL hA (fun Iz41 Jz41 H locs hz41 hIz41 hP hS => ?_)
        obtain ⟨hIz41, frc41, fz41, jz41, djc41⟩ := hIz41
        have dj_Jz41 : (∀ b, b ∈ L0 → ¬ (K0 b = 12 ∧ (6 ≤ G0 b / 100 ∧ G0 b / 100 < 8)) → Jz41 b = J b) := fun b hb hc => (djc41 b (fun z => hc (by have w1 := (hX b hb).2.1; have w2 := (hX b hb).2.2.1; rw [w1] at z; exact ⟨z.1, by have z2 := z.2; omega⟩))).trans (dj_J36 b hb hc)
        have dn_Iz41 : (∀ b, b ∈ L0 → (K0 b = 7 ∨ K0 b = 18 ∨ K0 b = 19 ∨ K0 b = 20 ∨ K0 b = 24) → Iz41 b = I b) := fun b hb hc => (fz41.2.2 b (by have w := (hX b hb).2.1; omega) (by have w := (hX b hb).2.1; omega) (by have w := (hX b hb).2.1; omega)).trans (dn_I36 b hb hc)
        refine lv_aload_n hx hb dX6_keep_44 rfl (lv_at hl 0 rfl) ?_
        refine p_get (v := .ref y38) hx hb hts inX6 hown hK hP hLp0 hKp0 rfl rfl 2 (by decide) (hts _ pq351) (congrArg (fun q => some (va_rf q)) ey38) dX6_keep_45 ?_
        refine p_get hx hb hts inX1 hown hK hP hLy38 hKy38 rfl rfl 3 (by decide) (hts _ pq226) rfl dX6_keep_48 ?_
        refine lv_topi (fun z48 ez48 => ?_)
        have cgz48 := congrArg Int32.toInt ez48
        have bz48 := oI_1_3 (Iv_at hIz41 hLy38 hKy38)
        rw [← ez48] at bz48
        subst hR; subst hQz
        refine W.widen (k := 29) (n := 807) (by omega) (by omega) ?_
        exact W.iret (v := z48) hx hb hr (fun t ht hW => ⟨⟨z48, (), rfl, (fun σ h => by rw [kp_y ⟨by omega, by omega⟩]; show z48.toInt = (σ.1.1 1).toInt; have q := (hr36 σ h).1.1.2.2.1; rw [show an Q p0 = y38 from gd_of ey38] at q; rw [ez48, frc41 y38 (fun z => by have := z.1; have := hNv36_2; have := hGy38; omega), q]), ⟨L, K, G, Q, Iz41, Jz41, hX, hQ, hIz41, fun F => (hD F).weaken (fun _ _ _ _ => trivial), fun q h => hAe2 q (hAL q h), by rw [ht]; exact hP, ⟨(fun σ h => by obtain ⟨ys, e1, e2⟩ := hsl; rw [kp_y ⟨by omega, by omega⟩]; exact cxK_fin hQ hLp0 hKp0 (by omega) (by rw [show sa Q p0 = ys from gd_of e1]; exact e2) (by rw [show an Q p0 = y38 from gd_of ey38]; exact jz41) frc41 djc41 (hr36 σ h)), dn_Iz41, dj_Jz41⟩⟩⟩, hS.F ht⟩) hS.2.2 dX6_keep_51
      refine lv_ifnonnullN hx hb dX6_keep_18 ?_
      refine va_new (ci := 1) (fs := [.null, .null, .int 0, .int 0, .int 0]) (C := RX1) (T := TX1) (N := 5) hx hb hts inX1 tyX1 tyX1_ok hown (hts _ pq101) (hts _ pq102) (hts _ pq75) hK hP (hD _) hS hA rfl dfX1 (by rw [hR]; exact (Nat.le_of_ble_eq_true rfl)) (by rw [hR]; exact (Nat.le_of_ble_eq_true rfl)) dX6_keep_21 (fun q21 H hPn hDn hS => ?_)
      refine W.widen (k := 1) (n := 5) (Nat.le_of_ble_eq_true rfl) (Nat.le_of_ble_eq_true rfl) ?_
      refine lv_dup hx hb dX6_keep_24 rfl ?_
      refine al_field (6 + p1.toInt.toNat) (va_runI (As := []) (rest := [.ref q21]) ⟨hx, hb, hml, hown, hts⟩ (c_X1_init l dC dI q21 H.size) (cwI 0 hts (gI pq105) rfl rfl rfl (hts _ pq75) (hts _ pq103) (hts _ pq104) rfl (by decide +kernel) ⟨(by rw [hR]; exact (Nat.le_of_ble_eq_true rfl)), (by rw [hR]; exact (Nat.le_of_ble_eq_true rfl))⟩) (pc_S (P_last hPn) (D_last hDn) (hK.sub (tys' := []) [] rfl) hN) rfl rfl hl.1 rfl (lv_room (Nat.le_of_ble_eq_true rfl)) dX6_keep_25 ⟨(by rw [hR]; exact (Nat.le_of_ble_eq_true rfl)), (by rw [hR]; exact (Nat.le_of_ble_eq_true rfl))⟩) hS hK hPn hDn hA hQ hI hx0 hm0 (fun L K G Q Iz25 Jz25 H locs hE hIe hLq21 hKq21 hGq21 hQn hIz25 hDn hALn hP hS => ?_)
      have dn_Iz25 : (∀ b, b ∈ L0 → (K0 b = 7 ∨ K0 b = 18 ∨ K0 b = 19 ∨ K0 b = 20 ∨ K0 b = 24) → Iz25 b = I b) := fun b hb hc => (hIe b (hX b hb).1).1.trans (dn_I b hb hc)
      have dj_Jz25 : (∀ b, b ∈ L0 → ¬ (K0 b = 12 ∧ (6 ≤ G0 b / 100 ∧ G0 b / 100 < 8)) → Jz25 b = J b) := fun b hb hc => (hIe b (hX b hb).1).2.2.trans (dj_J b hb hc)
      have rx25 : ∀ σ : Sx, cxA Q0 I J p0 σ → cxA Q Iz25 Jz25 p0 σ := fun σ h => cxA_new hQ hE hLp0 hKp0 hIe (rx0 σ h)
      have hKp0 := (hE p0 hLp0).2.1.trans hKp0
      have hLp0 := (hE p0 hLp0).1
      have hx0 := (hE x0 hx0).1
      have hm0 := (hE m0 hm0).1
      have hX := extW_trans hX hE
      have hQ := hQn
      have hD := hDn
      have hAL := hALn
      have hNq21 : 6 ≤ G q21 ∧ G q21 < 8 := by omega
      refine W.widen (k := 29) (n := 807) (Nat.le_of_ble_eq_true rfl) (Nat.le_of_ble_eq_true rfl) ?_
      refine lv_astore_n (lv' := [(2, .ref q21), (0, .ref p0), (1, .int p1)]) hx hb dX6_keep_28 rfl hl (by decide) rfl (fun ls hl => ?_)
      refine lv_aload_n hx hb dX6_keep_29 rfl (lv_at hl 1 rfl) ?_
      obtain ⟨y30, ey30, hLy30, hKy30⟩ := oQ_6_11 (Sv_at hQ hLp0 hKp0)
      refine p_get (v := .ref y30) hx hb hts inX6 hown hK hP hLp0 hKp0 rfl rfl 11 (by decide) (hts _ pq360) (congrArg (fun q => some (va_rf q)) ey30) dX6_keep_30 ?_
      have esa : sa Q p0 = y30 := gd_of ey30
      refine lv_iload_n hx hb dX6_keep_33 rfl (lv_at hl 2 rfl) ?_
      refine lv_aload_n hx hb dX6_keep_34 rfl (lv_at hl 0 rfl) ?_
      refine p_aast hx hb hK hP hD hS 7 hLy30 hKy30 rfl (fun _ => rfl) rfl hLq21 hKq21 rfl rfl (in_of (by omega) (by omega)) dX6_keep_35 (fun H locs hP hS => ?_)
      have hQw := hQ
      obtain ⟨Q, hP, hQ, hX, qQ35⟩ : ∃ Q1, va_P (dC, dI) vwCl (Wd cs L K Iz25 Jz25 Q1) H ∧ Sv L K G Q1 ∧ extW L0 K0 G0 Q0 L K G Q1 ∧ Q1 = va_up Q y30 (va_up (Q y30) p1.toNatClampNeg (some q21)) := ⟨_, hP, Sv_ast17 hQ hLy30 hKy30 hLq21 hKq21 hGq21, extW_ast hX (Or.inr hKy30), rfl⟩
      exact j36 L K G Q q21 Iz25 Jz25 29 807 _ _ _ hX hQ hD hAL hx0 hm0 hLp0 hKp0 ⟨by omega, by omega⟩ hLq21 hKq21 hIz25 dn_Iz25 dj_Jz25 hNq21 ⟨y30, by rw [qQ35, va_up_ne _ _ (ne_k hKp0 hKy30 (by decide))]; exact ey30, by rw [qQ35, va_up_self]; exact va_up_self _ _ _⟩ (fun σ h => cxK_ast (k := p1.toInt.toNat) hQw hLp0 hKp0 (by rw [esa]; exact qQ35) (rx25 σ h)) hP hS (lv_sub hl [1, 2, 0] rfl)
    · have hNy15 : 6 ≤ G y15 ∧ G y15 < 8 := by (have hj := clamp_lt (i := p1) (n := 2) (in_of (by omega) (by omega))); omega
      refine p_aaldR hx hb hK hP 7 hLy11 hKy11 rfl rfl (in_of (by omega) (by omega)) ey15 dX6_keep_15 ?_
      refine lv_astore_n (lv' := [(2, .ref y15), (0, .ref p0), (1, .int p1)]) hx hb dX6_keep_16 rfl hl (by decide) rfl (fun ls hl => ?_)
      refine lv_aload_n hx hb dX6_keep_17 rfl (lv_at hl 0 rfl) ?_
      have j36 : ∀ (L : List Nat) (K : Nat → Nat) (G : Nat → Nat) (Q : Nat → Nat → Option Nat) (v36_2 : Nat) (I36 : Nat → Nat → Int32) (J36 : Nat → Nat → Int64) (nc36 : Nat) (ns36 : Nat) (H : Heap) (lo : List Loc) (ls : Array Slot), extW L0 K0 G0 Q0 L K G Q → Sv L K G Q → (∀ F, va_D A (va_pl L F)) → (∀ q, q ∈ L → A q) → x0 ∈ L → m0 ∈ L → p0 ∈ L → K p0 = 6 → (nc36 ≤ 29 ∧ ns36 ≤ 807) → v36_2 ∈ L → K v36_2 = 1 → Iv L K x0 m0 tx tm I36 → (∀ b, b ∈ L0 → (K0 b = 7 ∨ K0 b = 18 ∨ K0 b = 19 ∨ K0 b = 20 ∨ K0 b = 24) → I36 b = I b) → (∀ b, b ∈ L0 → ¬ (K0 b = 12 ∧ (6 ≤ G0 b / 100 ∧ G0 b / 100 < 8)) → J36 b = J b) → 6 ≤ G v36_2 ∧ G v36_2 < 8 → (∃ ys, Q p0 11 = some ys ∧ Q ys p1.toInt.toNat = some v36_2) → (∀ σ : Sx, cxA Q0 I J p0 σ → cxK Q I36 J36 p0 σ p1.toInt.toNat) → va_P (dC, dI) vwCl (Wd cs L K I36 J36 Q) H → va_S A s.heap H lo → lv_has ls 3 [(0, .ref p0), (1, .int p1), (2, .ref v36_2)] → W p l e R s m (([.ref p0, .int p1] : List Value).toArray) below meth c H lo nc36 ns36 Qz (F0 m 36 ls []) := by
        intro L K G Q v36_2 I36 J36 nc36 ns36 H lo ls hX hQ hD hAL hx0 hm0 hLp0 hKp0 hnc36 hLv36_2 hKv36_2 hI36 dn_I36 dj_J36 hNv36_2 hsl hr36 hP hS hl
        refine lv_aload_n hx hb dX6_keep_36 rfl (lv_at hl 2 rfl) ?_
        refine lv_aload_n hx hb dX6_keep_37 rfl (lv_at hl 0 rfl) ?_
        obtain ⟨y38, ey38, hLy38, hKy38, hGy38⟩ := oQ_6_2 (Sv_at hQ hLp0 hKp0)
        refine p_get (v := .ref y38) hx hb hts inX6 hown hK hP hLp0 hKp0 rfl rfl 2 (by decide) (hts _ pq351) (congrArg (fun q => some (va_rf q)) ey38) dX6_keep_38 ?_
        refine sw_v (Z := (fun I1 J1 => Iv L K x0 m0 tx tm I1 ∧ (∀ b, ¬ ((G b = G v36_2 ∨ G b / 100 = G v36_2) ∧ ¬ K b = 6) → I1 b = I36 b) ∧ (I1 v36_2 3 = I36 y38 3 ∧ (∀ b, K b = 1 → ¬ b = v36_2 → I1 b = I36 b) ∧ ∀ b, ¬ K b = 0 → ¬ K b = 1 → ¬ K b = 3 → I1 b = I36 b) ∧ (neF (G v36_2) (G y38) → ∀ c : Fx, okF c → cxF Q I36 J36 y38 c → cxF Q I1 J1 v36_2 c) ∧ (∀ b, ¬ (K b = 12 ∧ (G b / 100 = G v36_2)) → J1 b = J36 b))) (va_runV (As := [.ref y38]) (rest := []) ⟨hx, hb, hml, hown, hts⟩ (s_X1_become l dC dI cs L K G Q hQ x0 m0 tx tm H.size I36 J36 hI36 v36_2 hLv36_2 hKv36_2 y38 hLy38 hKy38) (cwV 1 hts (gV pq589 pq590 pq591 pq75 pq592) rfl rfl rfl (by decide +kernel) ⟨(by rw [hR]; exact (Nat.le_of_ble_eq_true rfl)), (by rw [hR]; exact (Nat.le_of_ble_eq_true rfl))⟩) (sP_V hP hD hK hN hLv36_2 hKv36_2 rfl rfl) rfl rfl hl.1 rfl (lv_room (Nat.le_of_ble_eq_true rfl)) dX6_keep_41 ⟨(by rw [hR]; exact (show nc36 + 0 ≤ 29 by omega)), (by rw [hR]; exact (show ns36 + 0 ≤ 807 by omega))⟩) hS hAL hA (fun Iz41 Jz41 H locs hz41 hIz41 hP hS => ?_)
        obtain ⟨hIz41, frc41, fz41, jz41, djc41⟩ := hIz41
        have dj_Jz41 : (∀ b, b ∈ L0 → ¬ (K0 b = 12 ∧ (6 ≤ G0 b / 100 ∧ G0 b / 100 < 8)) → Jz41 b = J b) := fun b hb hc => (djc41 b (fun z => hc (by have w1 := (hX b hb).2.1; have w2 := (hX b hb).2.2.1; rw [w1] at z; exact ⟨z.1, by have z2 := z.2; omega⟩))).trans (dj_J36 b hb hc)
        have dn_Iz41 : (∀ b, b ∈ L0 → (K0 b = 7 ∨ K0 b = 18 ∨ K0 b = 19 ∨ K0 b = 20 ∨ K0 b = 24) → Iz41 b = I b) := fun b hb hc => (fz41.2.2 b (by have w := (hX b hb).2.1; omega) (by have w := (hX b hb).2.1; omega) (by have w := (hX b hb).2.1; omega)).trans (dn_I36 b hb hc)
        refine lv_aload_n hx hb dX6_keep_44 rfl (lv_at hl 0 rfl) ?_
        refine p_get (v := .ref y38) hx hb hts inX6 hown hK hP hLp0 hKp0 rfl rfl 2 (by decide) (hts _ pq351) (congrArg (fun q => some (va_rf q)) ey38) dX6_keep_45 ?_
        refine p_get hx hb hts inX1 hown hK hP hLy38 hKy38 rfl rfl 3 (by decide) (hts _ pq226) rfl dX6_keep_48 ?_
        refine lv_topi (fun z48 ez48 => ?_)
        have cgz48 := congrArg Int32.toInt ez48
        have bz48 := oI_1_3 (Iv_at hIz41 hLy38 hKy38)
        rw [← ez48] at bz48
        subst hR; subst hQz
        refine W.widen (k := 29) (n := 807) (by omega) (by omega) ?_
        exact W.iret (v := z48) hx hb hr (fun t ht hW => ⟨⟨z48, (), rfl, (fun σ h => by rw [kp_y ⟨by omega, by omega⟩]; show z48.toInt = (σ.1.1 1).toInt; have q := (hr36 σ h).1.1.2.2.1; rw [show an Q p0 = y38 from gd_of ey38] at q; rw [ez48, frc41 y38 (fun z => by have := z.1; have := hNv36_2; have := hGy38; omega), q]), ⟨L, K, G, Q, Iz41, Jz41, hX, hQ, hIz41, fun F => (hD F).weaken (fun _ _ _ _ => trivial), fun q h => hAe2 q (hAL q h), by rw [ht]; exact hP, ⟨(fun σ h => by obtain ⟨ys, e1, e2⟩ := hsl; rw [kp_y ⟨by omega, by omega⟩]; exact cxK_fin hQ hLp0 hKp0 (by omega) (by rw [show sa Q p0 = ys from gd_of e1]; exact e2) (by rw [show an Q p0 = y38 from gd_of ey38]; exact jz41) frc41 djc41 (hr36 σ h)), dn_Iz41, dj_Jz41⟩⟩⟩, hS.F ht⟩) hS.2.2 dX6_keep_51
      refine lv_ifnonnull (tgt := 36) hx hb dX6_keep_18 (by decide) ?_
      exact j36 L K G Q y15 I J 0 0 _ _ _ hX hQ hD hAL hx0 hm0 hLp0 hKp0 ⟨by omega, by omega⟩ hLy15 hKy15 hI dn_I dj_J hNy15 ⟨y11, ey11, ey15⟩ (fun σ h => cxK_of (rx0 σ h)) hP hS (lv_sub hl [1, 2, 0] rfl)
  · have t5 := tq_eq (k := z2.toInt) (q := (0)) c5 rfl (by decide +kernel)
    refine lv_iconst (v := (-1)) hx hb dX6_keep_8 (by decide +kernel) ?_
    subst hR; subst hQz
    refine W.widen (k := 29) (n := 807) (Nat.le_of_ble_eq_true rfl) (Nat.le_of_ble_eq_true rfl) ?_
    exact W.iret (v := (-1)) hx hb hr (fun t ht hW => ⟨⟨(-1), (), rfl, (fun σ h => by rw [kp_n (fun q => xpz2 t5 q)]; show (-1 : Int32).toInt = -1; decide +kernel), ⟨L, K, G, Q, I, J, hX, hQ, hI, fun F => (hD F).weaken (fun _ _ _ _ => trivial), fun q h => hAe2 q (hAL q h), by rw [ht]; exact hP, ⟨(fun σ h => by rw [kp_n (fun q => xpz2 t5 q)]; exact rx0 σ h), dn_I, dj_J⟩⟩⟩, hS.F ht⟩) hS.2.2 dX6_keep_9

set_option maxHeartbeats 4000000 in
set_option maxRecDepth 100000 in
theorem s_X6_place (l : Launch) (dC : Nat → ClassId) (dI : Nat → Nat → Nat) (cs : Nat → ClassId) (L0 : List Nat) (K0 G0 : Nat → Nat) (Q0 : Nat → Nat → Option Nat) (hQ : Sv L0 K0 G0 Q0) (x0 m0 : Nat) (tx : GT) (tm : GT × Int) (hx0 : x0 ∈ L0) (hm0 : m0 ∈ L0) (sz : Nat) (I : Nat → Nat → Int32) (J : Nat → Nat → Int64) (hI : Iv L0 K0 x0 m0 tx tm I) (p0 : Nat) (hLp0 : p0 ∈ L0) (hKp0 : K0 p0 = 6) (p1 : Int32) (p2 : Int32) (p3 : Int32) : Met l yX6_place (.code yX6_place cX6_place 5 (some .int) :: pw) ({ frames := 4, cells := 29, slots := 807, locals := 125 }) (sP (dC, dI) cs [.ref p0, .int p1, .int p2, .int p3] sz L0 K0 I J Q0) (va_Qi (fun (r : Int32) (_ : Unit) => (∀ σ : Sx, cxA Q0 I J p0 σ → r.toInt = (twA σ p1 1 p2 p3 (-999) 999).1)) (fun _ t => sA (dC, dI) cs L0 K0 G0 Q0 x0 m0 tx tm sz (fun L K G Q I1 J1 => (∀ σ : Sx, cxA Q0 I J p0 σ → cxA Q I1 J1 p0 (twA σ p1 1 p2 p3 (-999) 999).2) ∧ (∀ b, b ∈ L0 → (K0 b = 7 ∨ K0 b = 18 ∨ K0 b = 19 ∨ K0 b = 20 ∨ K0 b = 24) → I1 b = I b) ∧ (∀ b, b ∈ L0 → ¬ (K0 b = 12) → J1 b = J b)) t) (fun q => q ∈ L0 ∨ sz ≤ q)) 29 807 (fun q => q ∈ L0 ∨ sz ≤ q) := by
  refine Met.ofW (cc := cX6_place) (maxL := 5) (ret := (some .int)) (by decide +kernel) rfl ?_
  intro p e s m args below meth c s₁ B hml hv
  obtain ⟨rfl, hsz, hP, hK, hD0, hN⟩ := hv
  have hx := B.exec
  have hb := B.bytes
  have hr := B.returns
  have hts := fun w (h : w ∈ pw) => atoms_spec (ws := Cond.code yX6_place cX6_place 5 (some .int) :: pw) B.pre w (List.mem_cons_of_mem _ h)
  have hown : s.vm.findClass RX6 = some m.cls := findClass_of_methodNamed B.named
  have hlocks := B.notSynchronized
  subst hsz
  have hBB : 999 ≤ tm.2 ∧ tm.2 ≤ 6000000 := hI.2.2.2.2.1
  have dn_I : (∀ b, b ∈ L0 → (K0 b = 7 ∨ K0 b = 18 ∨ K0 b = 19 ∨ K0 b = 20 ∨ K0 b = 24) → I b = I b) := fun _ _ _ => rfl
  have dj_J : (∀ b, b ∈ L0 → ¬ (K0 b = 12) → J b = J b) := fun _ _ _ => rfl
  obtain ⟨A, hAe⟩ : ∃ A : Nat → Prop, A = (fun q => q ∈ L0 ∨ s.heap.size ≤ q) := ⟨_, rfl⟩
  rw [← hAe]
  have hAL : ∀ q, q ∈ L0 → A q := fun q h => by rw [hAe]; exact Or.inl h
  have hA : ∀ q, s.heap.size ≤ q → A q := fun q h => by rw [hAe]; exact Or.inr h
  have hD : ∀ F, va_D A (va_pl L0 F) := fun F => (hD0 F).weaken (fun k q hk _ => hAL _ (pl_mem hk))
  obtain ⟨H, hHe⟩ : ∃ H : Heap, H = s.heap := ⟨_, rfl⟩
  have hS : va_S A s.heap H [] := by rw [hHe]; exact va_S.rf
  rw [← hHe] at hP
  have hl := lv_entry ([.ref p0, .int p1, .int p2, .int p3]) (n := 5) (Nat.le_of_ble_eq_true rfl)
  rw [lg_entry_eq]
  generalize (lg_sl ([.ref p0, .int p1, .int p2, .int p3]) ++ List.replicate (5 - (lg_sl ([.ref p0, .int p1, .int p2, .int p3])).length) Slot.unset).toArray = ls at hl ⊢
  have hl : lv_has ls 5 [(0, .ref p0), (1, .int p1), (2, .int p2), (3, .int p3)] := hl
  rw [← hHe]
  refine namedW (fun R Qz hR hQz => ?_)
  have hAe2 : ∀ q, A q → q ∈ L0 ∨ H.size ≤ q := fun q h => by rw [hHe]; rw [hAe] at h; exact h
  have hQ0 := hQ
  have hK0p0 := hKp0
  have hL0p0 := hLp0
  obtain ⟨L, K, G, Q, hX, hQ, hI, hP, hD, hAL, hx0, hm0, hLp0, hKp0, rx0⟩ : ∃ L K G Q, extW L0 K0 G0 Q0 L K G Q ∧ Sv L K G Q ∧ Iv L K x0 m0 tx tm I ∧ va_P (dC, dI) vwCl (Wd cs L K I J Q) H ∧ (∀ F, va_D A (va_pl L F)) ∧ (∀ q, q ∈ L → A q) ∧ x0 ∈ L ∧ m0 ∈ L ∧ p0 ∈ L ∧ K p0 = 6 ∧ (∀ σ : Sx, cxA Q0 I J p0 σ → cxA Q I J p0 σ) := ⟨L0, K0, G0, Q0, extW_refl, hQ, hI, hP, hD, hAL, hx0, hm0, hLp0, hKp0, fun _ h => h⟩
  refine lv_aload_n hx hb dX6_place_0 rfl (lv_at hl 0 rfl) ?_
  refine lv_iload_n hx hb dX6_place_1 rfl (lv_at hl 1 rfl) ?_
  refine ro_i (va_runV (As := [.int p1]) (rest := []) ⟨hx, hb, hml, hown, hts⟩ (s_X6_isBody l dC dI cs L K G Q hQ x0 m0 tx tm H.size I J hI p0 hLp0 hKp0 p1) (cwV 1 hts (gV pq636 pq638 pq2 pq74 pq639) rfl rfl rfl (by decide +kernel) ⟨(by rw [hR]; exact (Nat.le_of_ble_eq_true rfl)), (by rw [hR]; exact (Nat.le_of_ble_eq_true rfl))⟩) (sP_V hP hD hK hN hLp0 hKp0 rfl rfl) rfl rfl hl.1 rfl (lv_room (Nat.le_of_ble_eq_true rfl)) dX6_place_2 ⟨(by rw [hR]; exact (Nat.le_of_ble_eq_true rfl)), (by rw [hR]; exact (Nat.le_of_ble_eq_true rfl))⟩) hS hP (fun z2 H locs hz2 hP hS => ?_)
  obtain ⟨bz2, imz2, xpz2⟩ := hz2
  refine lv_if_eq (tgt := 28) hx hb dX6_place_5 (by decide) (fun c5 => ?_) (fun c5 => ?_)
  · have t5 := tq_eq (k := z2.toInt) (q := (0)) c5 rfl (by decide +kernel)
    refine lv_iconst (v := (-1)) hx hb dX6_place_28 (by decide +kernel) ?_
    subst hR; subst hQz
    refine W.widen (k := 29) (n := 807) (Nat.le_of_ble_eq_true rfl) (Nat.le_of_ble_eq_true rfl) ?_
    exact W.iret (v := (-1)) hx hb hr (fun t ht hW => ⟨⟨(-1), (), rfl, (fun σ h => by have A0 := rx0 σ h; have ec := A0.1.1.2.2.1; rw [tw_n (fun q => by unfold twC at q; rw [← ec] at q; first | exact xpz2.2 t5 q.1 | exact xpz12 t15 q.2.1 | exact xpz22 t25 q.2.2)]; show (-1 : Int32).toInt = -1; decide +kernel), ⟨L, K, G, Q, I, J, hX, hQ, hI, fun F => (hD F).weaken (fun _ _ _ _ => trivial), fun q h => hAe2 q (hAL q h), by rw [ht]; exact hP, ⟨(fun σ h => by have A0 := rx0 σ h; have ec := A0.1.1.2.2.1; first | (rw [tw_n (fun q => by unfold twC at q; rw [← ec] at q; first | exact xpz2.2 t5 q.1 | exact xpz12 t15 q.2.1 | exact xpz22 t25 q.2.2)]; exact A0) | (rw [tw_e ⟨by rw [← ec]; exact xpz2.1 t5, ⟨by omega, by omega⟩, ⟨by omega, by omega⟩⟩ (by have vb := fun k (hk : k < 8) => A0.1.1.2.2.2.2.2 p1.toInt.toNat (by rw [← ec]; have q := xpz2.1 t5; omega) k hk; rw [eb] at vb; exact ⟨(vb 1 (by decide)).symm.trans (by rw [← ez43]; exact Int32.toInt_inj.mp t47), (vb 2 (by decide)).symm.trans (by rw [← ez52]; exact Int32.toInt_inj.mp t56)⟩)]; exact A0)), dn_I, dj_J⟩⟩⟩, hS.F ht⟩) hS.2.2 dX6_place_29
  · have t5 := tq_ne (k := z2.toInt) (q := (0)) c5 rfl (by decide +kernel)
    have i5 := imz2 t5
    refine lv_iload_n hx hb dX6_place_8 rfl (lv_at hl 2 rfl) ?_
    refine lv_sipush (v := 999) hx hb dX6_place_9 (by decide +kernel) ?_
    refine ro_i (va_runS (As := [.int p2, .int 999]) (rest := []) ⟨hx, hb, hml, hown, hts⟩ (s_X6_isWithin l dC dI cs L K G Q hQ x0 m0 tx tm H.size I J hI p2 999 ⟨by decide +kernel, by decide +kernel⟩) (va_cwS 2 hts (gS pq640 pq641 pq74 pq642) rfl rfl rfl (by decide +kernel) ⟨(by rw [hR]; exact (Nat.le_of_ble_eq_true rfl)), (by rw [hR]; exact (Nat.le_of_ble_eq_true rfl))⟩) (sP_S hP hD hK hN) rfl rfl hl.1 rfl (lv_room (Nat.le_of_ble_eq_true rfl)) dX6_place_12 ⟨(by rw [hR]; exact (Nat.le_of_ble_eq_true rfl)), (by rw [hR]; exact (Nat.le_of_ble_eq_true rfl))⟩) hS hP (fun z12 H locs hz12 hP hS => ?_)
    have cst12_999 : (999 : Int32).toInt = 999 := by decide +kernel
    obtain ⟨bz12, imz12, xpz12⟩ := hz12
    try rw [cst12_999] at xpz12
    refine lv_if_eq (tgt := 28) hx hb dX6_place_15 (by decide) (fun c15 => ?_) (fun c15 => ?_)
    · have t15 := tq_eq (k := z12.toInt) (q := (0)) c15 rfl (by decide +kernel)
      refine lv_iconst (v := (-1)) hx hb dX6_place_28 (by decide +kernel) ?_
      subst hR; subst hQz
      refine W.widen (k := 29) (n := 807) (Nat.le_of_ble_eq_true rfl) (Nat.le_of_ble_eq_true rfl) ?_
      exact W.iret (v := (-1)) hx hb hr (fun t ht hW => ⟨⟨(-1), (), rfl, (fun σ h => by have A0 := rx0 σ h; have ec := A0.1.1.2.2.1; rw [tw_n (fun q => by unfold twC at q; rw [← ec] at q; first | exact xpz2.2 t5 q.1 | exact xpz12 t15 q.2.1 | exact xpz22 t25 q.2.2)]; show (-1 : Int32).toInt = -1; decide +kernel), ⟨L, K, G, Q, I, J, hX, hQ, hI, fun F => (hD F).weaken (fun _ _ _ _ => trivial), fun q h => hAe2 q (hAL q h), by rw [ht]; exact hP, ⟨(fun σ h => by have A0 := rx0 σ h; have ec := A0.1.1.2.2.1; first | (rw [tw_n (fun q => by unfold twC at q; rw [← ec] at q; first | exact xpz2.2 t5 q.1 | exact xpz12 t15 q.2.1 | exact xpz22 t25 q.2.2)]; exact A0) | (rw [tw_e ⟨by rw [← ec]; exact xpz2.1 t5, ⟨by omega, by omega⟩, ⟨by omega, by omega⟩⟩ (by have vb := fun k (hk : k < 8) => A0.1.1.2.2.2.2.2 p1.toInt.toNat (by rw [← ec]; have q := xpz2.1 t5; omega) k hk; rw [eb] at vb; exact ⟨(vb 1 (by decide)).symm.trans (by rw [← ez43]; exact Int32.toInt_inj.mp t47), (vb 2 (by decide)).symm.trans (by rw [← ez52]; exact Int32.toInt_inj.mp t56)⟩)]; exact A0)), dn_I, dj_J⟩⟩⟩, hS.F ht⟩) hS.2.2 dX6_place_29
    · have t15 := tq_ne (k := z12.toInt) (q := (0)) c15 rfl (by decide +kernel)
      have i15 := imz12 t15
      refine lv_iload_n hx hb dX6_place_18 rfl (lv_at hl 3 rfl) ?_
      refine lv_sipush (v := 999) hx hb dX6_place_19 (by decide +kernel) ?_
      refine ro_i (va_runS (As := [.int p3, .int 999]) (rest := []) ⟨hx, hb, hml, hown, hts⟩ (s_X6_isWithin l dC dI cs L K G Q hQ x0 m0 tx tm H.size I J hI p3 999 ⟨by decide +kernel, by decide +kernel⟩) (va_cwS 2 hts (gS pq640 pq641 pq74 pq642) rfl rfl rfl (by decide +kernel) ⟨(by rw [hR]; exact (Nat.le_of_ble_eq_true rfl)), (by rw [hR]; exact (Nat.le_of_ble_eq_true rfl))⟩) (sP_S hP hD hK hN) rfl rfl hl.1 rfl (lv_room (Nat.le_of_ble_eq_true rfl)) dX6_place_22 ⟨(by rw [hR]; exact (Nat.le_of_ble_eq_true rfl)), (by rw [hR]; exact (Nat.le_of_ble_eq_true rfl))⟩) hS hP (fun z22 H locs hz22 hP hS => ?_)
      have cst22_999 : (999 : Int32).toInt = 999 := by decide +kernel
      obtain ⟨bz22, imz22, xpz22⟩ := hz22
      try rw [cst22_999] at xpz22
      refine lv_if_ne (tgt := 30) hx hb dX6_place_25 (by decide) (fun c25 => ?_) (fun c25 => ?_)
      · have t25 := tq_ne (k := z22.toInt) (q := (0)) c25 rfl (by decide +kernel)
        have i25 := imz22 t25
        refine lv_aload_n hx hb dX6_place_30 rfl (lv_at hl 0 rfl) ?_
        obtain ⟨y31, ey31, hLy31, hKy31, hGy31⟩ := oQ_6_2 (Sv_at hQ hLp0 hKp0)
        refine p_get (v := .ref y31) hx hb hts inX6 hown hK hP hLp0 hKp0 rfl rfl 2 (by decide) (hts _ pq351) (congrArg (fun q => some (va_rf q)) ey31) dX6_place_31 ?_
        obtain ⟨y34, ey34, hLy34, hKy34, hGy34⟩ := oQ_1_1 (Sv_at hQ hLy31 hKy31)
        refine p_get (v := .ref y34) hx hb hts inX1 hown hK hP hLy31 hKy31 rfl rfl 1 (by decide) (hts _ pq219) (congrArg (fun q => some (va_rf q)) ey34) dX6_place_34 ?_
        refine lv_iload_n hx hb dX6_place_37 rfl (lv_at hl 1 rfl) ?_
        obtain ⟨y38, ey38, hLy38, hKy38, hGy38⟩ := (Sv_at hQ hLy34 hKy34).1 p1.toNatClampNeg (clamp_lt (n := 10) (in_of (by omega) (by omega)))
        refine p_aaldR hx hb hK hP 4 hLy34 hKy34 rfl rfl (in_of (by omega) (by omega)) ey38 dX6_place_38 ?_
        refine lv_astore (lv' := [(4, .ref y38), (0, .ref p0), (1, .int p1), (2, .int p2), (3, .int p3)]) hx hb dX6_place_39 hl (by decide) rfl (fun ls hl => ?_)
        have eb : fb Q (an Q p0) p1.toInt.toNat = y38 := by rw [show an Q p0 = y31 from gd_of ey31]; exact fb_of ey34 ey38
        refine lv_aload hx hb dX6_place_41 (lv_at hl 0 rfl) ?_
        refine p_get hx hb hts inX0 hown hK hP hLy38 hKy38 rfl rfl 1 (by decide) (hts _ pq174) rfl dX6_place_43 ?_
        refine lv_topi (fun z43 ez43 => ?_)
        have cgz43 := congrArg Int32.toInt ez43
        have bz43 := oI_0_1 (Iv_at hI hLy38 hKy38)
        rw [← ez43] at bz43
        refine lv_iload_n hx hb dX6_place_46 rfl (lv_at hl 3 rfl) ?_
        have j62 : ∀ (H : Heap) (lo : List Loc) (ls : Array Slot), (¬ (I y38 1 = p2 ∧ I y38 2 = p3)) → va_P (dC, dI) vwCl (Wd cs L K I J Q) H → va_S A s.heap H lo → lv_has ls 5 [(0, .ref p0), (1, .int p1), (2, .int p2), (3, .int p3), (4, .ref y38)] → W p l e R s m (([.ref p0, .int p1, .int p2, .int p3] : List Value).toArray) below meth c H lo 0 0 Qz (F0 m 62 ls []) := by
          intro H lo ls h62 hP hS hl
          refine lv_aload_n hx hb dX6_place_62 rfl (lv_at hl 0 rfl) ?_
          have rx1 := rx0
          have ec1 : ∀ σ : Sx, cxA Q0 I J p0 σ → I (an Q p0) 3 = σ.1.1 1 := fun σ h => (rx0 σ h).1.1.2.2.1
          refine sa_v (va_runV (As := []) (rest := []) ⟨hx, hb, hml, hown, hts⟩ (s_X6_remember l dC dI cs L K G Q hQ x0 m0 tx tm hx0 hm0 H.size I J hI p0 hLp0 hKp0) (cwV 0 hts (gV pq643 pq645 pq3 pq74 pq646) rfl rfl rfl (by decide +kernel) ⟨(by rw [hR]; exact (Nat.le_of_ble_eq_true rfl)), (by rw [hR]; exact (Nat.le_of_ble_eq_true rfl))⟩) (sP_V hP hD hK hN hLp0 hKp0 rfl rfl) rfl rfl hl.1 rfl (lv_room (Nat.le_of_ble_eq_true rfl)) dX6_place_63 ⟨(by rw [hR]; exact (Nat.le_of_ble_eq_true rfl)), (by rw [hR]; exact (Nat.le_of_ble_eq_true rfl))⟩) hS hAL hA (fun L K G Q Iz63 Jz63 H locs hz63 hE hQn hIz63 hDn hALn hP zp63 hS => ?_)
          obtain ⟨zp63, rz63, dnc63, djc63⟩ := zp63
          have dn_Iz63 : (∀ b, b ∈ L0 → (K0 b = 7 ∨ K0 b = 18 ∨ K0 b = 19 ∨ K0 b = 20 ∨ K0 b = 24) → Iz63 b = I b) := fun b hb hc => (dnc63 b (hX b hb).1 (by have w := (hX b hb).2.1; omega)).trans (dn_I b hb hc)
          have dj_Jz63 : (∀ b, b ∈ L0 → ¬ (K0 b = 12) → Jz63 b = J b) := fun b hb hc => (djc63 b (hX b hb).1 (fun z => hc (by have w1 := (hX b hb).2.1; have w2 := (hX b hb).2.2.1; rw [w1] at z; first | exact z | exact z.1))).trans (dj_J b hb hc)
          have eb63 : fb Q (an Q p0) p1.toInt.toNat = y38 := by rw [(ext_x hQ hE hLp0 hKp0).1, ext_fb hQ hE (x_g hQ hLp0 hKp0).1.1 (x_g hQ hLp0 hKp0).1.2.1]; exact eb
          have hKp0 := (hE p0 hLp0).2.1.trans hKp0
          have hKy38 := (hE y38 hLy38).2.1.trans hKy38
          have hLp0 := (hE p0 hLp0).1
          have hLy38 := (hE y38 hLy38).1
          have hx0 := (hE x0 hx0).1
          have hm0 := (hE m0 hm0).1
          have hX := extW_trans hX hE
          have hQ := hQn
          have hD := hDn
          have hAL := hALn
          refine W.widen (k := 29) (n := 807) (Nat.le_of_ble_eq_true rfl) (Nat.le_of_ble_eq_true rfl) ?_
          refine lv_aload hx hb dX6_place_66 (lv_at hl 4 rfl) ?_
          refine lv_iload_n hx hb dX6_place_68 rfl (lv_at hl 2 rfl) ?_
          refine p_put hx hb hts inX0 tyX0 tyX0_ok nmX0 hown hK hP hD hS hLy38 hKy38 rfl rfl 1 (by decide) (hts _ pq174) rfl (by decide +kernel) (Nat.le_of_ble_eq_true rfl) (oS_0_1 cs _ _ _ _) dX6_place_69 (fun H locs hP hS => ?_)
          obtain ⟨Iz69, hP, hIz69, qIz69⟩ : ∃ Iz69, va_P (dC, dI) vwCl (Wd cs L K Iz69 Jz63 Q) H ∧ Iv L K x0 m0 tx tm Iz69 ∧ Iz69 = va_up Iz63 y38 (upd (Iz63 y38) 1 p2) := ⟨_, hP, Iv_put hIz63 hKy38 (oP_0_1 (Iv_at hIz63 hLy38 hKy38) ⟨by omega, by omega⟩) (by decide) (by decide), rfl⟩
          have dn_Iz69 : (∀ b, b ∈ L0 → (K0 b = 7 ∨ K0 b = 18 ∨ K0 b = 19 ∨ K0 b = 20 ∨ K0 b = 24) → Iz69 b = I b) := fun b hb hc => (congrFun qIz69 b).trans ((va_up_ne _ _ (fun z => by have q := hKy38; rw [← z, (hX b hb).2.1] at q; omega)).trans (dn_Iz63 b hb hc))
          refine lv_aload hx hb dX6_place_72 (lv_at hl 4 rfl) ?_
          refine lv_iload_n hx hb dX6_place_74 rfl (lv_at hl 3 rfl) ?_
          refine p_put hx hb hts inX0 tyX0 tyX0_ok nmX0 hown hK hP hD hS hLy38 hKy38 rfl rfl 2 (by decide) (hts _ pq177) rfl (by decide +kernel) (Nat.le_of_ble_eq_true rfl) (oS_0_2 cs _ _ _ _) dX6_place_75 (fun H locs hP hS => ?_)
          obtain ⟨Iz75, hP, hIz75, qIz75⟩ : ∃ Iz75, va_P (dC, dI) vwCl (Wd cs L K Iz75 Jz63 Q) H ∧ Iv L K x0 m0 tx tm Iz75 ∧ Iz75 = va_up Iz69 y38 (upd (Iz69 y38) 2 p3) := ⟨_, hP, Iv_put hIz69 hKy38 (oP_0_2 (Iv_at hIz69 hLy38 hKy38) ⟨by omega, by omega⟩) (by decide) (by decide), rfl⟩
          have dn_Iz75 : (∀ b, b ∈ L0 → (K0 b = 7 ∨ K0 b = 18 ∨ K0 b = 19 ∨ K0 b = 20 ∨ K0 b = 24) → Iz75 b = I b) := fun b hb hc => (congrFun qIz75 b).trans ((va_up_ne _ _ (fun z => by have q := hKy38; rw [← z, (hX b hb).2.1] at q; omega)).trans (dn_Iz69 b hb hc))
          refine lv_iconst (v := 1) hx hb dX6_place_78 (by decide +kernel) ?_
          subst hR; subst hQz
          exact W.iret (v := 1) hx hb hr (fun t ht hW => ⟨⟨1, (), rfl, (fun σ h => by have A0 := rx1 σ h; have ec := ec1 σ h; rw [tw_y ⟨by rw [← ec]; exact xpz2.1 t5, ⟨by omega, by omega⟩, ⟨by omega, by omega⟩⟩ (fun q => by have vb := fun k (hk : k < 8) => A0.1.1.2.2.2.2.2 p1.toInt.toNat (by rw [← ec]; have q := xpz2.1 t5; omega) k hk; rw [eb] at vb; exact h62 ⟨(vb 1 (by decide)).trans q.1, (vb 2 (by decide)).trans q.2⟩)]; show (1 : Int32).toInt = 1; decide +kernel), ⟨L, K, G, Q, Iz75, Jz63, hX, hQ, hIz75, fun F => (hD F).weaken (fun _ _ _ _ => trivial), fun q h => hAe2 q (hAL q h), by rw [ht]; exact hP, ⟨(fun σ h => by have A0 := rx1 σ h; have ec := ec1 σ h; rw [tw_y ⟨by rw [← ec]; exact xpz2.1 t5, ⟨by omega, by omega⟩, ⟨by omega, by omega⟩⟩ (fun q => by have vb := fun k (hk : k < 8) => A0.1.1.2.2.2.2.2 p1.toInt.toNat (by rw [← ec]; have q := xpz2.1 t5; omega) k hk; rw [eb] at vb; exact h62 ⟨(vb 1 (by decide)).trans q.1, (vb 2 (by decide)).trans q.2⟩)]; have hb := ec ▸ xpz2.1 t5; exact tw_fin (I1 := Iz69) (k := 1) hQ hLp0 hKp0 (rz63 σ A0) hb (by omega) (by unfold vok; omega) (by unfold vok; omega) (by rw [eb63]; exact qIz69) (by rw [eb63]; exact qIz75)), dn_Iz75, dj_Jz63⟩⟩⟩, hS.F ht⟩) hS.2.2 dX6_place_79
        refine lv_icmp_ne (tgt := 62) hx hb dX6_place_47 (by decide) (fun c47 => ?_) (fun c47 => ?_)
        · have t47 := tq_ne (k := z43.toInt) (q := p2.toInt) c47 rfl rfl
          exact j62  _ _ _ (fun q => by first | exact t47 (by rw [ez43, q.1]) | exact t56 (by rw [ez52, q.2])) hP hS (lv_sub hl [1, 2, 3, 4, 0] rfl)
        · have t47 := tq_eq (k := z43.toInt) (q := p2.toInt) c47 rfl rfl
          refine lv_aload hx hb dX6_place_50 (lv_at hl 0 rfl) ?_
          refine p_get hx hb hts inX0 hown hK hP hLy38 hKy38 rfl rfl 2 (by decide) (hts _ pq177) rfl dX6_place_52 ?_
          refine lv_topi (fun z52 ez52 => ?_)
          have cgz52 := congrArg Int32.toInt ez52
          have bz52 := oI_0_2 (Iv_at hI hLy38 hKy38)
          rw [← ez52] at bz52
          refine lv_iload_n hx hb dX6_place_55 rfl (lv_at hl 4 rfl) ?_
          refine lv_icmp_ne (tgt := 62) hx hb dX6_place_56 (by decide) (fun c56 => ?_) (fun c56 => ?_)
          · have t56 := tq_ne (k := z52.toInt) (q := p3.toInt) c56 rfl rfl
            exact j62  _ _ _ (fun q => by first | exact t47 (by rw [ez43, q.1]) | exact t56 (by rw [ez52, q.2])) hP hS (lv_sub hl [1, 2, 3, 4, 0] rfl)
          · have t56 := tq_eq (k := z52.toInt) (q := p3.toInt) c56 rfl rfl
            refine lv_bipush (v := (-2)) hx hb dX6_place_59 (by decide +kernel) ?_
            subst hR; subst hQz
            refine W.widen (k := 29) (n := 807) (Nat.le_of_ble_eq_true rfl) (Nat.le_of_ble_eq_true rfl) ?_
            exact W.iret (v := (-2)) hx hb hr (fun t ht hW => ⟨⟨(-2), (), rfl, (fun σ h => by have A0 := rx0 σ h; have ec := A0.1.1.2.2.1; rw [tw_e ⟨by rw [← ec]; exact xpz2.1 t5, ⟨by omega, by omega⟩, ⟨by omega, by omega⟩⟩ (by have vb := fun k (hk : k < 8) => A0.1.1.2.2.2.2.2 p1.toInt.toNat (by rw [← ec]; have q := xpz2.1 t5; omega) k hk; rw [eb] at vb; exact ⟨(vb 1 (by decide)).symm.trans (by rw [← ez43]; exact Int32.toInt_inj.mp t47), (vb 2 (by decide)).symm.trans (by rw [← ez52]; exact Int32.toInt_inj.mp t56)⟩)]; show (-2 : Int32).toInt = -2; decide +kernel), ⟨L, K, G, Q, I, J, hX, hQ, hI, fun F => (hD F).weaken (fun _ _ _ _ => trivial), fun q h => hAe2 q (hAL q h), by rw [ht]; exact hP, ⟨(fun σ h => by have A0 := rx0 σ h; have ec := A0.1.1.2.2.1; first | (rw [tw_n (fun q => by unfold twC at q; rw [← ec] at q; first | exact xpz2.2 t5 q.1 | exact xpz12 t15 q.2.1 | exact xpz22 t25 q.2.2)]; exact A0) | (rw [tw_e ⟨by rw [← ec]; exact xpz2.1 t5, ⟨by omega, by omega⟩, ⟨by omega, by omega⟩⟩ (by have vb := fun k (hk : k < 8) => A0.1.1.2.2.2.2.2 p1.toInt.toNat (by rw [← ec]; have q := xpz2.1 t5; omega) k hk; rw [eb] at vb; exact ⟨(vb 1 (by decide)).symm.trans (by rw [← ez43]; exact Int32.toInt_inj.mp t47), (vb 2 (by decide)).symm.trans (by rw [← ez52]; exact Int32.toInt_inj.mp t56)⟩)]; exact A0)), dn_I, dj_J⟩⟩⟩, hS.F ht⟩) hS.2.2 dX6_place_61
      · have t25 := tq_eq (k := z22.toInt) (q := (0)) c25 rfl (by decide +kernel)
        refine lv_iconst (v := (-1)) hx hb dX6_place_28 (by decide +kernel) ?_
        subst hR; subst hQz
        refine W.widen (k := 29) (n := 807) (Nat.le_of_ble_eq_true rfl) (Nat.le_of_ble_eq_true rfl) ?_
        exact W.iret (v := (-1)) hx hb hr (fun t ht hW => ⟨⟨(-1), (), rfl, (fun σ h => by have A0 := rx0 σ h; have ec := A0.1.1.2.2.1; rw [tw_n (fun q => by unfold twC at q; rw [← ec] at q; first | exact xpz2.2 t5 q.1 | exact xpz12 t15 q.2.1 | exact xpz22 t25 q.2.2)]; show (-1 : Int32).toInt = -1; decide +kernel), ⟨L, K, G, Q, I, J, hX, hQ, hI, fun F => (hD F).weaken (fun _ _ _ _ => trivial), fun q h => hAe2 q (hAL q h), by rw [ht]; exact hP, ⟨(fun σ h => by have A0 := rx0 σ h; have ec := A0.1.1.2.2.1; first | (rw [tw_n (fun q => by unfold twC at q; rw [← ec] at q; first | exact xpz2.2 t5 q.1 | exact xpz12 t15 q.2.1 | exact xpz22 t25 q.2.2)]; exact A0) | (rw [tw_e ⟨by rw [← ec]; exact xpz2.1 t5, ⟨by omega, by omega⟩, ⟨by omega, by omega⟩⟩ (by have vb := fun k (hk : k < 8) => A0.1.1.2.2.2.2.2 p1.toInt.toNat (by rw [← ec]; have q := xpz2.1 t5; omega) k hk; rw [eb] at vb; exact ⟨(vb 1 (by decide)).symm.trans (by rw [← ez43]; exact Int32.toInt_inj.mp t47), (vb 2 (by decide)).symm.trans (by rw [← ez52]; exact Int32.toInt_inj.mp t56)⟩)]; exact A0)), dn_I, dj_J⟩⟩⟩, hS.F ht⟩) hS.2.2 dX6_place_29

set_option maxHeartbeats 4000000 in
set_option maxRecDepth 100000 in
theorem s_X6_flip (l : Launch) (dC : Nat → ClassId) (dI : Nat → Nat → Nat) (cs : Nat → ClassId) (L0 : List Nat) (K0 G0 : Nat → Nat) (Q0 : Nat → Nat → Option Nat) (hQ : Sv L0 K0 G0 Q0) (x0 m0 : Nat) (tx : GT) (tm : GT × Int) (hx0 : x0 ∈ L0) (hm0 : m0 ∈ L0) (sz : Nat) (I : Nat → Nat → Int32) (J : Nat → Nat → Int64) (hI : Iv L0 K0 x0 m0 tx tm I) (p0 : Nat) (hLp0 : p0 ∈ L0) (hKp0 : K0 p0 = 6) (p1 : Int32) (p2 : Int32) : Met l yX6_flip (.code yX6_flip cX6_flip 5 (some .int) :: pw) ({ frames := 5, cells := 29, slots := 807, locals := 131 }) (sP (dC, dI) cs [.ref p0, .int p1, .int p2] sz L0 K0 I J Q0) (va_Qi (fun (r : Int32) (_ : Unit) => (∀ σ : Sx, cxA Q0 I J p0 σ → r.toInt = (flA σ p1 p2).1)) (fun _ t => sA (dC, dI) cs L0 K0 G0 Q0 x0 m0 tx tm sz (fun L K G Q I1 J1 => (∀ σ : Sx, cxA Q0 I J p0 σ → cxA Q I1 J1 p0 (flA σ p1 p2).2) ∧ (∀ b, b ∈ L0 → (K0 b = 7 ∨ K0 b = 18 ∨ K0 b = 19 ∨ K0 b = 20 ∨ K0 b = 24) → I1 b = I b) ∧ (∀ b, b ∈ L0 → ¬ (K0 b = 12) → J1 b = J b)) t) (fun q => q ∈ L0 ∨ sz ≤ q)) 29 807 (fun q => q ∈ L0 ∨ sz ≤ q) := by
  refine Met.ofW (cc := cX6_flip) (maxL := 5) (ret := (some .int)) (by decide +kernel) rfl ?_
  intro p e s m args below meth c s₁ B hml hv
  obtain ⟨rfl, hsz, hP, hK, hD0, hN⟩ := hv
  have hx := B.exec
  have hb := B.bytes
  have hr := B.returns
  have hts := fun w (h : w ∈ pw) => atoms_spec (ws := Cond.code yX6_flip cX6_flip 5 (some .int) :: pw) B.pre w (List.mem_cons_of_mem _ h)
  have hown : s.vm.findClass RX6 = some m.cls := findClass_of_methodNamed B.named
  have hlocks := B.notSynchronized
  subst hsz
  have hBB : 999 ≤ tm.2 ∧ tm.2 ≤ 6000000 := hI.2.2.2.2.1
  have dn_I : (∀ b, b ∈ L0 → (K0 b = 7 ∨ K0 b = 18 ∨ K0 b = 19 ∨ K0 b = 20 ∨ K0 b = 24) → I b = I b) := fun _ _ _ => rfl
  have dj_J : (∀ b, b ∈ L0 → ¬ (K0 b = 12) → J b = J b) := fun _ _ _ => rfl
  obtain ⟨A, hAe⟩ : ∃ A : Nat → Prop, A = (fun q => q ∈ L0 ∨ s.heap.size ≤ q) := ⟨_, rfl⟩
  rw [← hAe]
  have hAL : ∀ q, q ∈ L0 → A q := fun q h => by rw [hAe]; exact Or.inl h
  have hA : ∀ q, s.heap.size ≤ q → A q := fun q h => by rw [hAe]; exact Or.inr h
  have hD : ∀ F, va_D A (va_pl L0 F) := fun F => (hD0 F).weaken (fun k q hk _ => hAL _ (pl_mem hk))
  obtain ⟨H, hHe⟩ : ∃ H : Heap, H = s.heap := ⟨_, rfl⟩
  have hS : va_S A s.heap H [] := by rw [hHe]; exact va_S.rf
  rw [← hHe] at hP
  have hl := lv_entry ([.ref p0, .int p1, .int p2]) (n := 5) (Nat.le_of_ble_eq_true rfl)
  rw [lg_entry_eq]
  generalize (lg_sl ([.ref p0, .int p1, .int p2]) ++ List.replicate (5 - (lg_sl ([.ref p0, .int p1, .int p2])).length) Slot.unset).toArray = ls at hl ⊢
  have hl : lv_has ls 5 [(0, .ref p0), (1, .int p1), (2, .int p2)] := hl
  rw [← hHe]
  refine namedW (fun R Qz hR hQz => ?_)
  have hAe2 : ∀ q, A q → q ∈ L0 ∨ H.size ≤ q := fun q h => by rw [hHe]; rw [hAe] at h; exact h
  have hQ0 := hQ
  have hK0p0 := hKp0
  have hL0p0 := hLp0
  obtain ⟨L, K, G, Q, hX, hQ, hI, hP, hD, hAL, hx0, hm0, hLp0, hKp0, rx0⟩ : ∃ L K G Q, extW L0 K0 G0 Q0 L K G Q ∧ Sv L K G Q ∧ Iv L K x0 m0 tx tm I ∧ va_P (dC, dI) vwCl (Wd cs L K I J Q) H ∧ (∀ F, va_D A (va_pl L F)) ∧ (∀ q, q ∈ L → A q) ∧ x0 ∈ L ∧ m0 ∈ L ∧ p0 ∈ L ∧ K p0 = 6 ∧ (∀ σ : Sx, cxA Q0 I J p0 σ → cxA Q I J p0 σ) := ⟨L0, K0, G0, Q0, extW_refl, hQ, hI, hP, hD, hAL, hx0, hm0, hLp0, hKp0, fun _ h => h⟩
  refine lv_aload_n hx hb dX6_flip_0 rfl (lv_at hl 0 rfl) ?_
  refine lv_iload_n hx hb dX6_flip_1 rfl (lv_at hl 1 rfl) ?_
  refine ro_i (va_runV (As := [.int p1]) (rest := []) ⟨hx, hb, hml, hown, hts⟩ (s_X6_isBody l dC dI cs L K G Q hQ x0 m0 tx tm H.size I J hI p0 hLp0 hKp0 p1) (cwV 1 hts (gV pq636 pq638 pq2 pq74 pq639) rfl rfl rfl (by decide +kernel) ⟨(by rw [hR]; exact (Nat.le_of_ble_eq_true rfl)), (by rw [hR]; exact (Nat.le_of_ble_eq_true rfl))⟩) (sP_V hP hD hK hN hLp0 hKp0 rfl rfl) rfl rfl hl.1 rfl (lv_room (Nat.le_of_ble_eq_true rfl)) dX6_flip_2 ⟨(by rw [hR]; exact (Nat.le_of_ble_eq_true rfl)), (by rw [hR]; exact (Nat.le_of_ble_eq_true rfl))⟩) hS hP (fun z2 H locs hz2 hP hS => ?_)
  obtain ⟨bz2, imz2, xpz2⟩ := hz2
  refine lv_if_eq (tgt := 16) hx hb dX6_flip_5 (by decide) (fun c5 => ?_) (fun c5 => ?_)
  · have t5 := tq_eq (k := z2.toInt) (q := (0)) c5 rfl (by decide +kernel)
    refine lv_iconst (v := (-1)) hx hb dX6_flip_16 (by decide +kernel) ?_
    subst hR; subst hQz
    refine W.widen (k := 29) (n := 807) (Nat.le_of_ble_eq_true rfl) (Nat.le_of_ble_eq_true rfl) ?_
    exact W.iret (v := (-1)) hx hb hr (fun t ht hW => ⟨⟨(-1), (), rfl, (fun σ h => by have A0 := rx0 σ h; have ec := A0.1.1.2.2.1; rw [fl_n (fun q => by rw [← ec] at q; first | exact xpz2.2 t5 q.1 | exact xpz10 t13 q.2)]; show (-1 : Int32).toInt = -1; decide +kernel), ⟨L, K, G, Q, I, J, hX, hQ, hI, fun F => (hD F).weaken (fun _ _ _ _ => trivial), fun q h => hAe2 q (hAL q h), by rw [ht]; exact hP, ⟨(fun σ h => by have A0 := rx0 σ h; have ec := A0.1.1.2.2.1; first | (rw [fl_n (fun q => by rw [← ec] at q; first | exact xpz2.2 t5 q.1 | exact xpz10 t13 q.2)]; exact A0) | (rw [fl_e ⟨by rw [← ec]; exact xpz2.1 t5, ⟨by omega, by omega⟩⟩ (by have vb := fun k (hk : k < 8) => A0.1.1.2.2.2.2.2 p1.toInt.toNat (by rw [← ec]; have q := xpz2.1 t5; omega) k hk; rw [eb] at vb; exact (vb 3 (by decide)).symm.trans (by rw [← ez29]; exact Int32.toInt_inj.mp t37))]; exact A0)), dn_I, dj_J⟩⟩⟩, hS.F ht⟩) hS.2.2 dX6_flip_17
  · have t5 := tq_ne (k := z2.toInt) (q := (0)) c5 rfl (by decide +kernel)
    have i5 := imz2 t5
    refine lv_iload_n hx hb dX6_flip_8 rfl (lv_at hl 2 rfl) ?_
    refine lv_iconst (v := 3) hx hb dX6_flip_9 (by decide +kernel) ?_
    refine ro_i (va_runS (As := [.int p2, .int 3]) (rest := []) ⟨hx, hb, hml, hown, hts⟩ (s_X6_isFrom0To l dC dI cs L K G Q hQ x0 m0 tx tm H.size I J hI p2 3) (va_cwS 2 hts (gS pq651 pq652 pq74 pq653) rfl rfl rfl (by decide +kernel) ⟨(by rw [hR]; exact (Nat.le_of_ble_eq_true rfl)), (by rw [hR]; exact (Nat.le_of_ble_eq_true rfl))⟩) (sP_S hP hD hK hN) rfl rfl hl.1 rfl (lv_room (Nat.le_of_ble_eq_true rfl)) dX6_flip_10 ⟨(by rw [hR]; exact (Nat.le_of_ble_eq_true rfl)), (by rw [hR]; exact (Nat.le_of_ble_eq_true rfl))⟩) hS hP (fun z10 H locs hz10 hP hS => ?_)
    have cst10_3 : (3 : Int32).toInt = 3 := by decide +kernel
    obtain ⟨bz10, imz10, xpz10⟩ := hz10
    try rw [cst10_3] at xpz10
    refine lv_if_ne (tgt := 18) hx hb dX6_flip_13 (by decide) (fun c13 => ?_) (fun c13 => ?_)
    · have t13 := tq_ne (k := z10.toInt) (q := (0)) c13 rfl (by decide +kernel)
      have i13 := imz10 t13
      refine lv_aload_n hx hb dX6_flip_18 rfl (lv_at hl 0 rfl) ?_
      obtain ⟨y19, ey19, hLy19, hKy19, hGy19⟩ := oQ_6_2 (Sv_at hQ hLp0 hKp0)
      refine p_get (v := .ref y19) hx hb hts inX6 hown hK hP hLp0 hKp0 rfl rfl 2 (by decide) (hts _ pq351) (congrArg (fun q => some (va_rf q)) ey19) dX6_flip_19 ?_
      obtain ⟨y22, ey22, hLy22, hKy22, hGy22⟩ := oQ_1_1 (Sv_at hQ hLy19 hKy19)
      refine p_get (v := .ref y22) hx hb hts inX1 hown hK hP hLy19 hKy19 rfl rfl 1 (by decide) (hts _ pq219) (congrArg (fun q => some (va_rf q)) ey22) dX6_flip_22 ?_
      refine lv_iload_n hx hb dX6_flip_25 rfl (lv_at hl 1 rfl) ?_
      obtain ⟨y26, ey26, hLy26, hKy26, hGy26⟩ := (Sv_at hQ hLy22 hKy22).1 p1.toNatClampNeg (clamp_lt (n := 10) (in_of (by omega) (by omega)))
      refine p_aaldR hx hb hK hP 4 hLy22 hKy22 rfl rfl (in_of (by omega) (by omega)) ey26 dX6_flip_26 ?_
      have eb : fb Q (an Q p0) p1.toInt.toNat = y26 := by rw [show an Q p0 = y19 from gd_of ey19]; exact fb_of ey22 ey26
      refine lv_astore_n (lv' := [(3, .ref y26), (0, .ref p0), (1, .int p1), (2, .int p2)]) hx hb dX6_flip_27 rfl hl (by decide) rfl (fun ls hl => ?_)
      refine lv_aload_n hx hb dX6_flip_28 rfl (lv_at hl 0 rfl) ?_
      refine p_get hx hb hts inX0 hown hK hP hLy26 hKy26 rfl rfl 3 (by decide) (hts _ pq180) rfl dX6_flip_29 ?_
      refine lv_topi (fun z29 ez29 => ?_)
      have bz29 := oI_0_3 (Iv_at hI hLy26 hKy26)
      rw [← ez29] at bz29
      refine lv_istore (lv' := [(4, .int z29), (3, .ref y26), (0, .ref p0), (1, .int p1), (2, .int p2)]) hx hb dX6_flip_32 hl (by decide) rfl (fun ls hl => ?_)
      refine lv_iload hx hb dX6_flip_34 (lv_at hl 0 rfl) ?_
      refine lv_iload_n hx hb dX6_flip_36 rfl (lv_at hl 4 rfl) ?_
      refine lv_icmp_ne (tgt := 43) hx hb dX6_flip_37 (by decide) (fun c37 => ?_) (fun c37 => ?_)
      · have t37 := tq_ne (k := z29.toInt) (q := p2.toInt) c37 rfl rfl
        refine lv_aload_n hx hb dX6_flip_43 rfl (lv_at hl 2 rfl) ?_
        have rx1 := rx0
        have ec1 : ∀ σ : Sx, cxA Q0 I J p0 σ → I (an Q p0) 3 = σ.1.1 1 := fun σ h => (rx0 σ h).1.1.2.2.1
        refine sa_v (va_runV (As := []) (rest := []) ⟨hx, hb, hml, hown, hts⟩ (s_X6_remember l dC dI cs L K G Q hQ x0 m0 tx tm hx0 hm0 H.size I J hI p0 hLp0 hKp0) (cwV 0 hts (gV pq643 pq645 pq3 pq74 pq646) rfl rfl rfl (by decide +kernel) ⟨(by rw [hR]; exact (Nat.le_of_ble_eq_true rfl)), (by rw [hR]; exact (Nat.le_of_ble_eq_true rfl))⟩) (sP_V hP hD hK hN hLp0 hKp0 rfl rfl) rfl rfl hl.1 rfl (lv_room (Nat.le_of_ble_eq_true rfl)) dX6_flip_44 ⟨(by rw [hR]; exact (Nat.le_of_ble_eq_true rfl)), (by rw [hR]; exact (Nat.le_of_ble_eq_true rfl))⟩) hS hAL hA (fun L K G Q Iz44 Jz44 H locs hz44 hE hQn hIz44 hDn hALn hP zp44 hS => ?_)
        obtain ⟨zp44, rz44, dnc44, djc44⟩ := zp44
        have dn_Iz44 : (∀ b, b ∈ L0 → (K0 b = 7 ∨ K0 b = 18 ∨ K0 b = 19 ∨ K0 b = 20 ∨ K0 b = 24) → Iz44 b = I b) := fun b hb hc => (dnc44 b (hX b hb).1 (by have w := (hX b hb).2.1; omega)).trans (dn_I b hb hc)
        have dj_Jz44 : (∀ b, b ∈ L0 → ¬ (K0 b = 12) → Jz44 b = J b) := fun b hb hc => (djc44 b (hX b hb).1 (fun z => hc (by have w1 := (hX b hb).2.1; have w2 := (hX b hb).2.2.1; rw [w1] at z; first | exact z | exact z.1))).trans (dj_J b hb hc)
        have eb44 : fb Q (an Q p0) p1.toInt.toNat = y26 := by rw [(ext_x hQ hE hLp0 hKp0).1, ext_fb hQ hE (x_g hQ hLp0 hKp0).1.1 (x_g hQ hLp0 hKp0).1.2.1]; exact eb
        have hKp0 := (hE p0 hLp0).2.1.trans hKp0
        have hKy26 := (hE y26 hLy26).2.1.trans hKy26
        have hLp0 := (hE p0 hLp0).1
        have hLy26 := (hE y26 hLy26).1
        have hx0 := (hE x0 hx0).1
        have hm0 := (hE m0 hm0).1
        have hX := extW_trans hX hE
        have hQ := hQn
        have hD := hDn
        have hAL := hALn
        refine W.widen (k := 29) (n := 807) (Nat.le_of_ble_eq_true rfl) (Nat.le_of_ble_eq_true rfl) ?_
        refine lv_aload_n hx hb dX6_flip_47 rfl (lv_at hl 1 rfl) ?_
        refine lv_iload_n hx hb dX6_flip_48 rfl (lv_at hl 4 rfl) ?_
        refine p_put hx hb hts inX0 tyX0 tyX0_ok nmX0 hown hK hP hD hS hLy26 hKy26 rfl rfl 3 (by decide) (hts _ pq180) rfl (by decide +kernel) (Nat.le_of_ble_eq_true rfl) (oS_0_3 cs _ _ _ _) dX6_flip_49 (fun H locs hP hS => ?_)
        obtain ⟨Iz49, hP, hIz49, qIz49⟩ : ∃ Iz49, va_P (dC, dI) vwCl (Wd cs L K Iz49 Jz44 Q) H ∧ Iv L K x0 m0 tx tm Iz49 ∧ Iz49 = va_up Iz44 y26 (upd (Iz44 y26) 3 p2) := ⟨_, hP, Iv_put hIz44 hKy26 (oP_0_3 (Iv_at hIz44 hLy26 hKy26) ⟨by omega, by omega⟩) (by decide) (by decide), rfl⟩
        have dn_Iz49 : (∀ b, b ∈ L0 → (K0 b = 7 ∨ K0 b = 18 ∨ K0 b = 19 ∨ K0 b = 20 ∨ K0 b = 24) → Iz49 b = I b) := fun b hb hc => (congrFun qIz49 b).trans ((va_up_ne _ _ (fun z => by have q := hKy26; rw [← z, (hX b hb).2.1] at q; omega)).trans (dn_Iz44 b hb hc))
        refine lv_aload_n hx hb dX6_flip_52 rfl (lv_at hl 2 rfl) ?_
        obtain ⟨y53, ey53, hLy53, hKy53, hGy53⟩ := oQ_6_5 (Sv_at hQ hLp0 hKp0)
        refine p_get (v := .ref y53) hx hb hts inX6 hown hK hP hLp0 hKp0 rfl rfl 5 (by decide) (hts _ pq354) (congrArg (fun q => some (va_rf q)) ey53) dX6_flip_53 ?_
        refine sw_v (Z := (fun I1 J1 => Iv L K x0 m0 tx tm I1 ∧ (∀ b, ¬ ((K b = 3) ∧ G b / 100 = 2) → I1 b = Iz49 b) ∧ (∀ c : Fx, okF c → cxF Q Iz49 Jz44 (nf Q y53) c → cxS Q I1 J1 y53 c) ∧ (∀ b, ¬ (K b = 12 ∧ (G b / 100 = 2)) → J1 b = Jz44 b))) (va_runV (As := []) (rest := []) ⟨hx, hb, hml, hown, hts⟩ (s_X5_redraw l dC dI cs L K G Q hQ x0 m0 tx tm H.size Iz49 Jz44 hIz49 y53 hLy53 hKy53) (cwV 0 hts (gV pq604 pq605 pq606 pq79 pq607) rfl rfl rfl (by decide +kernel) ⟨(by rw [hR]; exact (Nat.le_of_ble_eq_true rfl)), (by rw [hR]; exact (Nat.le_of_ble_eq_true rfl))⟩) (sP_V hP hD hK hN hLy53 hKy53 rfl rfl) rfl rfl hl.1 rfl (lv_room (Nat.le_of_ble_eq_true rfl)) dX6_flip_56 ⟨(by rw [hR]; exact (Nat.le_of_ble_eq_true rfl)), (by rw [hR]; exact (Nat.le_of_ble_eq_true rfl))⟩) hS hAL hA (fun Iz56 Jz56 H locs hz56 hIz56 hP hS => ?_)
        obtain ⟨hIz56, frc56, jz56, djc56⟩ := hIz56
        have dj_Jz56 : (∀ b, b ∈ L0 → ¬ (K0 b = 12) → Jz56 b = J b) := fun b hb hc => (djc56 b (fun z => hc (by have w1 := (hX b hb).2.1; have w2 := (hX b hb).2.2.1; rw [w1] at z; exact z.1))).trans (dj_Jz44 b hb hc)
        have dn_Iz56 : (∀ b, b ∈ L0 → (K0 b = 7 ∨ K0 b = 18 ∨ K0 b = 19 ∨ K0 b = 20 ∨ K0 b = 24) → Iz56 b = I b) := fun b hb hc => (frc56 b (by have w := (hX b hb).2.1; omega)).trans (dn_Iz49 b hb hc)
        refine lv_iload hx hb dX6_flip_59 (lv_at hl 0 rfl) ?_
        subst hR; subst hQz
        exact W.iret (v := z29) hx hb hr (fun t ht hW => ⟨⟨z29, (), rfl, (fun σ h => by have A0 := rx1 σ h; have ec := ec1 σ h; rw [fl_y ⟨by rw [← ec]; exact xpz2.1 t5, ⟨by omega, by omega⟩⟩ (fun q => by have vb := fun k (hk : k < 8) => A0.1.1.2.2.2.2.2 p1.toInt.toNat (by rw [← ec]; have q := xpz2.1 t5; omega) k hk; rw [eb] at vb; exact t37 (by rw [ez29, (vb 3 (by decide)).trans q]))]; have vb := fun k (hk : k < 8) => A0.1.1.2.2.2.2.2 p1.toInt.toNat (by rw [← ec]; have q := xpz2.1 t5; omega) k hk; rw [eb] at vb; show z29.toInt = (σ.1.1 (19 + 8 * p1.toInt.toNat + 3)).toInt; rw [ez29, vb 3 (by decide)]), ⟨L, K, G, Q, Iz56, Jz56, hX, hQ, hIz56, fun F => (hD F).weaken (fun _ _ _ _ => trivial), fun q h => hAe2 q (hAL q h), by rw [ht]; exact hP, ⟨(fun σ h => by have A0 := rx1 σ h; have ec := ec1 σ h; rw [fl_y ⟨by rw [← ec]; exact xpz2.1 t5, ⟨by omega, by omega⟩⟩ (fun q => by have vb := fun k (hk : k < 8) => A0.1.1.2.2.2.2.2 p1.toInt.toNat (by rw [← ec]; have q := xpz2.1 t5; omega) k hk; rw [eb] at vb; exact t37 (by rw [ez29, (vb 3 (by decide)).trans q]))]; have B := cxH_body (σ := rem σ) (k := 3) (v := p2) (I1 := Iz49) hQ hLp0 hKp0 (i := p1.toInt.toNat) (by omega) (by decide) (by unfold vok; omega) (by rw [eb44]; exact qIz49) (rz44 σ A0).1; rw [rem_1] at B; exact cxA_redraw hQ hLp0 hKp0 (by rw [show se Q p0 = y53 from gd_of ey53]; exact jz56) frc56 djc56 B), dn_Iz56, dj_Jz56⟩⟩⟩, hS.F ht⟩) hS.2.2 dX6_flip_61
      · have t37 := tq_eq (k := z29.toInt) (q := p2.toInt) c37 rfl rfl
        refine lv_bipush (v := (-2)) hx hb dX6_flip_40 (by decide +kernel) ?_
        subst hR; subst hQz
        refine W.widen (k := 29) (n := 807) (Nat.le_of_ble_eq_true rfl) (Nat.le_of_ble_eq_true rfl) ?_
        exact W.iret (v := (-2)) hx hb hr (fun t ht hW => ⟨⟨(-2), (), rfl, (fun σ h => by have A0 := rx0 σ h; have ec := A0.1.1.2.2.1; rw [fl_e ⟨by rw [← ec]; exact xpz2.1 t5, ⟨by omega, by omega⟩⟩ (by have vb := fun k (hk : k < 8) => A0.1.1.2.2.2.2.2 p1.toInt.toNat (by rw [← ec]; have q := xpz2.1 t5; omega) k hk; rw [eb] at vb; exact (vb 3 (by decide)).symm.trans (by rw [← ez29]; exact Int32.toInt_inj.mp t37))]; show (-2 : Int32).toInt = -2; decide +kernel), ⟨L, K, G, Q, I, J, hX, hQ, hI, fun F => (hD F).weaken (fun _ _ _ _ => trivial), fun q h => hAe2 q (hAL q h), by rw [ht]; exact hP, ⟨(fun σ h => by have A0 := rx0 σ h; have ec := A0.1.1.2.2.1; first | (rw [fl_n (fun q => by rw [← ec] at q; first | exact xpz2.2 t5 q.1 | exact xpz10 t13 q.2)]; exact A0) | (rw [fl_e ⟨by rw [← ec]; exact xpz2.1 t5, ⟨by omega, by omega⟩⟩ (by have vb := fun k (hk : k < 8) => A0.1.1.2.2.2.2.2 p1.toInt.toNat (by rw [← ec]; have q := xpz2.1 t5; omega) k hk; rw [eb] at vb; exact (vb 3 (by decide)).symm.trans (by rw [← ez29]; exact Int32.toInt_inj.mp t37))]; exact A0)), dn_I, dj_J⟩⟩⟩, hS.F ht⟩) hS.2.2 dX6_flip_42
    · have t13 := tq_eq (k := z10.toInt) (q := (0)) c13 rfl (by decide +kernel)
      refine lv_iconst (v := (-1)) hx hb dX6_flip_16 (by decide +kernel) ?_
      subst hR; subst hQz
      refine W.widen (k := 29) (n := 807) (Nat.le_of_ble_eq_true rfl) (Nat.le_of_ble_eq_true rfl) ?_
      exact W.iret (v := (-1)) hx hb hr (fun t ht hW => ⟨⟨(-1), (), rfl, (fun σ h => by have A0 := rx0 σ h; have ec := A0.1.1.2.2.1; rw [fl_n (fun q => by rw [← ec] at q; first | exact xpz2.2 t5 q.1 | exact xpz10 t13 q.2)]; show (-1 : Int32).toInt = -1; decide +kernel), ⟨L, K, G, Q, I, J, hX, hQ, hI, fun F => (hD F).weaken (fun _ _ _ _ => trivial), fun q h => hAe2 q (hAL q h), by rw [ht]; exact hP, ⟨(fun σ h => by have A0 := rx0 σ h; have ec := A0.1.1.2.2.1; first | (rw [fl_n (fun q => by rw [← ec] at q; first | exact xpz2.2 t5 q.1 | exact xpz10 t13 q.2)]; exact A0) | (rw [fl_e ⟨by rw [← ec]; exact xpz2.1 t5, ⟨by omega, by omega⟩⟩ (by have vb := fun k (hk : k < 8) => A0.1.1.2.2.2.2.2 p1.toInt.toNat (by rw [← ec]; have q := xpz2.1 t5; omega) k hk; rw [eb] at vb; exact (vb 3 (by decide)).symm.trans (by rw [← ez29]; exact Int32.toInt_inj.mp t37))]; exact A0)), dn_I, dj_J⟩⟩⟩, hS.F ht⟩) hS.2.2 dX6_flip_17

set_option maxHeartbeats 4000000 in
set_option maxRecDepth 100000 in
theorem s_X6_layers (l : Launch) (dC : Nat → ClassId) (dI : Nat → Nat → Nat) (cs : Nat → ClassId) (L0 : List Nat) (K0 G0 : Nat → Nat) (Q0 : Nat → Nat → Option Nat) (hQ : Sv L0 K0 G0 Q0) (x0 m0 : Nat) (tx : GT) (tm : GT × Int) (hx0 : x0 ∈ L0) (hm0 : m0 ∈ L0) (sz : Nat) (I : Nat → Nat → Int32) (J : Nat → Nat → Int64) (hI : Iv L0 K0 x0 m0 tx tm I) (p0 : Nat) (hLp0 : p0 ∈ L0) (hKp0 : K0 p0 = 6) (p1 : Int32) (p2 : Int32) (p3 : Int32) : Met l yX6_layers (.code yX6_layers cX6_layers 5 (some .int) :: pw) ({ frames := 4, cells := 29, slots := 807, locals := 125 }) (sP (dC, dI) cs [.ref p0, .int p1, .int p2, .int p3] sz L0 K0 I J Q0) (va_Qi (fun (r : Int32) (_ : Unit) => (∀ σ : Sx, cxA Q0 I J p0 σ → r.toInt = (twA σ p1 4 p2 p3 (0) 15).1)) (fun _ t => sA (dC, dI) cs L0 K0 G0 Q0 x0 m0 tx tm sz (fun L K G Q I1 J1 => (∀ σ : Sx, cxA Q0 I J p0 σ → cxA Q I1 J1 p0 (twA σ p1 4 p2 p3 (0) 15).2) ∧ (∀ b, b ∈ L0 → (K0 b = 7 ∨ K0 b = 18 ∨ K0 b = 19 ∨ K0 b = 20 ∨ K0 b = 24) → I1 b = I b) ∧ (∀ b, b ∈ L0 → ¬ (K0 b = 12) → J1 b = J b)) t) (fun q => q ∈ L0 ∨ sz ≤ q)) 29 807 (fun q => q ∈ L0 ∨ sz ≤ q) := by
  refine Met.ofW (cc := cX6_layers) (maxL := 5) (ret := (some .int)) (by decide +kernel) rfl ?_
  intro p e s m args below meth c s₁ B hml hv
  obtain ⟨rfl, hsz, hP, hK, hD0, hN⟩ := hv
  have hx := B.exec
  have hb := B.bytes
  have hr := B.returns
  have hts := fun w (h : w ∈ pw) => atoms_spec (ws := Cond.code yX6_layers cX6_layers 5 (some .int) :: pw) B.pre w (List.mem_cons_of_mem _ h)
  have hown : s.vm.findClass RX6 = some m.cls := findClass_of_methodNamed B.named
  have hlocks := B.notSynchronized
  subst hsz
  have hBB : 999 ≤ tm.2 ∧ tm.2 ≤ 6000000 := hI.2.2.2.2.1
  have dn_I : (∀ b, b ∈ L0 → (K0 b = 7 ∨ K0 b = 18 ∨ K0 b = 19 ∨ K0 b = 20 ∨ K0 b = 24) → I b = I b) := fun _ _ _ => rfl
  have dj_J : (∀ b, b ∈ L0 → ¬ (K0 b = 12) → J b = J b) := fun _ _ _ => rfl
  obtain ⟨A, hAe⟩ : ∃ A : Nat → Prop, A = (fun q => q ∈ L0 ∨ s.heap.size ≤ q) := ⟨_, rfl⟩
  rw [← hAe]
  have hAL : ∀ q, q ∈ L0 → A q := fun q h => by rw [hAe]; exact Or.inl h
  have hA : ∀ q, s.heap.size ≤ q → A q := fun q h => by rw [hAe]; exact Or.inr h
  have hD : ∀ F, va_D A (va_pl L0 F) := fun F => (hD0 F).weaken (fun k q hk _ => hAL _ (pl_mem hk))
  obtain ⟨H, hHe⟩ : ∃ H : Heap, H = s.heap := ⟨_, rfl⟩
  have hS : va_S A s.heap H [] := by rw [hHe]; exact va_S.rf
  rw [← hHe] at hP
  have hl := lv_entry ([.ref p0, .int p1, .int p2, .int p3]) (n := 5) (Nat.le_of_ble_eq_true rfl)
  rw [lg_entry_eq]
  generalize (lg_sl ([.ref p0, .int p1, .int p2, .int p3]) ++ List.replicate (5 - (lg_sl ([.ref p0, .int p1, .int p2, .int p3])).length) Slot.unset).toArray = ls at hl ⊢
  have hl : lv_has ls 5 [(0, .ref p0), (1, .int p1), (2, .int p2), (3, .int p3)] := hl
  rw [← hHe]
  refine namedW (fun R Qz hR hQz => ?_)
  have hAe2 : ∀ q, A q → q ∈ L0 ∨ H.size ≤ q := fun q h => by rw [hHe]; rw [hAe] at h; exact h
  have hQ0 := hQ
  have hK0p0 := hKp0
  have hL0p0 := hLp0
  obtain ⟨L, K, G, Q, hX, hQ, hI, hP, hD, hAL, hx0, hm0, hLp0, hKp0, rx0⟩ : ∃ L K G Q, extW L0 K0 G0 Q0 L K G Q ∧ Sv L K G Q ∧ Iv L K x0 m0 tx tm I ∧ va_P (dC, dI) vwCl (Wd cs L K I J Q) H ∧ (∀ F, va_D A (va_pl L F)) ∧ (∀ q, q ∈ L → A q) ∧ x0 ∈ L ∧ m0 ∈ L ∧ p0 ∈ L ∧ K p0 = 6 ∧ (∀ σ : Sx, cxA Q0 I J p0 σ → cxA Q I J p0 σ) := ⟨L0, K0, G0, Q0, extW_refl, hQ, hI, hP, hD, hAL, hx0, hm0, hLp0, hKp0, fun _ h => h⟩
  refine lv_aload_n hx hb dX6_layers_0 rfl (lv_at hl 0 rfl) ?_
  refine lv_iload_n hx hb dX6_layers_1 rfl (lv_at hl 1 rfl) ?_
  refine ro_i (va_runV (As := [.int p1]) (rest := []) ⟨hx, hb, hml, hown, hts⟩ (s_X6_isBody l dC dI cs L K G Q hQ x0 m0 tx tm H.size I J hI p0 hLp0 hKp0 p1) (cwV 1 hts (gV pq636 pq638 pq2 pq74 pq639) rfl rfl rfl (by decide +kernel) ⟨(by rw [hR]; exact (Nat.le_of_ble_eq_true rfl)), (by rw [hR]; exact (Nat.le_of_ble_eq_true rfl))⟩) (sP_V hP hD hK hN hLp0 hKp0 rfl rfl) rfl rfl hl.1 rfl (lv_room (Nat.le_of_ble_eq_true rfl)) dX6_layers_2 ⟨(by rw [hR]; exact (Nat.le_of_ble_eq_true rfl)), (by rw [hR]; exact (Nat.le_of_ble_eq_true rfl))⟩) hS hP (fun z2 H locs hz2 hP hS => ?_)
  obtain ⟨bz2, imz2, xpz2⟩ := hz2
  refine lv_if_eq (tgt := 26) hx hb dX6_layers_5 (by decide) (fun c5 => ?_) (fun c5 => ?_)
  · have t5 := tq_eq (k := z2.toInt) (q := (0)) c5 rfl (by decide +kernel)
    refine lv_iconst (v := (-1)) hx hb dX6_layers_26 (by decide +kernel) ?_
    subst hR; subst hQz
    refine W.widen (k := 29) (n := 807) (Nat.le_of_ble_eq_true rfl) (Nat.le_of_ble_eq_true rfl) ?_
    exact W.iret (v := (-1)) hx hb hr (fun t ht hW => ⟨⟨(-1), (), rfl, (fun σ h => by have A0 := rx0 σ h; have ec := A0.1.1.2.2.1; rw [tw_n (fun q => by unfold twC at q; rw [← ec] at q; first | exact xpz2.2 t5 q.1 | exact xpz11 t14 q.2.1 | exact xpz20 t23 q.2.2)]; show (-1 : Int32).toInt = -1; decide +kernel), ⟨L, K, G, Q, I, J, hX, hQ, hI, fun F => (hD F).weaken (fun _ _ _ _ => trivial), fun q h => hAe2 q (hAL q h), by rw [ht]; exact hP, ⟨(fun σ h => by have A0 := rx0 σ h; have ec := A0.1.1.2.2.1; first | (rw [tw_n (fun q => by unfold twC at q; rw [← ec] at q; first | exact xpz2.2 t5 q.1 | exact xpz11 t14 q.2.1 | exact xpz20 t23 q.2.2)]; exact A0) | (rw [tw_e ⟨by rw [← ec]; exact xpz2.1 t5, ⟨by omega, by omega⟩, ⟨by omega, by omega⟩⟩ (by have vb := fun k (hk : k < 8) => A0.1.1.2.2.2.2.2 p1.toInt.toNat (by rw [← ec]; have q := xpz2.1 t5; omega) k hk; rw [eb] at vb; exact ⟨(vb 4 (by decide)).symm.trans (by rw [← ez41]; exact Int32.toInt_inj.mp t45), (vb 5 (by decide)).symm.trans (by rw [← ez50]; exact Int32.toInt_inj.mp t54)⟩)]; exact A0)), dn_I, dj_J⟩⟩⟩, hS.F ht⟩) hS.2.2 dX6_layers_27
  · have t5 := tq_ne (k := z2.toInt) (q := (0)) c5 rfl (by decide +kernel)
    have i5 := imz2 t5
    refine lv_iload_n hx hb dX6_layers_8 rfl (lv_at hl 2 rfl) ?_
    refine lv_bipush (v := 15) hx hb dX6_layers_9 (by decide +kernel) ?_
    refine ro_i (va_runS (As := [.int p2, .int 15]) (rest := []) ⟨hx, hb, hml, hown, hts⟩ (s_X6_isFrom0To l dC dI cs L K G Q hQ x0 m0 tx tm H.size I J hI p2 15) (va_cwS 2 hts (gS pq651 pq652 pq74 pq653) rfl rfl rfl (by decide +kernel) ⟨(by rw [hR]; exact (Nat.le_of_ble_eq_true rfl)), (by rw [hR]; exact (Nat.le_of_ble_eq_true rfl))⟩) (sP_S hP hD hK hN) rfl rfl hl.1 rfl (lv_room (Nat.le_of_ble_eq_true rfl)) dX6_layers_11 ⟨(by rw [hR]; exact (Nat.le_of_ble_eq_true rfl)), (by rw [hR]; exact (Nat.le_of_ble_eq_true rfl))⟩) hS hP (fun z11 H locs hz11 hP hS => ?_)
    have cst11_15 : (15 : Int32).toInt = 15 := by decide +kernel
    obtain ⟨bz11, imz11, xpz11⟩ := hz11
    try rw [cst11_15] at xpz11
    refine lv_if_eq (tgt := 26) hx hb dX6_layers_14 (by decide) (fun c14 => ?_) (fun c14 => ?_)
    · have t14 := tq_eq (k := z11.toInt) (q := (0)) c14 rfl (by decide +kernel)
      refine lv_iconst (v := (-1)) hx hb dX6_layers_26 (by decide +kernel) ?_
      subst hR; subst hQz
      refine W.widen (k := 29) (n := 807) (Nat.le_of_ble_eq_true rfl) (Nat.le_of_ble_eq_true rfl) ?_
      exact W.iret (v := (-1)) hx hb hr (fun t ht hW => ⟨⟨(-1), (), rfl, (fun σ h => by have A0 := rx0 σ h; have ec := A0.1.1.2.2.1; rw [tw_n (fun q => by unfold twC at q; rw [← ec] at q; first | exact xpz2.2 t5 q.1 | exact xpz11 t14 q.2.1 | exact xpz20 t23 q.2.2)]; show (-1 : Int32).toInt = -1; decide +kernel), ⟨L, K, G, Q, I, J, hX, hQ, hI, fun F => (hD F).weaken (fun _ _ _ _ => trivial), fun q h => hAe2 q (hAL q h), by rw [ht]; exact hP, ⟨(fun σ h => by have A0 := rx0 σ h; have ec := A0.1.1.2.2.1; first | (rw [tw_n (fun q => by unfold twC at q; rw [← ec] at q; first | exact xpz2.2 t5 q.1 | exact xpz11 t14 q.2.1 | exact xpz20 t23 q.2.2)]; exact A0) | (rw [tw_e ⟨by rw [← ec]; exact xpz2.1 t5, ⟨by omega, by omega⟩, ⟨by omega, by omega⟩⟩ (by have vb := fun k (hk : k < 8) => A0.1.1.2.2.2.2.2 p1.toInt.toNat (by rw [← ec]; have q := xpz2.1 t5; omega) k hk; rw [eb] at vb; exact ⟨(vb 4 (by decide)).symm.trans (by rw [← ez41]; exact Int32.toInt_inj.mp t45), (vb 5 (by decide)).symm.trans (by rw [← ez50]; exact Int32.toInt_inj.mp t54)⟩)]; exact A0)), dn_I, dj_J⟩⟩⟩, hS.F ht⟩) hS.2.2 dX6_layers_27
    · have t14 := tq_ne (k := z11.toInt) (q := (0)) c14 rfl (by decide +kernel)
      have i14 := imz11 t14
      refine lv_iload_n hx hb dX6_layers_17 rfl (lv_at hl 3 rfl) ?_
      refine lv_bipush (v := 15) hx hb dX6_layers_18 (by decide +kernel) ?_
      refine ro_i (va_runS (As := [.int p3, .int 15]) (rest := []) ⟨hx, hb, hml, hown, hts⟩ (s_X6_isFrom0To l dC dI cs L K G Q hQ x0 m0 tx tm H.size I J hI p3 15) (va_cwS 2 hts (gS pq651 pq652 pq74 pq653) rfl rfl rfl (by decide +kernel) ⟨(by rw [hR]; exact (Nat.le_of_ble_eq_true rfl)), (by rw [hR]; exact (Nat.le_of_ble_eq_true rfl))⟩) (sP_S hP hD hK hN) rfl rfl hl.1 rfl (lv_room (Nat.le_of_ble_eq_true rfl)) dX6_layers_20 ⟨(by rw [hR]; exact (Nat.le_of_ble_eq_true rfl)), (by rw [hR]; exact (Nat.le_of_ble_eq_true rfl))⟩) hS hP (fun z20 H locs hz20 hP hS => ?_)
      have cst20_15 : (15 : Int32).toInt = 15 := by decide +kernel
      obtain ⟨bz20, imz20, xpz20⟩ := hz20
      try rw [cst20_15] at xpz20
      refine lv_if_ne (tgt := 28) hx hb dX6_layers_23 (by decide) (fun c23 => ?_) (fun c23 => ?_)
      · have t23 := tq_ne (k := z20.toInt) (q := (0)) c23 rfl (by decide +kernel)
        have i23 := imz20 t23
        refine lv_aload_n hx hb dX6_layers_28 rfl (lv_at hl 0 rfl) ?_
        obtain ⟨y29, ey29, hLy29, hKy29, hGy29⟩ := oQ_6_2 (Sv_at hQ hLp0 hKp0)
        refine p_get (v := .ref y29) hx hb hts inX6 hown hK hP hLp0 hKp0 rfl rfl 2 (by decide) (hts _ pq351) (congrArg (fun q => some (va_rf q)) ey29) dX6_layers_29 ?_
        obtain ⟨y32, ey32, hLy32, hKy32, hGy32⟩ := oQ_1_1 (Sv_at hQ hLy29 hKy29)
        refine p_get (v := .ref y32) hx hb hts inX1 hown hK hP hLy29 hKy29 rfl rfl 1 (by decide) (hts _ pq219) (congrArg (fun q => some (va_rf q)) ey32) dX6_layers_32 ?_
        refine lv_iload_n hx hb dX6_layers_35 rfl (lv_at hl 1 rfl) ?_
        obtain ⟨y36, ey36, hLy36, hKy36, hGy36⟩ := (Sv_at hQ hLy32 hKy32).1 p1.toNatClampNeg (clamp_lt (n := 10) (in_of (by omega) (by omega)))
        refine p_aaldR hx hb hK hP 4 hLy32 hKy32 rfl rfl (in_of (by omega) (by omega)) ey36 dX6_layers_36 ?_
        refine lv_astore (lv' := [(4, .ref y36), (0, .ref p0), (1, .int p1), (2, .int p2), (3, .int p3)]) hx hb dX6_layers_37 hl (by decide) rfl (fun ls hl => ?_)
        have eb : fb Q (an Q p0) p1.toInt.toNat = y36 := by rw [show an Q p0 = y29 from gd_of ey29]; exact fb_of ey32 ey36
        refine lv_aload hx hb dX6_layers_39 (lv_at hl 0 rfl) ?_
        refine p_get hx hb hts inX0 hown hK hP hLy36 hKy36 rfl rfl 4 (by decide) (hts _ pq184) rfl dX6_layers_41 ?_
        refine lv_topi (fun z41 ez41 => ?_)
        have bz41 := oI_0_4 (Iv_at hI hLy36 hKy36)
        rw [← ez41] at bz41
        refine lv_iload_n hx hb dX6_layers_44 rfl (lv_at hl 3 rfl) ?_
        have j60 : ∀ (H : Heap) (lo : List Loc) (ls : Array Slot), (¬ (I y36 4 = p2 ∧ I y36 5 = p3)) → va_P (dC, dI) vwCl (Wd cs L K I J Q) H → va_S A s.heap H lo → lv_has ls 5 [(0, .ref p0), (1, .int p1), (2, .int p2), (3, .int p3), (4, .ref y36)] → W p l e R s m (([.ref p0, .int p1, .int p2, .int p3] : List Value).toArray) below meth c H lo 0 0 Qz (F0 m 60 ls []) := by
          intro H lo ls h60 hP hS hl
          refine lv_aload_n hx hb dX6_layers_60 rfl (lv_at hl 0 rfl) ?_
          have rx1 := rx0
          have ec1 : ∀ σ : Sx, cxA Q0 I J p0 σ → I (an Q p0) 3 = σ.1.1 1 := fun σ h => (rx0 σ h).1.1.2.2.1
          refine sa_v (va_runV (As := []) (rest := []) ⟨hx, hb, hml, hown, hts⟩ (s_X6_remember l dC dI cs L K G Q hQ x0 m0 tx tm hx0 hm0 H.size I J hI p0 hLp0 hKp0) (cwV 0 hts (gV pq643 pq645 pq3 pq74 pq646) rfl rfl rfl (by decide +kernel) ⟨(by rw [hR]; exact (Nat.le_of_ble_eq_true rfl)), (by rw [hR]; exact (Nat.le_of_ble_eq_true rfl))⟩) (sP_V hP hD hK hN hLp0 hKp0 rfl rfl) rfl rfl hl.1 rfl (lv_room (Nat.le_of_ble_eq_true rfl)) dX6_layers_61 ⟨(by rw [hR]; exact (Nat.le_of_ble_eq_true rfl)), (by rw [hR]; exact (Nat.le_of_ble_eq_true rfl))⟩) hS hAL hA (fun L K G Q Iz61 Jz61 H locs hz61 hE hQn hIz61 hDn hALn hP zp61 hS => ?_)
          obtain ⟨zp61, rz61, dnc61, djc61⟩ := zp61
          have dn_Iz61 : (∀ b, b ∈ L0 → (K0 b = 7 ∨ K0 b = 18 ∨ K0 b = 19 ∨ K0 b = 20 ∨ K0 b = 24) → Iz61 b = I b) := fun b hb hc => (dnc61 b (hX b hb).1 (by have w := (hX b hb).2.1; omega)).trans (dn_I b hb hc)
          have dj_Jz61 : (∀ b, b ∈ L0 → ¬ (K0 b = 12) → Jz61 b = J b) := fun b hb hc => (djc61 b (hX b hb).1 (fun z => hc (by have w1 := (hX b hb).2.1; have w2 := (hX b hb).2.2.1; rw [w1] at z; first | exact z | exact z.1))).trans (dj_J b hb hc)
          have eb61 : fb Q (an Q p0) p1.toInt.toNat = y36 := by rw [(ext_x hQ hE hLp0 hKp0).1, ext_fb hQ hE (x_g hQ hLp0 hKp0).1.1 (x_g hQ hLp0 hKp0).1.2.1]; exact eb
          have hKp0 := (hE p0 hLp0).2.1.trans hKp0
          have hKy36 := (hE y36 hLy36).2.1.trans hKy36
          have hLp0 := (hE p0 hLp0).1
          have hLy36 := (hE y36 hLy36).1
          have hx0 := (hE x0 hx0).1
          have hm0 := (hE m0 hm0).1
          have hX := extW_trans hX hE
          have hQ := hQn
          have hD := hDn
          have hAL := hALn
          refine W.widen (k := 29) (n := 807) (Nat.le_of_ble_eq_true rfl) (Nat.le_of_ble_eq_true rfl) ?_
          refine lv_aload hx hb dX6_layers_64 (lv_at hl 4 rfl) ?_
          refine lv_iload_n hx hb dX6_layers_66 rfl (lv_at hl 2 rfl) ?_
          refine p_put hx hb hts inX0 tyX0 tyX0_ok nmX0 hown hK hP hD hS hLy36 hKy36 rfl rfl 4 (by decide) (hts _ pq184) rfl (by decide +kernel) (Nat.le_of_ble_eq_true rfl) (oS_0_4 cs _ _ _ _) dX6_layers_67 (fun H locs hP hS => ?_)
          obtain ⟨Iz67, hP, hIz67, qIz67⟩ : ∃ Iz67, va_P (dC, dI) vwCl (Wd cs L K Iz67 Jz61 Q) H ∧ Iv L K x0 m0 tx tm Iz67 ∧ Iz67 = va_up Iz61 y36 (upd (Iz61 y36) 4 p2) := ⟨_, hP, Iv_put hIz61 hKy36 (oP_0_4 (Iv_at hIz61 hLy36 hKy36) ⟨by omega, by omega⟩) (by decide) (by decide), rfl⟩
          have dn_Iz67 : (∀ b, b ∈ L0 → (K0 b = 7 ∨ K0 b = 18 ∨ K0 b = 19 ∨ K0 b = 20 ∨ K0 b = 24) → Iz67 b = I b) := fun b hb hc => (congrFun qIz67 b).trans ((va_up_ne _ _ (fun z => by have q := hKy36; rw [← z, (hX b hb).2.1] at q; omega)).trans (dn_Iz61 b hb hc))
          refine lv_aload hx hb dX6_layers_70 (lv_at hl 4 rfl) ?_
          refine lv_iload_n hx hb dX6_layers_72 rfl (lv_at hl 3 rfl) ?_
          refine p_put hx hb hts inX0 tyX0 tyX0_ok nmX0 hown hK hP hD hS hLy36 hKy36 rfl rfl 5 (by decide) (hts _ pq188) rfl (by decide +kernel) (Nat.le_of_ble_eq_true rfl) (oS_0_5 cs _ _ _ _) dX6_layers_73 (fun H locs hP hS => ?_)
          obtain ⟨Iz73, hP, hIz73, qIz73⟩ : ∃ Iz73, va_P (dC, dI) vwCl (Wd cs L K Iz73 Jz61 Q) H ∧ Iv L K x0 m0 tx tm Iz73 ∧ Iz73 = va_up Iz67 y36 (upd (Iz67 y36) 5 p3) := ⟨_, hP, Iv_put hIz67 hKy36 (oP_0_5 (Iv_at hIz67 hLy36 hKy36) ⟨by omega, by omega⟩) (by decide) (by decide), rfl⟩
          have dn_Iz73 : (∀ b, b ∈ L0 → (K0 b = 7 ∨ K0 b = 18 ∨ K0 b = 19 ∨ K0 b = 20 ∨ K0 b = 24) → Iz73 b = I b) := fun b hb hc => (congrFun qIz73 b).trans ((va_up_ne _ _ (fun z => by have q := hKy36; rw [← z, (hX b hb).2.1] at q; omega)).trans (dn_Iz67 b hb hc))
          refine lv_iconst (v := 1) hx hb dX6_layers_76 (by decide +kernel) ?_
          subst hR; subst hQz
          exact W.iret (v := 1) hx hb hr (fun t ht hW => ⟨⟨1, (), rfl, (fun σ h => by have A0 := rx1 σ h; have ec := ec1 σ h; rw [tw_y ⟨by rw [← ec]; exact xpz2.1 t5, ⟨by omega, by omega⟩, ⟨by omega, by omega⟩⟩ (fun q => by have vb := fun k (hk : k < 8) => A0.1.1.2.2.2.2.2 p1.toInt.toNat (by rw [← ec]; have q := xpz2.1 t5; omega) k hk; rw [eb] at vb; exact h60 ⟨(vb 4 (by decide)).trans q.1, (vb 5 (by decide)).trans q.2⟩)]; show (1 : Int32).toInt = 1; decide +kernel), ⟨L, K, G, Q, Iz73, Jz61, hX, hQ, hIz73, fun F => (hD F).weaken (fun _ _ _ _ => trivial), fun q h => hAe2 q (hAL q h), by rw [ht]; exact hP, ⟨(fun σ h => by have A0 := rx1 σ h; have ec := ec1 σ h; rw [tw_y ⟨by rw [← ec]; exact xpz2.1 t5, ⟨by omega, by omega⟩, ⟨by omega, by omega⟩⟩ (fun q => by have vb := fun k (hk : k < 8) => A0.1.1.2.2.2.2.2 p1.toInt.toNat (by rw [← ec]; have q := xpz2.1 t5; omega) k hk; rw [eb] at vb; exact h60 ⟨(vb 4 (by decide)).trans q.1, (vb 5 (by decide)).trans q.2⟩)]; have hb := ec ▸ xpz2.1 t5; exact tw_fin (I1 := Iz67) (k := 4) hQ hLp0 hKp0 (rz61 σ A0) hb (by omega) (by unfold vok; omega) (by unfold vok; omega) (by rw [eb61]; exact qIz67) (by rw [eb61]; exact qIz73)), dn_Iz73, dj_Jz61⟩⟩⟩, hS.F ht⟩) hS.2.2 dX6_layers_77
        refine lv_icmp_ne (tgt := 60) hx hb dX6_layers_45 (by decide) (fun c45 => ?_) (fun c45 => ?_)
        · have t45 := tq_ne (k := z41.toInt) (q := p2.toInt) c45 rfl rfl
          exact j60  _ _ _ (fun q => by first | exact t45 (by rw [ez41, q.1]) | exact t54 (by rw [ez50, q.2])) hP hS (lv_sub hl [1, 2, 3, 4, 0] rfl)
        · have t45 := tq_eq (k := z41.toInt) (q := p2.toInt) c45 rfl rfl
          refine lv_aload hx hb dX6_layers_48 (lv_at hl 0 rfl) ?_
          refine p_get hx hb hts inX0 hown hK hP hLy36 hKy36 rfl rfl 5 (by decide) (hts _ pq188) rfl dX6_layers_50 ?_
          refine lv_topi (fun z50 ez50 => ?_)
          have bz50 := oI_0_5 (Iv_at hI hLy36 hKy36)
          rw [← ez50] at bz50
          refine lv_iload_n hx hb dX6_layers_53 rfl (lv_at hl 4 rfl) ?_
          refine lv_icmp_ne (tgt := 60) hx hb dX6_layers_54 (by decide) (fun c54 => ?_) (fun c54 => ?_)
          · have t54 := tq_ne (k := z50.toInt) (q := p3.toInt) c54 rfl rfl
            exact j60  _ _ _ (fun q => by first | exact t45 (by rw [ez41, q.1]) | exact t54 (by rw [ez50, q.2])) hP hS (lv_sub hl [1, 2, 3, 4, 0] rfl)
          · have t54 := tq_eq (k := z50.toInt) (q := p3.toInt) c54 rfl rfl
            refine lv_bipush (v := (-2)) hx hb dX6_layers_57 (by decide +kernel) ?_
            subst hR; subst hQz
            refine W.widen (k := 29) (n := 807) (Nat.le_of_ble_eq_true rfl) (Nat.le_of_ble_eq_true rfl) ?_
            exact W.iret (v := (-2)) hx hb hr (fun t ht hW => ⟨⟨(-2), (), rfl, (fun σ h => by have A0 := rx0 σ h; have ec := A0.1.1.2.2.1; rw [tw_e ⟨by rw [← ec]; exact xpz2.1 t5, ⟨by omega, by omega⟩, ⟨by omega, by omega⟩⟩ (by have vb := fun k (hk : k < 8) => A0.1.1.2.2.2.2.2 p1.toInt.toNat (by rw [← ec]; have q := xpz2.1 t5; omega) k hk; rw [eb] at vb; exact ⟨(vb 4 (by decide)).symm.trans (by rw [← ez41]; exact Int32.toInt_inj.mp t45), (vb 5 (by decide)).symm.trans (by rw [← ez50]; exact Int32.toInt_inj.mp t54)⟩)]; show (-2 : Int32).toInt = -2; decide +kernel), ⟨L, K, G, Q, I, J, hX, hQ, hI, fun F => (hD F).weaken (fun _ _ _ _ => trivial), fun q h => hAe2 q (hAL q h), by rw [ht]; exact hP, ⟨(fun σ h => by have A0 := rx0 σ h; have ec := A0.1.1.2.2.1; first | (rw [tw_n (fun q => by unfold twC at q; rw [← ec] at q; first | exact xpz2.2 t5 q.1 | exact xpz11 t14 q.2.1 | exact xpz20 t23 q.2.2)]; exact A0) | (rw [tw_e ⟨by rw [← ec]; exact xpz2.1 t5, ⟨by omega, by omega⟩, ⟨by omega, by omega⟩⟩ (by have vb := fun k (hk : k < 8) => A0.1.1.2.2.2.2.2 p1.toInt.toNat (by rw [← ec]; have q := xpz2.1 t5; omega) k hk; rw [eb] at vb; exact ⟨(vb 4 (by decide)).symm.trans (by rw [← ez41]; exact Int32.toInt_inj.mp t45), (vb 5 (by decide)).symm.trans (by rw [← ez50]; exact Int32.toInt_inj.mp t54)⟩)]; exact A0)), dn_I, dj_J⟩⟩⟩, hS.F ht⟩) hS.2.2 dX6_layers_59
      · have t23 := tq_eq (k := z20.toInt) (q := (0)) c23 rfl (by decide +kernel)
        refine lv_iconst (v := (-1)) hx hb dX6_layers_26 (by decide +kernel) ?_
        subst hR; subst hQz
        refine W.widen (k := 29) (n := 807) (Nat.le_of_ble_eq_true rfl) (Nat.le_of_ble_eq_true rfl) ?_
        exact W.iret (v := (-1)) hx hb hr (fun t ht hW => ⟨⟨(-1), (), rfl, (fun σ h => by have A0 := rx0 σ h; have ec := A0.1.1.2.2.1; rw [tw_n (fun q => by unfold twC at q; rw [← ec] at q; first | exact xpz2.2 t5 q.1 | exact xpz11 t14 q.2.1 | exact xpz20 t23 q.2.2)]; show (-1 : Int32).toInt = -1; decide +kernel), ⟨L, K, G, Q, I, J, hX, hQ, hI, fun F => (hD F).weaken (fun _ _ _ _ => trivial), fun q h => hAe2 q (hAL q h), by rw [ht]; exact hP, ⟨(fun σ h => by have A0 := rx0 σ h; have ec := A0.1.1.2.2.1; first | (rw [tw_n (fun q => by unfold twC at q; rw [← ec] at q; first | exact xpz2.2 t5 q.1 | exact xpz11 t14 q.2.1 | exact xpz20 t23 q.2.2)]; exact A0) | (rw [tw_e ⟨by rw [← ec]; exact xpz2.1 t5, ⟨by omega, by omega⟩, ⟨by omega, by omega⟩⟩ (by have vb := fun k (hk : k < 8) => A0.1.1.2.2.2.2.2 p1.toInt.toNat (by rw [← ec]; have q := xpz2.1 t5; omega) k hk; rw [eb] at vb; exact ⟨(vb 4 (by decide)).symm.trans (by rw [← ez41]; exact Int32.toInt_inj.mp t45), (vb 5 (by decide)).symm.trans (by rw [← ez50]; exact Int32.toInt_inj.mp t54)⟩)]; exact A0)), dn_I, dj_J⟩⟩⟩, hS.F ht⟩) hS.2.2 dX6_layers_27

set_option maxHeartbeats 4000000 in
set_option maxRecDepth 100000 in
theorem s_X6_speed (l : Launch) (dC : Nat → ClassId) (dI : Nat → Nat → Nat) (cs : Nat → ClassId) (L0 : List Nat) (K0 G0 : Nat → Nat) (Q0 : Nat → Nat → Option Nat) (hQ : Sv L0 K0 G0 Q0) (x0 m0 : Nat) (tx : GT) (tm : GT × Int) (hx0 : x0 ∈ L0) (hm0 : m0 ∈ L0) (sz : Nat) (I : Nat → Nat → Int32) (J : Nat → Nat → Int64) (hI : Iv L0 K0 x0 m0 tx tm I) (p0 : Nat) (hLp0 : p0 ∈ L0) (hKp0 : K0 p0 = 6) (p1 : Int32) (p2 : Int32) (p3 : Int32) : Met l yX6_speed (.code yX6_speed cX6_speed 5 (some .int) :: pw) ({ frames := 4, cells := 29, slots := 807, locals := 125 }) (sP (dC, dI) cs [.ref p0, .int p1, .int p2, .int p3] sz L0 K0 I J Q0) (va_Qi (fun (r : Int32) (_ : Unit) => (∀ σ : Sx, cxA Q0 I J p0 σ → r.toInt = (twA σ p1 6 p2 p3 (-20) 20).1)) (fun _ t => sA (dC, dI) cs L0 K0 G0 Q0 x0 m0 tx tm sz (fun L K G Q I1 J1 => (∀ σ : Sx, cxA Q0 I J p0 σ → cxA Q I1 J1 p0 (twA σ p1 6 p2 p3 (-20) 20).2) ∧ (∀ b, b ∈ L0 → (K0 b = 7 ∨ K0 b = 18 ∨ K0 b = 19 ∨ K0 b = 20 ∨ K0 b = 24) → I1 b = I b) ∧ (∀ b, b ∈ L0 → ¬ (K0 b = 12) → J1 b = J b)) t) (fun q => q ∈ L0 ∨ sz ≤ q)) 29 807 (fun q => q ∈ L0 ∨ sz ≤ q) := by
  refine Met.ofW (cc := cX6_speed) (maxL := 5) (ret := (some .int)) (by decide +kernel) rfl ?_
  intro p e s m args below meth c s₁ B hml hv
  obtain ⟨rfl, hsz, hP, hK, hD0, hN⟩ := hv
  have hx := B.exec
  have hb := B.bytes
  have hr := B.returns
  have hts := fun w (h : w ∈ pw) => atoms_spec (ws := Cond.code yX6_speed cX6_speed 5 (some .int) :: pw) B.pre w (List.mem_cons_of_mem _ h)
  have hown : s.vm.findClass RX6 = some m.cls := findClass_of_methodNamed B.named
  have hlocks := B.notSynchronized
  subst hsz
  have hBB : 999 ≤ tm.2 ∧ tm.2 ≤ 6000000 := hI.2.2.2.2.1
  have dn_I : (∀ b, b ∈ L0 → (K0 b = 7 ∨ K0 b = 18 ∨ K0 b = 19 ∨ K0 b = 20 ∨ K0 b = 24) → I b = I b) := fun _ _ _ => rfl
  have dj_J : (∀ b, b ∈ L0 → ¬ (K0 b = 12) → J b = J b) := fun _ _ _ => rfl
  obtain ⟨A, hAe⟩ : ∃ A : Nat → Prop, A = (fun q => q ∈ L0 ∨ s.heap.size ≤ q) := ⟨_, rfl⟩
  rw [← hAe]
  have hAL : ∀ q, q ∈ L0 → A q := fun q h => by rw [hAe]; exact Or.inl h
  have hA : ∀ q, s.heap.size ≤ q → A q := fun q h => by rw [hAe]; exact Or.inr h
  have hD : ∀ F, va_D A (va_pl L0 F) := fun F => (hD0 F).weaken (fun k q hk _ => hAL _ (pl_mem hk))
  obtain ⟨H, hHe⟩ : ∃ H : Heap, H = s.heap := ⟨_, rfl⟩
  have hS : va_S A s.heap H [] := by rw [hHe]; exact va_S.rf
  rw [← hHe] at hP
  have hl := lv_entry ([.ref p0, .int p1, .int p2, .int p3]) (n := 5) (Nat.le_of_ble_eq_true rfl)
  rw [lg_entry_eq]
  generalize (lg_sl ([.ref p0, .int p1, .int p2, .int p3]) ++ List.replicate (5 - (lg_sl ([.ref p0, .int p1, .int p2, .int p3])).length) Slot.unset).toArray = ls at hl ⊢
  have hl : lv_has ls 5 [(0, .ref p0), (1, .int p1), (2, .int p2), (3, .int p3)] := hl
  rw [← hHe]
  refine namedW (fun R Qz hR hQz => ?_)
  have hAe2 : ∀ q, A q → q ∈ L0 ∨ H.size ≤ q := fun q h => by rw [hHe]; rw [hAe] at h; exact h
  have hQ0 := hQ
  have hK0p0 := hKp0
  have hL0p0 := hLp0
  obtain ⟨L, K, G, Q, hX, hQ, hI, hP, hD, hAL, hx0, hm0, hLp0, hKp0, rx0⟩ : ∃ L K G Q, extW L0 K0 G0 Q0 L K G Q ∧ Sv L K G Q ∧ Iv L K x0 m0 tx tm I ∧ va_P (dC, dI) vwCl (Wd cs L K I J Q) H ∧ (∀ F, va_D A (va_pl L F)) ∧ (∀ q, q ∈ L → A q) ∧ x0 ∈ L ∧ m0 ∈ L ∧ p0 ∈ L ∧ K p0 = 6 ∧ (∀ σ : Sx, cxA Q0 I J p0 σ → cxA Q I J p0 σ) := ⟨L0, K0, G0, Q0, extW_refl, hQ, hI, hP, hD, hAL, hx0, hm0, hLp0, hKp0, fun _ h => h⟩
  refine lv_aload_n hx hb dX6_speed_0 rfl (lv_at hl 0 rfl) ?_
  refine lv_iload_n hx hb dX6_speed_1 rfl (lv_at hl 1 rfl) ?_
  refine ro_i (va_runV (As := [.int p1]) (rest := []) ⟨hx, hb, hml, hown, hts⟩ (s_X6_isBody l dC dI cs L K G Q hQ x0 m0 tx tm H.size I J hI p0 hLp0 hKp0 p1) (cwV 1 hts (gV pq636 pq638 pq2 pq74 pq639) rfl rfl rfl (by decide +kernel) ⟨(by rw [hR]; exact (Nat.le_of_ble_eq_true rfl)), (by rw [hR]; exact (Nat.le_of_ble_eq_true rfl))⟩) (sP_V hP hD hK hN hLp0 hKp0 rfl rfl) rfl rfl hl.1 rfl (lv_room (Nat.le_of_ble_eq_true rfl)) dX6_speed_2 ⟨(by rw [hR]; exact (Nat.le_of_ble_eq_true rfl)), (by rw [hR]; exact (Nat.le_of_ble_eq_true rfl))⟩) hS hP (fun z2 H locs hz2 hP hS => ?_)
  obtain ⟨bz2, imz2, xpz2⟩ := hz2
  refine lv_if_eq (tgt := 26) hx hb dX6_speed_5 (by decide) (fun c5 => ?_) (fun c5 => ?_)
  · have t5 := tq_eq (k := z2.toInt) (q := (0)) c5 rfl (by decide +kernel)
    refine lv_iconst (v := (-1)) hx hb dX6_speed_26 (by decide +kernel) ?_
    subst hR; subst hQz
    refine W.widen (k := 29) (n := 807) (Nat.le_of_ble_eq_true rfl) (Nat.le_of_ble_eq_true rfl) ?_
    exact W.iret (v := (-1)) hx hb hr (fun t ht hW => ⟨⟨(-1), (), rfl, (fun σ h => by have A0 := rx0 σ h; have ec := A0.1.1.2.2.1; rw [tw_n (fun q => by unfold twC at q; rw [← ec] at q; first | exact xpz2.2 t5 q.1 | exact xpz11 t14 q.2.1 | exact xpz20 t23 q.2.2)]; show (-1 : Int32).toInt = -1; decide +kernel), ⟨L, K, G, Q, I, J, hX, hQ, hI, fun F => (hD F).weaken (fun _ _ _ _ => trivial), fun q h => hAe2 q (hAL q h), by rw [ht]; exact hP, ⟨(fun σ h => by have A0 := rx0 σ h; have ec := A0.1.1.2.2.1; first | (rw [tw_n (fun q => by unfold twC at q; rw [← ec] at q; first | exact xpz2.2 t5 q.1 | exact xpz11 t14 q.2.1 | exact xpz20 t23 q.2.2)]; exact A0) | (rw [tw_e ⟨by rw [← ec]; exact xpz2.1 t5, ⟨by omega, by omega⟩, ⟨by omega, by omega⟩⟩ (by have vb := fun k (hk : k < 8) => A0.1.1.2.2.2.2.2 p1.toInt.toNat (by rw [← ec]; have q := xpz2.1 t5; omega) k hk; rw [eb] at vb; exact ⟨(vb 6 (by decide)).symm.trans (by rw [← ez41]; exact Int32.toInt_inj.mp t45), (vb 7 (by decide)).symm.trans (by rw [← ez50]; exact Int32.toInt_inj.mp t54)⟩)]; exact A0)), dn_I, dj_J⟩⟩⟩, hS.F ht⟩) hS.2.2 dX6_speed_27
  · have t5 := tq_ne (k := z2.toInt) (q := (0)) c5 rfl (by decide +kernel)
    have i5 := imz2 t5
    refine lv_iload_n hx hb dX6_speed_8 rfl (lv_at hl 2 rfl) ?_
    refine lv_bipush (v := 20) hx hb dX6_speed_9 (by decide +kernel) ?_
    refine ro_i (va_runS (As := [.int p2, .int 20]) (rest := []) ⟨hx, hb, hml, hown, hts⟩ (s_X6_isWithin l dC dI cs L K G Q hQ x0 m0 tx tm H.size I J hI p2 20 ⟨by decide +kernel, by decide +kernel⟩) (va_cwS 2 hts (gS pq640 pq641 pq74 pq642) rfl rfl rfl (by decide +kernel) ⟨(by rw [hR]; exact (Nat.le_of_ble_eq_true rfl)), (by rw [hR]; exact (Nat.le_of_ble_eq_true rfl))⟩) (sP_S hP hD hK hN) rfl rfl hl.1 rfl (lv_room (Nat.le_of_ble_eq_true rfl)) dX6_speed_11 ⟨(by rw [hR]; exact (Nat.le_of_ble_eq_true rfl)), (by rw [hR]; exact (Nat.le_of_ble_eq_true rfl))⟩) hS hP (fun z11 H locs hz11 hP hS => ?_)
    have cst11_20 : (20 : Int32).toInt = 20 := by decide +kernel
    obtain ⟨bz11, imz11, xpz11⟩ := hz11
    try rw [cst11_20] at xpz11
    refine lv_if_eq (tgt := 26) hx hb dX6_speed_14 (by decide) (fun c14 => ?_) (fun c14 => ?_)
    · have t14 := tq_eq (k := z11.toInt) (q := (0)) c14 rfl (by decide +kernel)
      refine lv_iconst (v := (-1)) hx hb dX6_speed_26 (by decide +kernel) ?_
      subst hR; subst hQz
      refine W.widen (k := 29) (n := 807) (Nat.le_of_ble_eq_true rfl) (Nat.le_of_ble_eq_true rfl) ?_
      exact W.iret (v := (-1)) hx hb hr (fun t ht hW => ⟨⟨(-1), (), rfl, (fun σ h => by have A0 := rx0 σ h; have ec := A0.1.1.2.2.1; rw [tw_n (fun q => by unfold twC at q; rw [← ec] at q; first | exact xpz2.2 t5 q.1 | exact xpz11 t14 q.2.1 | exact xpz20 t23 q.2.2)]; show (-1 : Int32).toInt = -1; decide +kernel), ⟨L, K, G, Q, I, J, hX, hQ, hI, fun F => (hD F).weaken (fun _ _ _ _ => trivial), fun q h => hAe2 q (hAL q h), by rw [ht]; exact hP, ⟨(fun σ h => by have A0 := rx0 σ h; have ec := A0.1.1.2.2.1; first | (rw [tw_n (fun q => by unfold twC at q; rw [← ec] at q; first | exact xpz2.2 t5 q.1 | exact xpz11 t14 q.2.1 | exact xpz20 t23 q.2.2)]; exact A0) | (rw [tw_e ⟨by rw [← ec]; exact xpz2.1 t5, ⟨by omega, by omega⟩, ⟨by omega, by omega⟩⟩ (by have vb := fun k (hk : k < 8) => A0.1.1.2.2.2.2.2 p1.toInt.toNat (by rw [← ec]; have q := xpz2.1 t5; omega) k hk; rw [eb] at vb; exact ⟨(vb 6 (by decide)).symm.trans (by rw [← ez41]; exact Int32.toInt_inj.mp t45), (vb 7 (by decide)).symm.trans (by rw [← ez50]; exact Int32.toInt_inj.mp t54)⟩)]; exact A0)), dn_I, dj_J⟩⟩⟩, hS.F ht⟩) hS.2.2 dX6_speed_27
    · have t14 := tq_ne (k := z11.toInt) (q := (0)) c14 rfl (by decide +kernel)
      have i14 := imz11 t14
      refine lv_iload_n hx hb dX6_speed_17 rfl (lv_at hl 3 rfl) ?_
      refine lv_bipush (v := 20) hx hb dX6_speed_18 (by decide +kernel) ?_
      refine ro_i (va_runS (As := [.int p3, .int 20]) (rest := []) ⟨hx, hb, hml, hown, hts⟩ (s_X6_isWithin l dC dI cs L K G Q hQ x0 m0 tx tm H.size I J hI p3 20 ⟨by decide +kernel, by decide +kernel⟩) (va_cwS 2 hts (gS pq640 pq641 pq74 pq642) rfl rfl rfl (by decide +kernel) ⟨(by rw [hR]; exact (Nat.le_of_ble_eq_true rfl)), (by rw [hR]; exact (Nat.le_of_ble_eq_true rfl))⟩) (sP_S hP hD hK hN) rfl rfl hl.1 rfl (lv_room (Nat.le_of_ble_eq_true rfl)) dX6_speed_20 ⟨(by rw [hR]; exact (Nat.le_of_ble_eq_true rfl)), (by rw [hR]; exact (Nat.le_of_ble_eq_true rfl))⟩) hS hP (fun z20 H locs hz20 hP hS => ?_)
      have cst20_20 : (20 : Int32).toInt = 20 := by decide +kernel
      obtain ⟨bz20, imz20, xpz20⟩ := hz20
      try rw [cst20_20] at xpz20
      refine lv_if_ne (tgt := 28) hx hb dX6_speed_23 (by decide) (fun c23 => ?_) (fun c23 => ?_)
      · have t23 := tq_ne (k := z20.toInt) (q := (0)) c23 rfl (by decide +kernel)
        have i23 := imz20 t23
        refine lv_aload_n hx hb dX6_speed_28 rfl (lv_at hl 0 rfl) ?_
        obtain ⟨y29, ey29, hLy29, hKy29, hGy29⟩ := oQ_6_2 (Sv_at hQ hLp0 hKp0)
        refine p_get (v := .ref y29) hx hb hts inX6 hown hK hP hLp0 hKp0 rfl rfl 2 (by decide) (hts _ pq351) (congrArg (fun q => some (va_rf q)) ey29) dX6_speed_29 ?_
        obtain ⟨y32, ey32, hLy32, hKy32, hGy32⟩ := oQ_1_1 (Sv_at hQ hLy29 hKy29)
        refine p_get (v := .ref y32) hx hb hts inX1 hown hK hP hLy29 hKy29 rfl rfl 1 (by decide) (hts _ pq219) (congrArg (fun q => some (va_rf q)) ey32) dX6_speed_32 ?_
        refine lv_iload_n hx hb dX6_speed_35 rfl (lv_at hl 1 rfl) ?_
        obtain ⟨y36, ey36, hLy36, hKy36, hGy36⟩ := (Sv_at hQ hLy32 hKy32).1 p1.toNatClampNeg (clamp_lt (n := 10) (in_of (by omega) (by omega)))
        refine p_aaldR hx hb hK hP 4 hLy32 hKy32 rfl rfl (in_of (by omega) (by omega)) ey36 dX6_speed_36 ?_
        refine lv_astore (lv' := [(4, .ref y36), (0, .ref p0), (1, .int p1), (2, .int p2), (3, .int p3)]) hx hb dX6_speed_37 hl (by decide) rfl (fun ls hl => ?_)
        have eb : fb Q (an Q p0) p1.toInt.toNat = y36 := by rw [show an Q p0 = y29 from gd_of ey29]; exact fb_of ey32 ey36
        refine lv_aload hx hb dX6_speed_39 (lv_at hl 0 rfl) ?_
        refine p_get hx hb hts inX0 hown hK hP hLy36 hKy36 rfl rfl 6 (by decide) (hts _ pq191) rfl dX6_speed_41 ?_
        refine lv_topi (fun z41 ez41 => ?_)
        have bz41 := oI_0_6 (Iv_at hI hLy36 hKy36)
        rw [← ez41] at bz41
        refine lv_iload_n hx hb dX6_speed_44 rfl (lv_at hl 3 rfl) ?_
        have j60 : ∀ (H : Heap) (lo : List Loc) (ls : Array Slot), (¬ (I y36 6 = p2 ∧ I y36 7 = p3)) → va_P (dC, dI) vwCl (Wd cs L K I J Q) H → va_S A s.heap H lo → lv_has ls 5 [(0, .ref p0), (1, .int p1), (2, .int p2), (3, .int p3), (4, .ref y36)] → W p l e R s m (([.ref p0, .int p1, .int p2, .int p3] : List Value).toArray) below meth c H lo 0 0 Qz (F0 m 60 ls []) := by
          intro H lo ls h60 hP hS hl
          refine lv_aload_n hx hb dX6_speed_60 rfl (lv_at hl 0 rfl) ?_
          have rx1 := rx0
          have ec1 : ∀ σ : Sx, cxA Q0 I J p0 σ → I (an Q p0) 3 = σ.1.1 1 := fun σ h => (rx0 σ h).1.1.2.2.1
          refine sa_v (va_runV (As := []) (rest := []) ⟨hx, hb, hml, hown, hts⟩ (s_X6_remember l dC dI cs L K G Q hQ x0 m0 tx tm hx0 hm0 H.size I J hI p0 hLp0 hKp0) (cwV 0 hts (gV pq643 pq645 pq3 pq74 pq646) rfl rfl rfl (by decide +kernel) ⟨(by rw [hR]; exact (Nat.le_of_ble_eq_true rfl)), (by rw [hR]; exact (Nat.le_of_ble_eq_true rfl))⟩) (sP_V hP hD hK hN hLp0 hKp0 rfl rfl) rfl rfl hl.1 rfl (lv_room (Nat.le_of_ble_eq_true rfl)) dX6_speed_61 ⟨(by rw [hR]; exact (Nat.le_of_ble_eq_true rfl)), (by rw [hR]; exact (Nat.le_of_ble_eq_true rfl))⟩) hS hAL hA (fun L K G Q Iz61 Jz61 H locs hz61 hE hQn hIz61 hDn hALn hP zp61 hS => ?_)
          obtain ⟨zp61, rz61, dnc61, djc61⟩ := zp61
          have dn_Iz61 : (∀ b, b ∈ L0 → (K0 b = 7 ∨ K0 b = 18 ∨ K0 b = 19 ∨ K0 b = 20 ∨ K0 b = 24) → Iz61 b = I b) := fun b hb hc => (dnc61 b (hX b hb).1 (by have w := (hX b hb).2.1; omega)).trans (dn_I b hb hc)
          have dj_Jz61 : (∀ b, b ∈ L0 → ¬ (K0 b = 12) → Jz61 b = J b) := fun b hb hc => (djc61 b (hX b hb).1 (fun z => hc (by have w1 := (hX b hb).2.1; have w2 := (hX b hb).2.2.1; rw [w1] at z; first | exact z | exact z.1))).trans (dj_J b hb hc)
          have eb61 : fb Q (an Q p0) p1.toInt.toNat = y36 := by rw [(ext_x hQ hE hLp0 hKp0).1, ext_fb hQ hE (x_g hQ hLp0 hKp0).1.1 (x_g hQ hLp0 hKp0).1.2.1]; exact eb
          have hKp0 := (hE p0 hLp0).2.1.trans hKp0
          have hKy36 := (hE y36 hLy36).2.1.trans hKy36
          have hLp0 := (hE p0 hLp0).1
          have hLy36 := (hE y36 hLy36).1
          have hx0 := (hE x0 hx0).1
          have hm0 := (hE m0 hm0).1
          have hX := extW_trans hX hE
          have hQ := hQn
          have hD := hDn
          have hAL := hALn
          refine W.widen (k := 29) (n := 807) (Nat.le_of_ble_eq_true rfl) (Nat.le_of_ble_eq_true rfl) ?_
          refine lv_aload hx hb dX6_speed_64 (lv_at hl 4 rfl) ?_
          refine lv_iload_n hx hb dX6_speed_66 rfl (lv_at hl 2 rfl) ?_
          refine p_put hx hb hts inX0 tyX0 tyX0_ok nmX0 hown hK hP hD hS hLy36 hKy36 rfl rfl 6 (by decide) (hts _ pq191) rfl (by decide +kernel) (Nat.le_of_ble_eq_true rfl) (oS_0_6 cs _ _ _ _) dX6_speed_67 (fun H locs hP hS => ?_)
          obtain ⟨Iz67, hP, hIz67, qIz67⟩ : ∃ Iz67, va_P (dC, dI) vwCl (Wd cs L K Iz67 Jz61 Q) H ∧ Iv L K x0 m0 tx tm Iz67 ∧ Iz67 = va_up Iz61 y36 (upd (Iz61 y36) 6 p2) := ⟨_, hP, Iv_put hIz61 hKy36 (oP_0_6 (Iv_at hIz61 hLy36 hKy36) ⟨by omega, by omega⟩) (by decide) (by decide), rfl⟩
          have dn_Iz67 : (∀ b, b ∈ L0 → (K0 b = 7 ∨ K0 b = 18 ∨ K0 b = 19 ∨ K0 b = 20 ∨ K0 b = 24) → Iz67 b = I b) := fun b hb hc => (congrFun qIz67 b).trans ((va_up_ne _ _ (fun z => by have q := hKy36; rw [← z, (hX b hb).2.1] at q; omega)).trans (dn_Iz61 b hb hc))
          refine lv_aload hx hb dX6_speed_70 (lv_at hl 4 rfl) ?_
          refine lv_iload_n hx hb dX6_speed_72 rfl (lv_at hl 3 rfl) ?_
          refine p_put hx hb hts inX0 tyX0 tyX0_ok nmX0 hown hK hP hD hS hLy36 hKy36 rfl rfl 7 (by decide) (hts _ pq194) rfl (by decide +kernel) (Nat.le_of_ble_eq_true rfl) (oS_0_7 cs _ _ _ _) dX6_speed_73 (fun H locs hP hS => ?_)
          obtain ⟨Iz73, hP, hIz73, qIz73⟩ : ∃ Iz73, va_P (dC, dI) vwCl (Wd cs L K Iz73 Jz61 Q) H ∧ Iv L K x0 m0 tx tm Iz73 ∧ Iz73 = va_up Iz67 y36 (upd (Iz67 y36) 7 p3) := ⟨_, hP, Iv_put hIz67 hKy36 (oP_0_7 (Iv_at hIz67 hLy36 hKy36) ⟨by omega, by omega⟩) (by decide) (by decide), rfl⟩
          have dn_Iz73 : (∀ b, b ∈ L0 → (K0 b = 7 ∨ K0 b = 18 ∨ K0 b = 19 ∨ K0 b = 20 ∨ K0 b = 24) → Iz73 b = I b) := fun b hb hc => (congrFun qIz73 b).trans ((va_up_ne _ _ (fun z => by have q := hKy36; rw [← z, (hX b hb).2.1] at q; omega)).trans (dn_Iz67 b hb hc))
          refine lv_iconst (v := 1) hx hb dX6_speed_76 (by decide +kernel) ?_
          subst hR; subst hQz
          exact W.iret (v := 1) hx hb hr (fun t ht hW => ⟨⟨1, (), rfl, (fun σ h => by have A0 := rx1 σ h; have ec := ec1 σ h; rw [tw_y ⟨by rw [← ec]; exact xpz2.1 t5, ⟨by omega, by omega⟩, ⟨by omega, by omega⟩⟩ (fun q => by have vb := fun k (hk : k < 8) => A0.1.1.2.2.2.2.2 p1.toInt.toNat (by rw [← ec]; have q := xpz2.1 t5; omega) k hk; rw [eb] at vb; exact h60 ⟨(vb 6 (by decide)).trans q.1, (vb 7 (by decide)).trans q.2⟩)]; show (1 : Int32).toInt = 1; decide +kernel), ⟨L, K, G, Q, Iz73, Jz61, hX, hQ, hIz73, fun F => (hD F).weaken (fun _ _ _ _ => trivial), fun q h => hAe2 q (hAL q h), by rw [ht]; exact hP, ⟨(fun σ h => by have A0 := rx1 σ h; have ec := ec1 σ h; rw [tw_y ⟨by rw [← ec]; exact xpz2.1 t5, ⟨by omega, by omega⟩, ⟨by omega, by omega⟩⟩ (fun q => by have vb := fun k (hk : k < 8) => A0.1.1.2.2.2.2.2 p1.toInt.toNat (by rw [← ec]; have q := xpz2.1 t5; omega) k hk; rw [eb] at vb; exact h60 ⟨(vb 6 (by decide)).trans q.1, (vb 7 (by decide)).trans q.2⟩)]; have hb := ec ▸ xpz2.1 t5; exact tw_fin (I1 := Iz67) (k := 6) hQ hLp0 hKp0 (rz61 σ A0) hb (by omega) (by unfold vok; omega) (by unfold vok; omega) (by rw [eb61]; exact qIz67) (by rw [eb61]; exact qIz73)), dn_Iz73, dj_Jz61⟩⟩⟩, hS.F ht⟩) hS.2.2 dX6_speed_77
        refine lv_icmp_ne (tgt := 60) hx hb dX6_speed_45 (by decide) (fun c45 => ?_) (fun c45 => ?_)
        · have t45 := tq_ne (k := z41.toInt) (q := p2.toInt) c45 rfl rfl
          exact j60  _ _ _ (fun q => by first | exact t45 (by rw [ez41, q.1]) | exact t54 (by rw [ez50, q.2])) hP hS (lv_sub hl [1, 2, 3, 4, 0] rfl)
        · have t45 := tq_eq (k := z41.toInt) (q := p2.toInt) c45 rfl rfl
          refine lv_aload hx hb dX6_speed_48 (lv_at hl 0 rfl) ?_
          refine p_get hx hb hts inX0 hown hK hP hLy36 hKy36 rfl rfl 7 (by decide) (hts _ pq194) rfl dX6_speed_50 ?_
          refine lv_topi (fun z50 ez50 => ?_)
          have bz50 := oI_0_7 (Iv_at hI hLy36 hKy36)
          rw [← ez50] at bz50
          refine lv_iload_n hx hb dX6_speed_53 rfl (lv_at hl 4 rfl) ?_
          refine lv_icmp_ne (tgt := 60) hx hb dX6_speed_54 (by decide) (fun c54 => ?_) (fun c54 => ?_)
          · have t54 := tq_ne (k := z50.toInt) (q := p3.toInt) c54 rfl rfl
            exact j60  _ _ _ (fun q => by first | exact t45 (by rw [ez41, q.1]) | exact t54 (by rw [ez50, q.2])) hP hS (lv_sub hl [1, 2, 3, 4, 0] rfl)
          · have t54 := tq_eq (k := z50.toInt) (q := p3.toInt) c54 rfl rfl
            refine lv_bipush (v := (-2)) hx hb dX6_speed_57 (by decide +kernel) ?_
            subst hR; subst hQz
            refine W.widen (k := 29) (n := 807) (Nat.le_of_ble_eq_true rfl) (Nat.le_of_ble_eq_true rfl) ?_
            exact W.iret (v := (-2)) hx hb hr (fun t ht hW => ⟨⟨(-2), (), rfl, (fun σ h => by have A0 := rx0 σ h; have ec := A0.1.1.2.2.1; rw [tw_e ⟨by rw [← ec]; exact xpz2.1 t5, ⟨by omega, by omega⟩, ⟨by omega, by omega⟩⟩ (by have vb := fun k (hk : k < 8) => A0.1.1.2.2.2.2.2 p1.toInt.toNat (by rw [← ec]; have q := xpz2.1 t5; omega) k hk; rw [eb] at vb; exact ⟨(vb 6 (by decide)).symm.trans (by rw [← ez41]; exact Int32.toInt_inj.mp t45), (vb 7 (by decide)).symm.trans (by rw [← ez50]; exact Int32.toInt_inj.mp t54)⟩)]; show (-2 : Int32).toInt = -2; decide +kernel), ⟨L, K, G, Q, I, J, hX, hQ, hI, fun F => (hD F).weaken (fun _ _ _ _ => trivial), fun q h => hAe2 q (hAL q h), by rw [ht]; exact hP, ⟨(fun σ h => by have A0 := rx0 σ h; have ec := A0.1.1.2.2.1; first | (rw [tw_n (fun q => by unfold twC at q; rw [← ec] at q; first | exact xpz2.2 t5 q.1 | exact xpz11 t14 q.2.1 | exact xpz20 t23 q.2.2)]; exact A0) | (rw [tw_e ⟨by rw [← ec]; exact xpz2.1 t5, ⟨by omega, by omega⟩, ⟨by omega, by omega⟩⟩ (by have vb := fun k (hk : k < 8) => A0.1.1.2.2.2.2.2 p1.toInt.toNat (by rw [← ec]; have q := xpz2.1 t5; omega) k hk; rw [eb] at vb; exact ⟨(vb 6 (by decide)).symm.trans (by rw [← ez41]; exact Int32.toInt_inj.mp t45), (vb 7 (by decide)).symm.trans (by rw [← ez50]; exact Int32.toInt_inj.mp t54)⟩)]; exact A0)), dn_I, dj_J⟩⟩⟩, hS.F ht⟩) hS.2.2 dX6_speed_59
      · have t23 := tq_eq (k := z20.toInt) (q := (0)) c23 rfl (by decide +kernel)
        refine lv_iconst (v := (-1)) hx hb dX6_speed_26 (by decide +kernel) ?_
        subst hR; subst hQz
        refine W.widen (k := 29) (n := 807) (Nat.le_of_ble_eq_true rfl) (Nat.le_of_ble_eq_true rfl) ?_
        exact W.iret (v := (-1)) hx hb hr (fun t ht hW => ⟨⟨(-1), (), rfl, (fun σ h => by have A0 := rx0 σ h; have ec := A0.1.1.2.2.1; rw [tw_n (fun q => by unfold twC at q; rw [← ec] at q; first | exact xpz2.2 t5 q.1 | exact xpz11 t14 q.2.1 | exact xpz20 t23 q.2.2)]; show (-1 : Int32).toInt = -1; decide +kernel), ⟨L, K, G, Q, I, J, hX, hQ, hI, fun F => (hD F).weaken (fun _ _ _ _ => trivial), fun q h => hAe2 q (hAL q h), by rw [ht]; exact hP, ⟨(fun σ h => by have A0 := rx0 σ h; have ec := A0.1.1.2.2.1; first | (rw [tw_n (fun q => by unfold twC at q; rw [← ec] at q; first | exact xpz2.2 t5 q.1 | exact xpz11 t14 q.2.1 | exact xpz20 t23 q.2.2)]; exact A0) | (rw [tw_e ⟨by rw [← ec]; exact xpz2.1 t5, ⟨by omega, by omega⟩, ⟨by omega, by omega⟩⟩ (by have vb := fun k (hk : k < 8) => A0.1.1.2.2.2.2.2 p1.toInt.toNat (by rw [← ec]; have q := xpz2.1 t5; omega) k hk; rw [eb] at vb; exact ⟨(vb 6 (by decide)).symm.trans (by rw [← ez41]; exact Int32.toInt_inj.mp t45), (vb 7 (by decide)).symm.trans (by rw [← ez50]; exact Int32.toInt_inj.mp t54)⟩)]; exact A0)), dn_I, dj_J⟩⟩⟩, hS.F ht⟩) hS.2.2 dX6_speed_27

set_option maxHeartbeats 4000000 in
set_option maxRecDepth 100000 in
theorem s_X6_turn (l : Launch) (dC : Nat → ClassId) (dI : Nat → Nat → Nat) (cs : Nat → ClassId) (L0 : List Nat) (K0 G0 : Nat → Nat) (Q0 : Nat → Nat → Option Nat) (hQ : Sv L0 K0 G0 Q0) (x0 m0 : Nat) (tx : GT) (tm : GT × Int) (hx0 : x0 ∈ L0) (hm0 : m0 ∈ L0) (sz : Nat) (I : Nat → Nat → Int32) (J : Nat → Nat → Int64) (hI : Iv L0 K0 x0 m0 tx tm I) (p0 : Nat) (hLp0 : p0 ∈ L0) (hKp0 : K0 p0 = 6) (p1 : Int32) (p2 : Int32) (p3 : Int32) : Met l yX6_turn (.code yX6_turn cX6_turn 5 (some .int) :: pw) ({ frames := 5, cells := 29, slots := 807, locals := 131 }) (sP (dC, dI) cs [.ref p0, .int p1, .int p2, .int p3] sz L0 K0 I J Q0) (va_Qi (fun (r : Int32) (_ : Unit) => (∀ σ : Sx, cxA Q0 I J p0 σ → r.toInt = (tuA σ p1 p2 p3).1)) (fun _ t => sA (dC, dI) cs L0 K0 G0 Q0 x0 m0 tx tm sz (fun L K G Q I1 J1 => (∀ σ : Sx, cxA Q0 I J p0 σ → cxA Q I1 J1 p0 (tuA σ p1 p2 p3).2) ∧ (∀ b, b ∈ L0 → (K0 b = 7 ∨ K0 b = 18 ∨ K0 b = 19 ∨ K0 b = 20 ∨ K0 b = 24) → I1 b = I b) ∧ (∀ b, b ∈ L0 → ¬ (K0 b = 12) → J1 b = J b)) t) (fun q => q ∈ L0 ∨ sz ≤ q)) 29 807 (fun q => q ∈ L0 ∨ sz ≤ q) := by
  refine Met.ofW (cc := cX6_turn) (maxL := 5) (ret := (some .int)) (by decide +kernel) rfl ?_
  intro p e s m args below meth c s₁ B hml hv
  obtain ⟨rfl, hsz, hP, hK, hD0, hN⟩ := hv
  have hx := B.exec
  have hb := B.bytes
  have hr := B.returns
  have hts := fun w (h : w ∈ pw) => atoms_spec (ws := Cond.code yX6_turn cX6_turn 5 (some .int) :: pw) B.pre w (List.mem_cons_of_mem _ h)
  have hown : s.vm.findClass RX6 = some m.cls := findClass_of_methodNamed B.named
  have hlocks := B.notSynchronized
  subst hsz
  have hBB : 999 ≤ tm.2 ∧ tm.2 ≤ 6000000 := hI.2.2.2.2.1
  have dn_I : (∀ b, b ∈ L0 → (K0 b = 7 ∨ K0 b = 18 ∨ K0 b = 19 ∨ K0 b = 20 ∨ K0 b = 24) → I b = I b) := fun _ _ _ => rfl
  have dj_J : (∀ b, b ∈ L0 → ¬ (K0 b = 12) → J b = J b) := fun _ _ _ => rfl
  obtain ⟨A, hAe⟩ : ∃ A : Nat → Prop, A = (fun q => q ∈ L0 ∨ s.heap.size ≤ q) := ⟨_, rfl⟩
  rw [← hAe]
  have hAL : ∀ q, q ∈ L0 → A q := fun q h => by rw [hAe]; exact Or.inl h
  have hA : ∀ q, s.heap.size ≤ q → A q := fun q h => by rw [hAe]; exact Or.inr h
  have hD : ∀ F, va_D A (va_pl L0 F) := fun F => (hD0 F).weaken (fun k q hk _ => hAL _ (pl_mem hk))
  obtain ⟨H, hHe⟩ : ∃ H : Heap, H = s.heap := ⟨_, rfl⟩
  have hS : va_S A s.heap H [] := by rw [hHe]; exact va_S.rf
  rw [← hHe] at hP
  have hl := lv_entry ([.ref p0, .int p1, .int p2, .int p3]) (n := 5) (Nat.le_of_ble_eq_true rfl)
  rw [lg_entry_eq]
  generalize (lg_sl ([.ref p0, .int p1, .int p2, .int p3]) ++ List.replicate (5 - (lg_sl ([.ref p0, .int p1, .int p2, .int p3])).length) Slot.unset).toArray = ls at hl ⊢
  have hl : lv_has ls 5 [(0, .ref p0), (1, .int p1), (2, .int p2), (3, .int p3)] := hl
  rw [← hHe]
  refine namedW (fun R Qz hR hQz => ?_)
  have hAe2 : ∀ q, A q → q ∈ L0 ∨ H.size ≤ q := fun q h => by rw [hHe]; rw [hAe] at h; exact h
  have hQ0 := hQ
  have hK0p0 := hKp0
  have hL0p0 := hLp0
  obtain ⟨L, K, G, Q, hX, hQ, hI, hP, hD, hAL, hx0, hm0, hLp0, hKp0, rx0⟩ : ∃ L K G Q, extW L0 K0 G0 Q0 L K G Q ∧ Sv L K G Q ∧ Iv L K x0 m0 tx tm I ∧ va_P (dC, dI) vwCl (Wd cs L K I J Q) H ∧ (∀ F, va_D A (va_pl L F)) ∧ (∀ q, q ∈ L → A q) ∧ x0 ∈ L ∧ m0 ∈ L ∧ p0 ∈ L ∧ K p0 = 6 ∧ (∀ σ : Sx, cxA Q0 I J p0 σ → cxA Q I J p0 σ) := ⟨L0, K0, G0, Q0, extW_refl, hQ, hI, hP, hD, hAL, hx0, hm0, hLp0, hKp0, fun _ h => h⟩
  refine lv_aload_n hx hb dX6_turn_0 rfl (lv_at hl 0 rfl) ?_
  refine lv_iload_n hx hb dX6_turn_1 rfl (lv_at hl 1 rfl) ?_
  refine ro_i (va_runV (As := [.int p1]) (rest := []) ⟨hx, hb, hml, hown, hts⟩ (s_X6_isMask l dC dI cs L K G Q hQ x0 m0 tx tm H.size I J hI p0 hLp0 hKp0 p1) (cwV 1 hts (gV pq666 pq668 pq4 pq74 pq669) rfl rfl rfl (by decide +kernel) ⟨(by rw [hR]; exact (Nat.le_of_ble_eq_true rfl)), (by rw [hR]; exact (Nat.le_of_ble_eq_true rfl))⟩) (sP_V hP hD hK hN hLp0 hKp0 rfl rfl) rfl rfl hl.1 rfl (lv_room (Nat.le_of_ble_eq_true rfl)) dX6_turn_2 ⟨(by rw [hR]; exact (Nat.le_of_ble_eq_true rfl)), (by rw [hR]; exact (Nat.le_of_ble_eq_true rfl))⟩) hS hP (fun z2 H locs hz2 hP hS => ?_)
  obtain ⟨bz2, imz2, xpz2⟩ := hz2
  refine lv_if_eq (tgt := 25) hx hb dX6_turn_5 (by decide) (fun c5 => ?_) (fun c5 => ?_)
  · have t5 := tq_eq (k := z2.toInt) (q := (0)) c5 rfl (by decide +kernel)
    refine lv_iconst (v := (-1)) hx hb dX6_turn_25 (by decide +kernel) ?_
    subst hR; subst hQz
    refine W.widen (k := 29) (n := 807) (Nat.le_of_ble_eq_true rfl) (Nat.le_of_ble_eq_true rfl) ?_
    exact W.iret (v := (-1)) hx hb hr (fun t ht hW => ⟨⟨(-1), (), rfl, (fun σ h => by have A0 := rx0 σ h; have ec := A0.1.1.2.1; rw [tu_n (fun q => by first | exact xpz2.2 t5 (by rw [ec]; exact q.1) | (have c := (cxA_m A0 q.1).1; rw [ea] at c; have q2 := q.2; rw [← c.1, ← c.2.1] at q2; exact xpz19.2 t22 q2))]; show (-1 : Int32).toInt = -1; decide +kernel), ⟨L, K, G, Q, I, J, hX, hQ, hI, fun F => (hD F).weaken (fun _ _ _ _ => trivial), fun q h => hAe2 q (hAL q h), by rw [ht]; exact hP, ⟨(fun σ h => by have A0 := rx0 σ h; have ec := A0.1.1.2.1; rw [tu_n (fun q => by first | exact xpz2.2 t5 (by rw [ec]; exact q.1) | (have c := (cxA_m A0 q.1).1; rw [ea] at c; have q2 := q.2; rw [← c.1, ← c.2.1] at q2; exact xpz19.2 t22 q2))]; exact A0), dn_I, dj_J⟩⟩⟩, hS.F ht⟩) hS.2.2 dX6_turn_26
  · have t5 := tq_ne (k := z2.toInt) (q := (0)) c5 rfl (by decide +kernel)
    have i5 := imz2 t5
    refine lv_aload_n hx hb dX6_turn_8 rfl (lv_at hl 0 rfl) ?_
    obtain ⟨y9, ey9, hLy9, hKy9, hGy9⟩ := oQ_6_2 (Sv_at hQ hLp0 hKp0)
    refine p_get (v := .ref y9) hx hb hts inX6 hown hK hP hLp0 hKp0 rfl rfl 2 (by decide) (hts _ pq351) (congrArg (fun q => some (va_rf q)) ey9) dX6_turn_9 ?_
    obtain ⟨y12, ey12, hLy12, hKy12, hGy12⟩ := oQ_1_0 (Sv_at hQ hLy9 hKy9)
    refine p_get (v := .ref y12) hx hb hts inX1 hown hK hP hLy9 hKy9 rfl rfl 0 (by decide) (hts _ pq216) (congrArg (fun q => some (va_rf q)) ey12) dX6_turn_12 ?_
    refine lv_iload_n hx hb dX6_turn_15 rfl (lv_at hl 1 rfl) ?_
    obtain ⟨y16, ey16, hLy16, hKy16, hGy16⟩ := (Sv_at hQ hLy12 hKy12).1 p1.toNatClampNeg (clamp_lt (n := 8) (in_of (by omega) (by omega)))
    have hjy16 : p1.toNatClampNeg < 8 := clamp_lt (i := p1) (n := 8) (in_of (by omega) (by omega))
    refine p_aaldR hx hb hK hP 3 hLy12 hKy12 rfl rfl (in_of (by omega) (by omega)) ey16 dX6_turn_16 ?_
    have ea : fm Q (an Q p0) p1.toInt.toNat = y16 := by rw [show an Q p0 = y9 from gd_of ey9]; exact fm_of ey12 ey16
    refine lv_iload_n hx hb dX6_turn_17 rfl (lv_at hl 2 rfl) ?_
    refine lv_iload_n hx hb dX6_turn_18 rfl (lv_at hl 3 rfl) ?_
    refine ro_i (va_runV (As := [.int p2, .int p3]) (rest := []) ⟨hx, hb, hml, hown, hts⟩ (s_X3_isInside l dC dI cs L K G Q hQ x0 m0 tx tm H.size I J hI y16 hLy16 hKy16 p2 p3) (cwV 2 hts (gV pq670 pq518 pq519 pq76 pq520) rfl rfl rfl (by decide +kernel) ⟨(by rw [hR]; exact (Nat.le_of_ble_eq_true rfl)), (by rw [hR]; exact (Nat.le_of_ble_eq_true rfl))⟩) (sP_V hP hD hK hN hLy16 hKy16 rfl rfl) rfl rfl hl.1 rfl (lv_room (Nat.le_of_ble_eq_true rfl)) dX6_turn_19 ⟨(by rw [hR]; exact (Nat.le_of_ble_eq_true rfl)), (by rw [hR]; exact (Nat.le_of_ble_eq_true rfl))⟩) hS hP (fun z19 H locs hz19 hP hS => ?_)
    obtain ⟨bz19, imz19, xpz19⟩ := hz19
    refine lv_if_ne (tgt := 27) hx hb dX6_turn_22 (by decide) (fun c22 => ?_) (fun c22 => ?_)
    · have t22 := tq_ne (k := z19.toInt) (q := (0)) c22 rfl (by decide +kernel)
      have i22 := imz19 t22
      have rs : ∀ σ : Sx, cxA Q0 I J p0 σ → tuC σ p1 p2 p3 ∧ cxA Q I J p0 σ := fun σ h => by have A0 := rx0 σ h; have ec := A0.1.1.2.1; have hm : mK σ p1 := (by have q := xpz2.1 t5; rw [ec] at q; exact q); have c := (cxA_m A0 hm).1; rw [ea] at c; have q := xpz19.1 t22; rw [c.1, c.2.1] at q; exact ⟨⟨hm, q⟩, A0⟩
      refine lv_aload_n hx hb dX6_turn_27 rfl (lv_at hl 0 rfl) ?_
      refine sa_v (va_runV (As := []) (rest := []) ⟨hx, hb, hml, hown, hts⟩ (s_X6_remember l dC dI cs L K G Q hQ x0 m0 tx tm hx0 hm0 H.size I J hI p0 hLp0 hKp0) (cwV 0 hts (gV pq643 pq645 pq3 pq74 pq646) rfl rfl rfl (by decide +kernel) ⟨(by rw [hR]; exact (Nat.le_of_ble_eq_true rfl)), (by rw [hR]; exact (Nat.le_of_ble_eq_true rfl))⟩) (sP_V hP hD hK hN hLp0 hKp0 rfl rfl) rfl rfl hl.1 rfl (lv_room (Nat.le_of_ble_eq_true rfl)) dX6_turn_28 ⟨(by rw [hR]; exact (Nat.le_of_ble_eq_true rfl)), (by rw [hR]; exact (Nat.le_of_ble_eq_true rfl))⟩) hS hAL hA (fun L K G Q Iz28 Jz28 H locs hz28 hE hQn hIz28 hDn hALn hP zp28 hS => ?_)
      obtain ⟨zp28, rz28, dnc28, djc28⟩ := zp28
      have dn_Iz28 : (∀ b, b ∈ L0 → (K0 b = 7 ∨ K0 b = 18 ∨ K0 b = 19 ∨ K0 b = 20 ∨ K0 b = 24) → Iz28 b = I b) := fun b hb hc => (dnc28 b (hX b hb).1 (by have w := (hX b hb).2.1; omega)).trans (dn_I b hb hc)
      have dj_Jz28 : (∀ b, b ∈ L0 → ¬ (K0 b = 12) → Jz28 b = J b) := fun b hb hc => (djc28 b (hX b hb).1 (fun z => hc (by have w1 := (hX b hb).2.1; have w2 := (hX b hb).2.2.1; rw [w1] at z; first | exact z | exact z.1))).trans (dj_J b hb hc)
      have hKp0 := (hE p0 hLp0).2.1.trans hKp0
      have hLp0 := (hE p0 hLp0).1
      have hx0 := (hE x0 hx0).1
      have hm0 := (hE m0 hm0).1
      have hX := extW_trans hX hE
      have hQ := hQn
      have hD := hDn
      have hAL := hALn
      refine W.widen (k := 29) (n := 807) (Nat.le_of_ble_eq_true rfl) (Nat.le_of_ble_eq_true rfl) ?_
      refine lv_aload_n hx hb dX6_turn_31 rfl (lv_at hl 0 rfl) ?_
      obtain ⟨y32, ey32, hLy32, hKy32, hGy32⟩ := oQ_6_2 (Sv_at hQ hLp0 hKp0)
      refine p_get (v := .ref y32) hx hb hts inX6 hown hK hP hLp0 hKp0 rfl rfl 2 (by decide) (hts _ pq351) (congrArg (fun q => some (va_rf q)) ey32) dX6_turn_32 ?_
      obtain ⟨y35, ey35, hLy35, hKy35, hGy35⟩ := oQ_1_0 (Sv_at hQ hLy32 hKy32)
      refine p_get (v := .ref y35) hx hb hts inX1 hown hK hP hLy32 hKy32 rfl rfl 0 (by decide) (hts _ pq216) (congrArg (fun q => some (va_rf q)) ey35) dX6_turn_35 ?_
      refine lv_iload_n hx hb dX6_turn_38 rfl (lv_at hl 1 rfl) ?_
      obtain ⟨y39, ey39, hLy39, hKy39, hGy39⟩ := (Sv_at hQ hLy35 hKy35).1 p1.toNatClampNeg (clamp_lt (n := 8) (in_of (by omega) (by omega)))
      have hjy39 : p1.toNatClampNeg < 8 := clamp_lt (i := p1) (n := 8) (in_of (by omega) (by omega))
      refine p_aaldR hx hb hK hP 3 hLy35 hKy35 rfl rfl (in_of (by omega) (by omega)) ey39 dX6_turn_39 ?_
      refine lv_astore (lv' := [(4, .ref y39), (0, .ref p0), (1, .int p1), (2, .int p2), (3, .int p3)]) hx hb dX6_turn_40 hl (by decide) rfl (fun ls hl => ?_)
      have em : fm Q (an Q p0) p1.toInt.toNat = y39 := by rw [show an Q p0 = y32 from gd_of ey32]; exact fm_of ey35 ey39
      refine lv_aload hx hb dX6_turn_42 (lv_at hl 0 rfl) ?_
      refine lv_iload_n hx hb dX6_turn_44 rfl (lv_at hl 3 rfl) ?_
      refine lv_iload_n hx hb dX6_turn_45 rfl (lv_at hl 4 rfl) ?_
      refine sw_v (Z := (fun I1 J1 => Iv L K x0 m0 tx tm I1 ∧ I1 = Iz28 ∧ (∀ x y : Int, md (J1 (wo Q y39)) x y = (md (Jz28 (wo Q y39)) x y ^^ decide ((0 ≤ p2.toInt ∧ p2.toInt < (Iz28 y39 0).toInt ∧ 0 ≤ p3.toInt ∧ p3.toInt < (Iz28 y39 1).toInt) ∧ x = p2.toInt ∧ y = p3.toInt))) ∧ (∀ b, ¬ (K b = 12 ∧ (G b = G y39)) → J1 b = Jz28 b))) (va_runV (As := [.int p2, .int p3]) (rest := []) ⟨hx, hb, hml, hown, hts⟩ (s_X3_toggle l dC dI cs L K G Q hQ x0 m0 tx tm H.size Iz28 Jz28 hIz28 y39 hLy39 hKy39 p2 p3) (cwV 2 hts (gV pq671 pq514 pq515 pq76 pq516) rfl rfl rfl (by decide +kernel) ⟨(by rw [hR]; exact (Nat.le_of_ble_eq_true rfl)), (by rw [hR]; exact (Nat.le_of_ble_eq_true rfl))⟩) (sP_V hP hD hK hN hLy39 hKy39 rfl rfl) rfl rfl hl.1 rfl (lv_room (Nat.le_of_ble_eq_true rfl)) dX6_turn_46 ⟨(by rw [hR]; exact (Nat.le_of_ble_eq_true rfl)), (by rw [hR]; exact (Nat.le_of_ble_eq_true rfl))⟩) hS hAL hA (fun Iz46 Jz46 H locs hz46 hIz46 hP hS => ?_)
      obtain ⟨hIz46, sm46, jz46, djc46⟩ := hIz46
      have dj_Jz46 : (∀ b, b ∈ L0 → ¬ (K0 b = 12) → Jz46 b = J b) := fun b hb hc => (djc46 b (fun z => hc (by have w1 := (hX b hb).2.1; have w2 := (hX b hb).2.2.1; rw [w1] at z; exact z.1))).trans (dj_Jz28 b hb hc)
      obtain rfl : Iz28 = Iz46 := sm46.symm
      refine lv_aload hx hb dX6_turn_49 (lv_at hl 0 rfl) ?_
      refine sw_v (Z := (fun I1 J1 => Iv L K x0 m0 tx tm I1 ∧ (∀ b, ¬ (b = y39) → I1 b = Iz28 b) ∧ I1 y39 0 = Iz28 y39 0 ∧ I1 y39 1 = Iz28 y39 1 ∧ (mcl (Iz28 y39 0).toInt (Iz28 y39 1).toInt (Jz46 (wo Q y39)) → msr (Jz46 (wo Q y39)) (I1 y39 3).toInt (I1 y39 4).toInt (I1 y39 5).toInt (I1 y39 6).toInt (I1 y39 7).toInt) ∧ J1 = Jz46)) (va_runV (As := []) (rest := []) ⟨hx, hb, hml, hown, hts⟩ (s_X3_measure l dC dI cs L K G Q hQ x0 m0 tx tm H.size Iz28 Jz46 hIz28 y39 hLy39 hKy39) (cwV 0 hts (gV pq672 pq542 pq543 pq76 pq544) rfl rfl rfl (by decide +kernel) ⟨(by rw [hR]; exact (Nat.le_of_ble_eq_true rfl)), (by rw [hR]; exact (Nat.le_of_ble_eq_true rfl))⟩) (sP_V hP hD hK hN hLy39 hKy39 rfl rfl) rfl rfl hl.1 rfl (lv_room (Nat.le_of_ble_eq_true rfl)) dX6_turn_51 ⟨(by rw [hR]; exact (Nat.le_of_ble_eq_true rfl)), (by rw [hR]; exact (Nat.le_of_ble_eq_true rfl))⟩) hS hAL hA (fun Iz51 Jz51 H locs hz51 hIz51 hP hS => ?_)
      obtain ⟨hIz51, frc51, kc51_0_0, kc51_0_1, fz51, djc51⟩ := hIz51
      obtain rfl : Jz46 = Jz51 := djc51.symm
      have dn_Iz51 : (∀ b, b ∈ L0 → (K0 b = 7 ∨ K0 b = 18 ∨ K0 b = 19 ∨ K0 b = 20 ∨ K0 b = 24) → Iz51 b = I b) := fun b hb hc => (frc51 b (fun z => by have w := (hX b hb).2.1; have q := hKy39; rw [← z] at q; omega)).trans (dn_Iz28 b hb hc)
      refine lv_aload_n hx hb dX6_turn_54 rfl (lv_at hl 1 rfl) ?_
      obtain ⟨y55, ey55, hLy55, hKy55, hGy55⟩ := oQ_6_5 (Sv_at hQ hLp0 hKp0)
      refine p_get (v := .ref y55) hx hb hts inX6 hown hK hP hLp0 hKp0 rfl rfl 5 (by decide) (hts _ pq354) (congrArg (fun q => some (va_rf q)) ey55) dX6_turn_55 ?_
      refine sw_v (Z := (fun I1 J1 => Iv L K x0 m0 tx tm I1 ∧ (∀ b, ¬ ((K b = 3) ∧ G b / 100 = 2) → I1 b = Iz51 b) ∧ (∀ c : Fx, okF c → cxF Q Iz51 Jz46 (nf Q y55) c → cxS Q I1 J1 y55 c) ∧ (∀ b, ¬ (K b = 12 ∧ (G b / 100 = 2)) → J1 b = Jz46 b))) (va_runV (As := []) (rest := []) ⟨hx, hb, hml, hown, hts⟩ (s_X5_redraw l dC dI cs L K G Q hQ x0 m0 tx tm H.size Iz51 Jz46 hIz51 y55 hLy55 hKy55) (cwV 0 hts (gV pq604 pq605 pq606 pq79 pq607) rfl rfl rfl (by decide +kernel) ⟨(by rw [hR]; exact (Nat.le_of_ble_eq_true rfl)), (by rw [hR]; exact (Nat.le_of_ble_eq_true rfl))⟩) (sP_V hP hD hK hN hLy55 hKy55 rfl rfl) rfl rfl hl.1 rfl (lv_room (Nat.le_of_ble_eq_true rfl)) dX6_turn_58 ⟨(by rw [hR]; exact (Nat.le_of_ble_eq_true rfl)), (by rw [hR]; exact (Nat.le_of_ble_eq_true rfl))⟩) hS hAL hA (fun Iz58 Jz58 H locs hz58 hIz58 hP hS => ?_)
      obtain ⟨hIz58, frc58, jz58, djc58⟩ := hIz58
      have dj_Jz58 : (∀ b, b ∈ L0 → ¬ (K0 b = 12) → Jz58 b = J b) := fun b hb hc => (djc58 b (fun z => hc (by have w1 := (hX b hb).2.1; have w2 := (hX b hb).2.2.1; rw [w1] at z; exact z.1))).trans (dj_Jz46 b hb hc)
      have dn_Iz58 : (∀ b, b ∈ L0 → (K0 b = 7 ∨ K0 b = 18 ∨ K0 b = 19 ∨ K0 b = 20 ∨ K0 b = 24) → Iz58 b = I b) := fun b hb hc => (frc58 b (by have w := (hX b hb).2.1; omega)).trans (dn_Iz51 b hb hc)
      refine lv_aload hx hb dX6_turn_61 (lv_at hl 0 rfl) ?_
      refine lv_iload_n hx hb dX6_turn_63 rfl (lv_at hl 3 rfl) ?_
      refine lv_iload_n hx hb dX6_turn_64 rfl (lv_at hl 4 rfl) ?_
      refine ro_i (va_runV (As := [.int p2, .int p3]) (rest := []) ⟨hx, hb, hml, hown, hts⟩ (s_X3_holds l dC dI cs L K G Q hQ x0 m0 tx tm H.size Iz58 Jz58 hIz58 y39 hLy39 hKy39 p2 p3) (cwV 2 hts (gV pq673 pq674 pq675 pq76 pq676) rfl rfl rfl (by decide +kernel) ⟨(by rw [hR]; exact (Nat.le_of_ble_eq_true rfl)), (by rw [hR]; exact (Nat.le_of_ble_eq_true rfl))⟩) (sP_V hP hD hK hN hLy39 hKy39 rfl rfl) rfl rfl hl.1 rfl (lv_room (Nat.le_of_ble_eq_true rfl)) dX6_turn_65 ⟨(by rw [hR]; exact (Nat.le_of_ble_eq_true rfl)), (by rw [hR]; exact (Nat.le_of_ble_eq_true rfl))⟩) hS hP (fun z65 H locs hz65 hP hS => ?_)
      obtain ⟨bz65, xpz65⟩ := hz65
      refine lv_if_eq (tgt := 75) hx hb dX6_turn_68 (by decide) (fun c68 => ?_) (fun c68 => ?_)
      · have t68 := tq_eq (k := z65.toInt) (q := (0)) c68 rfl (by decide +kernel)
        refine lv_iconst (v := 0) hx hb dX6_turn_75 (by decide +kernel) ?_
        subst hR; subst hQz
        exact W.iret (v := 0) hx hb hr (fun t ht hW => ⟨⟨0, (), rfl, (fun σ h => by obtain ⟨hC, A0⟩ := rs σ h; have A := rz28 σ A0; have T := tu_fin (σ := rem σ) (m := p1) (px := p2) (py := p3) A (rem_tu hC) em jz46 kc51_0_0 kc51_0_1 fz51; have ans := tu_ans T.1 (cxA_m A (rem_tu hC).1).2 (rem_tu hC).2 (frc58 y39 (fun z => by have := z.2; omega)) (djc58 _ (fun z => by have := z.2; have := (wo_g hQ hLy39 hKy39).2.2; omega)) xpz65; rw [rem_F] at ans; rw [tu_y hC]; show (0 : Int32).toInt = bi (!md (mF σ p1) p2.toInt p3.toInt); rw [bi_f ans t68]; decide +kernel), ⟨L, K, G, Q, Iz58, Jz58, hX, hQ, hIz58, fun F => (hD F).weaken (fun _ _ _ _ => trivial), fun q h => hAe2 q (hAL q h), by rw [ht]; exact hP, ⟨(fun σ h => by obtain ⟨hC, A0⟩ := rs σ h; have A := rz28 σ A0; have T := tu_fin (σ := rem σ) (m := p1) (px := p2) (py := p3) A (rem_tu hC) em jz46 kc51_0_0 kc51_0_1 fz51; have B := cxH_mask (σ := rem σ) (m := p1.toInt.toNat) (I1 := Iz51) (J1 := Jz46) hQ hLp0 hKp0 (by omega) T.2 (by rw [em]; exact T.1) (by rw [em]; exact frc51) (by rw [em]; exact djc46) A.1; rw [rem_W, rem_H, rem_T, rem_1] at B; rw [tu_y hC]; exact cxA_redraw hQ hLp0 hKp0 (by rw [show se Q p0 = y55 from gd_of ey55]; exact jz58) frc58 djc58 B), dn_Iz58, dj_Jz58⟩⟩⟩, hS.F ht⟩) hS.2.2 dX6_turn_76
      · have t68 := tq_ne (k := z65.toInt) (q := (0)) c68 rfl (by decide +kernel)
        refine lv_iconst (v := 1) hx hb dX6_turn_71 (by decide +kernel) ?_
        refine lv_goto (tgt := 76) hx hb dX6_turn_72 (by decide) ?_
        subst hR; subst hQz
        exact W.iret (v := 1) hx hb hr (fun t ht hW => ⟨⟨1, (), rfl, (fun σ h => by obtain ⟨hC, A0⟩ := rs σ h; have A := rz28 σ A0; have T := tu_fin (σ := rem σ) (m := p1) (px := p2) (py := p3) A (rem_tu hC) em jz46 kc51_0_0 kc51_0_1 fz51; have ans := tu_ans T.1 (cxA_m A (rem_tu hC).1).2 (rem_tu hC).2 (frc58 y39 (fun z => by have := z.2; omega)) (djc58 _ (fun z => by have := z.2; have := (wo_g hQ hLy39 hKy39).2.2; omega)) xpz65; rw [rem_F] at ans; rw [tu_y hC]; show (1 : Int32).toInt = bi (!md (mF σ p1) p2.toInt p3.toInt); rw [bi_t ans t68]; decide +kernel), ⟨L, K, G, Q, Iz58, Jz58, hX, hQ, hIz58, fun F => (hD F).weaken (fun _ _ _ _ => trivial), fun q h => hAe2 q (hAL q h), by rw [ht]; exact hP, ⟨(fun σ h => by obtain ⟨hC, A0⟩ := rs σ h; have A := rz28 σ A0; have T := tu_fin (σ := rem σ) (m := p1) (px := p2) (py := p3) A (rem_tu hC) em jz46 kc51_0_0 kc51_0_1 fz51; have B := cxH_mask (σ := rem σ) (m := p1.toInt.toNat) (I1 := Iz51) (J1 := Jz46) hQ hLp0 hKp0 (by omega) T.2 (by rw [em]; exact T.1) (by rw [em]; exact frc51) (by rw [em]; exact djc46) A.1; rw [rem_W, rem_H, rem_T, rem_1] at B; rw [tu_y hC]; exact cxA_redraw hQ hLp0 hKp0 (by rw [show se Q p0 = y55 from gd_of ey55]; exact jz58) frc58 djc58 B), dn_Iz58, dj_Jz58⟩⟩⟩, hS.F ht⟩) hS.2.2 dX6_turn_76
    · have t22 := tq_eq (k := z19.toInt) (q := (0)) c22 rfl (by decide +kernel)
      refine lv_iconst (v := (-1)) hx hb dX6_turn_25 (by decide +kernel) ?_
      subst hR; subst hQz
      refine W.widen (k := 29) (n := 807) (Nat.le_of_ble_eq_true rfl) (Nat.le_of_ble_eq_true rfl) ?_
      exact W.iret (v := (-1)) hx hb hr (fun t ht hW => ⟨⟨(-1), (), rfl, (fun σ h => by have A0 := rx0 σ h; have ec := A0.1.1.2.1; rw [tu_n (fun q => by first | exact xpz2.2 t5 (by rw [ec]; exact q.1) | (have c := (cxA_m A0 q.1).1; rw [ea] at c; have q2 := q.2; rw [← c.1, ← c.2.1] at q2; exact xpz19.2 t22 q2))]; show (-1 : Int32).toInt = -1; decide +kernel), ⟨L, K, G, Q, I, J, hX, hQ, hI, fun F => (hD F).weaken (fun _ _ _ _ => trivial), fun q h => hAe2 q (hAL q h), by rw [ht]; exact hP, ⟨(fun σ h => by have A0 := rx0 σ h; have ec := A0.1.1.2.1; rw [tu_n (fun q => by first | exact xpz2.2 t5 (by rw [ec]; exact q.1) | (have c := (cxA_m A0 q.1).1; rw [ea] at c; have q2 := q.2; rw [← c.1, ← c.2.1] at q2; exact xpz19.2 t22 q2))]; exact A0), dn_I, dj_J⟩⟩⟩, hS.F ht⟩) hS.2.2 dX6_turn_26
