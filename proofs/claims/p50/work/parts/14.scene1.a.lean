def yX5_mayTouch : MethodName := ⟨RX5, "mayTouch", "(II)Z"⟩
abbrev cX5_mayTouch : ByteArray := prog_7_method_8_code
def yX5_wayPasses : MethodName := ⟨RX5, "wayPasses", "(IIII)Z"⟩
abbrev cX5_wayPasses : ByteArray := prog_7_method_16_code
def yX5_shareIfMoved : MethodName := ⟨RX5, "shareIfMoved", "(IIII)Z"⟩
abbrev cX5_shareIfMoved : ByteArray := prog_7_method_11_code
def yX5_covers : MethodName := ⟨RX5, "covers", "(III)Z"⟩
abbrev cX5_covers : ByteArray := prog_7_method_6_code
abbrev cX5_boxesShare : ByteArray := prog_7_method_9_code
abbrev cX5_firstTouchOfTwo : ByteArray := prog_7_method_13_code
abbrev cX5_hasDots : ByteArray := prog_7_method_3_code
abbrev cX5_leastTouched : ByteArray := prog_7_method_17_code
abbrev cX5_middleX : ByteArray := prog_7_method_4_code
abbrev cX5_middleY : ByteArray := prog_7_method_5_code
abbrev cX5_sharedIfMoved : ByteArray := prog_7_method_10_code
abbrev cX5_stoppersAhead : ByteArray := prog_7_method_15_code
abbrev cX5_thirdCovers : ByteArray := prog_7_method_7_code
abbrev cX5_touchesIfMoved : ByteArray := prog_7_method_12_code
def yX5_boxesShare : MethodName := ⟨RX5, "boxesShare", "(II)Z"⟩
def yX5_firstTouchOfTwo : MethodName := ⟨RX5, "firstTouchOfTwo", "(IIIII)I"⟩
def yX5_hasDots : MethodName := ⟨RX5, "hasDots", "(I)Z"⟩
def yX5_leastTouched : MethodName := ⟨RX5, "leastTouched", "(IIII)I"⟩
def yX5_middleX : MethodName := ⟨RX5, "middleX", "(I)I"⟩
def yX5_middleY : MethodName := ⟨RX5, "middleY", "(I)I"⟩
def yX5_sharedIfMoved : MethodName := ⟨RX5, "sharedIfMoved", "(IIII)I"⟩
def yX5_stoppersAhead : MethodName := ⟨RX5, "stoppersAhead", "(III)I"⟩
def yX5_thirdCovers : MethodName := ⟨RX5, "thirdCovers", "(IIII)Z"⟩
def yX5_touchesIfMoved : MethodName := ⟨RX5, "touchesIfMoved", "(IIII)Z"⟩
theorem dX5_boxesShare_0 : decode cX5_boxesShare 0 = .ok (.aload_n 0, 1) := by decide +kernel
theorem dX5_boxesShare_1 : decode cX5_boxesShare 1 = .ok (.getfield 39, 3) := by decide +kernel
theorem dX5_boxesShare_4 : decode cX5_boxesShare 4 = .ok (.getfield 49, 3) := by decide +kernel
theorem dX5_boxesShare_7 : decode cX5_boxesShare 7 = .ok (.iload_n 1, 1) := by decide +kernel
theorem dX5_boxesShare_8 : decode cX5_boxesShare 8 = .ok (.aaload, 1) := by decide +kernel
theorem dX5_boxesShare_9 : decode cX5_boxesShare 9 = .ok (.astore_n 3, 1) := by decide +kernel
theorem dX5_boxesShare_10 : decode cX5_boxesShare 10 = .ok (.aload_n 0, 1) := by decide +kernel
theorem dX5_boxesShare_11 : decode cX5_boxesShare 11 = .ok (.getfield 39, 3) := by decide +kernel
theorem dX5_boxesShare_14 : decode cX5_boxesShare 14 = .ok (.getfield 49, 3) := by decide +kernel
theorem dX5_boxesShare_17 : decode cX5_boxesShare 17 = .ok (.iload_n 2, 1) := by decide +kernel
theorem dX5_boxesShare_18 : decode cX5_boxesShare 18 = .ok (.aaload, 1) := by decide +kernel
theorem dX5_boxesShare_19 : decode cX5_boxesShare 19 = .ok (.astore 4, 2) := by decide +kernel
theorem dX5_boxesShare_21 : decode cX5_boxesShare 21 = .ok (.aload_n 0, 1) := by decide +kernel
theorem dX5_boxesShare_22 : decode cX5_boxesShare 22 = .ok (.getfield 11, 3) := by decide +kernel
theorem dX5_boxesShare_25 : decode cX5_boxesShare 25 = .ok (.iload_n 1, 1) := by decide +kernel
theorem dX5_boxesShare_26 : decode cX5_boxesShare 26 = .ok (.aaload, 1) := by decide +kernel
theorem dX5_boxesShare_27 : decode cX5_boxesShare 27 = .ok (.aload_n 0, 1) := by decide +kernel
theorem dX5_boxesShare_28 : decode cX5_boxesShare 28 = .ok (.getfield 11, 3) := by decide +kernel
theorem dX5_boxesShare_31 : decode cX5_boxesShare 31 = .ok (.iload_n 2, 1) := by decide +kernel
theorem dX5_boxesShare_32 : decode cX5_boxesShare 32 = .ok (.aaload, 1) := by decide +kernel
theorem dX5_boxesShare_33 : decode cX5_boxesShare 33 = .ok (.aload 4, 2) := by decide +kernel
theorem dX5_boxesShare_35 : decode cX5_boxesShare 35 = .ok (.getfield 71, 3) := by decide +kernel
theorem dX5_boxesShare_38 : decode cX5_boxesShare 38 = .ok (.aload_n 3, 1) := by decide +kernel
theorem dX5_boxesShare_39 : decode cX5_boxesShare 39 = .ok (.getfield 71, 3) := by decide +kernel
theorem dX5_boxesShare_42 : decode cX5_boxesShare 42 = .ok (.isub, 1) := by decide +kernel
theorem dX5_boxesShare_43 : decode cX5_boxesShare 43 = .ok (.aload 4, 2) := by decide +kernel
theorem dX5_boxesShare_45 : decode cX5_boxesShare 45 = .ok (.getfield 86, 3) := by decide +kernel
theorem dX5_boxesShare_48 : decode cX5_boxesShare 48 = .ok (.aload_n 3, 1) := by decide +kernel
theorem dX5_boxesShare_49 : decode cX5_boxesShare 49 = .ok (.getfield 86, 3) := by decide +kernel
theorem dX5_boxesShare_52 : decode cX5_boxesShare 52 = .ok (.isub, 1) := by decide +kernel
theorem dX5_boxesShare_53 : decode cX5_boxesShare 53 = .ok (.invokestatic 109, 3) := by decide +kernel
theorem dX5_boxesShare_56 : decode cX5_boxesShare 56 = .ok (.ireturn, 1) := by decide +kernel
theorem dX5_covers_0 : decode cX5_covers 0 = .ok (.aload_n 0, 1) := by decide +kernel
theorem dX5_covers_1 : decode cX5_covers 1 = .ok (.getfield 39, 3) := by decide +kernel
theorem dX5_covers_4 : decode cX5_covers 4 = .ok (.getfield 49, 3) := by decide +kernel
theorem dX5_covers_7 : decode cX5_covers 7 = .ok (.iload_n 1, 1) := by decide +kernel
theorem dX5_covers_8 : decode cX5_covers 8 = .ok (.aaload, 1) := by decide +kernel
theorem dX5_covers_9 : decode cX5_covers 9 = .ok (.astore 4, 2) := by decide +kernel
theorem dX5_covers_11 : decode cX5_covers 11 = .ok (.aload_n 0, 1) := by decide +kernel
theorem dX5_covers_12 : decode cX5_covers 12 = .ok (.getfield 11, 3) := by decide +kernel
theorem dX5_covers_15 : decode cX5_covers 15 = .ok (.iload_n 1, 1) := by decide +kernel
theorem dX5_covers_16 : decode cX5_covers 16 = .ok (.aaload, 1) := by decide +kernel
theorem dX5_covers_17 : decode cX5_covers 17 = .ok (.iload_n 2, 1) := by decide +kernel
theorem dX5_covers_18 : decode cX5_covers 18 = .ok (.aload 4, 2) := by decide +kernel
theorem dX5_covers_20 : decode cX5_covers 20 = .ok (.getfield 71, 3) := by decide +kernel
theorem dX5_covers_23 : decode cX5_covers 23 = .ok (.isub, 1) := by decide +kernel
theorem dX5_covers_24 : decode cX5_covers 24 = .ok (.iload_n 3, 1) := by decide +kernel
theorem dX5_covers_25 : decode cX5_covers 25 = .ok (.aload 4, 2) := by decide +kernel
theorem dX5_covers_27 : decode cX5_covers 27 = .ok (.getfield 86, 3) := by decide +kernel
theorem dX5_covers_30 : decode cX5_covers 30 = .ok (.isub, 1) := by decide +kernel
theorem dX5_covers_31 : decode cX5_covers 31 = .ok (.invokevirtual 95, 3) := by decide +kernel
theorem dX5_covers_34 : decode cX5_covers 34 = .ok (.ireturn, 1) := by decide +kernel
theorem dX5_firstTouchOfTwo_0 : decode cX5_firstTouchOfTwo 0 = .ok (.aload_n 0, 1) := by decide +kernel
theorem dX5_firstTouchOfTwo_1 : decode cX5_firstTouchOfTwo 1 = .ok (.iload_n 1, 1) := by decide +kernel
theorem dX5_firstTouchOfTwo_2 : decode cX5_firstTouchOfTwo 2 = .ok (.iload_n 2, 1) := by decide +kernel
theorem dX5_firstTouchOfTwo_3 : decode cX5_firstTouchOfTwo 3 = .ok (.invokevirtual 120, 3) := by decide +kernel
theorem dX5_firstTouchOfTwo_6 : decode cX5_firstTouchOfTwo 6 = .ok (.ifCond .ne 6, 3) := by decide +kernel
theorem dX5_firstTouchOfTwo_9 : decode cX5_firstTouchOfTwo 9 = .ok (.bipush (-2), 2) := by decide +kernel
theorem dX5_firstTouchOfTwo_11 : decode cX5_firstTouchOfTwo 11 = .ok (.ireturn, 1) := by decide +kernel
theorem dX5_firstTouchOfTwo_12 : decode cX5_firstTouchOfTwo 12 = .ok (.iconst 0, 1) := by decide +kernel
theorem dX5_firstTouchOfTwo_13 : decode cX5_firstTouchOfTwo 13 = .ok (.istore 6, 2) := by decide +kernel
theorem dX5_firstTouchOfTwo_15 : decode cX5_firstTouchOfTwo 15 = .ok (.iload 6, 2) := by decide +kernel
theorem dX5_firstTouchOfTwo_17 : decode cX5_firstTouchOfTwo 17 = .ok (.iload 5, 2) := by decide +kernel
theorem dX5_firstTouchOfTwo_19 : decode cX5_firstTouchOfTwo 19 = .ok (.if_icmp .gt 30, 3) := by decide +kernel
theorem dX5_firstTouchOfTwo_22 : decode cX5_firstTouchOfTwo 22 = .ok (.aload_n 0, 1) := by decide +kernel
theorem dX5_firstTouchOfTwo_23 : decode cX5_firstTouchOfTwo 23 = .ok (.iload_n 1, 1) := by decide +kernel
theorem dX5_firstTouchOfTwo_24 : decode cX5_firstTouchOfTwo 24 = .ok (.iload_n 2, 1) := by decide +kernel
theorem dX5_firstTouchOfTwo_25 : decode cX5_firstTouchOfTwo 25 = .ok (.iload 6, 2) := by decide +kernel
theorem dX5_firstTouchOfTwo_27 : decode cX5_firstTouchOfTwo 27 = .ok (.iload_n 3, 1) := by decide +kernel
theorem dX5_firstTouchOfTwo_28 : decode cX5_firstTouchOfTwo 28 = .ok (.imul, 1) := by decide +kernel
theorem dX5_firstTouchOfTwo_29 : decode cX5_firstTouchOfTwo 29 = .ok (.iload 6, 2) := by decide +kernel
theorem dX5_firstTouchOfTwo_31 : decode cX5_firstTouchOfTwo 31 = .ok (.iload 4, 2) := by decide +kernel
theorem dX5_firstTouchOfTwo_33 : decode cX5_firstTouchOfTwo 33 = .ok (.imul, 1) := by decide +kernel
theorem dX5_firstTouchOfTwo_34 : decode cX5_firstTouchOfTwo 34 = .ok (.invokevirtual 123, 3) := by decide +kernel
theorem dX5_firstTouchOfTwo_37 : decode cX5_firstTouchOfTwo 37 = .ok (.ifCond .eq 6, 3) := by decide +kernel
theorem dX5_firstTouchOfTwo_40 : decode cX5_firstTouchOfTwo 40 = .ok (.iload 6, 2) := by decide +kernel
theorem dX5_firstTouchOfTwo_42 : decode cX5_firstTouchOfTwo 42 = .ok (.ireturn, 1) := by decide +kernel
theorem dX5_firstTouchOfTwo_43 : decode cX5_firstTouchOfTwo 43 = .ok (.iinc 6 1, 3) := by decide +kernel
theorem dX5_firstTouchOfTwo_46 : decode cX5_firstTouchOfTwo 46 = .ok (.goto (-31), 3) := by decide +kernel
theorem dX5_firstTouchOfTwo_49 : decode cX5_firstTouchOfTwo 49 = .ok (.bipush (-2), 2) := by decide +kernel
theorem dX5_firstTouchOfTwo_51 : decode cX5_firstTouchOfTwo 51 = .ok (.ireturn, 1) := by decide +kernel
theorem dX5_hasDots_0 : decode cX5_hasDots 0 = .ok (.aload_n 0, 1) := by decide +kernel
theorem dX5_hasDots_1 : decode cX5_hasDots 1 = .ok (.getfield 11, 3) := by decide +kernel
theorem dX5_hasDots_4 : decode cX5_hasDots 4 = .ok (.iload_n 1, 1) := by decide +kernel
theorem dX5_hasDots_5 : decode cX5_hasDots 5 = .ok (.aaload, 1) := by decide +kernel
theorem dX5_hasDots_6 : decode cX5_hasDots 6 = .ok (.getfield 68, 3) := by decide +kernel
theorem dX5_hasDots_9 : decode cX5_hasDots 9 = .ok (.ifCond .le 7, 3) := by decide +kernel
theorem dX5_hasDots_12 : decode cX5_hasDots 12 = .ok (.iconst 1, 1) := by decide +kernel
theorem dX5_hasDots_13 : decode cX5_hasDots 13 = .ok (.goto 4, 3) := by decide +kernel
theorem dX5_hasDots_16 : decode cX5_hasDots 16 = .ok (.iconst 0, 1) := by decide +kernel
theorem dX5_hasDots_17 : decode cX5_hasDots 17 = .ok (.ireturn, 1) := by decide +kernel
theorem dX5_leastTouched_0 : decode cX5_leastTouched 0 = .ok (.iconst 0, 1) := by decide +kernel
theorem dX5_leastTouched_1 : decode cX5_leastTouched 1 = .ok (.istore 5, 2) := by decide +kernel
theorem dX5_leastTouched_3 : decode cX5_leastTouched 3 = .ok (.iload 5, 2) := by decide +kernel
theorem dX5_leastTouched_5 : decode cX5_leastTouched 5 = .ok (.aload_n 0, 1) := by decide +kernel
theorem dX5_leastTouched_6 : decode cX5_leastTouched 6 = .ok (.getfield 39, 3) := by decide +kernel
theorem dX5_leastTouched_9 : decode cX5_leastTouched 9 = .ok (.getfield 44, 3) := by decide +kernel
theorem dX5_leastTouched_12 : decode cX5_leastTouched 12 = .ok (.if_icmp .ge 35, 3) := by decide +kernel
theorem dX5_leastTouched_15 : decode cX5_leastTouched 15 = .ok (.iload_n 2, 1) := by decide +kernel
theorem dX5_leastTouched_16 : decode cX5_leastTouched 16 = .ok (.iload 5, 2) := by decide +kernel
theorem dX5_leastTouched_18 : decode cX5_leastTouched 18 = .ok (.ishr, 1) := by decide +kernel
theorem dX5_leastTouched_19 : decode cX5_leastTouched 19 = .ok (.iconst 1, 1) := by decide +kernel
theorem dX5_leastTouched_20 : decode cX5_leastTouched 20 = .ok (.iand, 1) := by decide +kernel
theorem dX5_leastTouched_21 : decode cX5_leastTouched 21 = .ok (.iconst 1, 1) := by decide +kernel
theorem dX5_leastTouched_22 : decode cX5_leastTouched 22 = .ok (.if_icmp .ne 19, 3) := by decide +kernel
theorem dX5_leastTouched_25 : decode cX5_leastTouched 25 = .ok (.aload_n 0, 1) := by decide +kernel
theorem dX5_leastTouched_26 : decode cX5_leastTouched 26 = .ok (.iload_n 1, 1) := by decide +kernel
theorem dX5_leastTouched_27 : decode cX5_leastTouched 27 = .ok (.iload 5, 2) := by decide +kernel
theorem dX5_leastTouched_29 : decode cX5_leastTouched 29 = .ok (.iload_n 3, 1) := by decide +kernel
theorem dX5_leastTouched_30 : decode cX5_leastTouched 30 = .ok (.iload 4, 2) := by decide +kernel
theorem dX5_leastTouched_32 : decode cX5_leastTouched 32 = .ok (.invokevirtual 123, 3) := by decide +kernel
theorem dX5_leastTouched_35 : decode cX5_leastTouched 35 = .ok (.ifCond .eq 6, 3) := by decide +kernel
theorem dX5_leastTouched_38 : decode cX5_leastTouched 38 = .ok (.iload 5, 2) := by decide +kernel
theorem dX5_leastTouched_40 : decode cX5_leastTouched 40 = .ok (.ireturn, 1) := by decide +kernel
theorem dX5_leastTouched_41 : decode cX5_leastTouched 41 = .ok (.iinc 5 1, 3) := by decide +kernel
theorem dX5_leastTouched_44 : decode cX5_leastTouched 44 = .ok (.goto (-41), 3) := by decide +kernel
theorem dX5_leastTouched_47 : decode cX5_leastTouched 47 = .ok (.iconst (-1), 1) := by decide +kernel
theorem dX5_leastTouched_48 : decode cX5_leastTouched 48 = .ok (.ireturn, 1) := by decide +kernel
theorem dX5_mayTouch_0 : decode cX5_mayTouch 0 = .ok (.aload_n 0, 1) := by decide +kernel
theorem dX5_mayTouch_1 : decode cX5_mayTouch 1 = .ok (.getfield 39, 3) := by decide +kernel
theorem dX5_mayTouch_4 : decode cX5_mayTouch 4 = .ok (.getfield 49, 3) := by decide +kernel
theorem dX5_mayTouch_7 : decode cX5_mayTouch 7 = .ok (.iload_n 1, 1) := by decide +kernel
theorem dX5_mayTouch_8 : decode cX5_mayTouch 8 = .ok (.aaload, 1) := by decide +kernel
theorem dX5_mayTouch_9 : decode cX5_mayTouch 9 = .ok (.astore_n 3, 1) := by decide +kernel
theorem dX5_mayTouch_10 : decode cX5_mayTouch 10 = .ok (.aload_n 0, 1) := by decide +kernel
theorem dX5_mayTouch_11 : decode cX5_mayTouch 11 = .ok (.getfield 39, 3) := by decide +kernel
theorem dX5_mayTouch_14 : decode cX5_mayTouch 14 = .ok (.getfield 49, 3) := by decide +kernel
theorem dX5_mayTouch_17 : decode cX5_mayTouch 17 = .ok (.iload_n 2, 1) := by decide +kernel
theorem dX5_mayTouch_18 : decode cX5_mayTouch 18 = .ok (.aaload, 1) := by decide +kernel
theorem dX5_mayTouch_19 : decode cX5_mayTouch 19 = .ok (.astore 4, 2) := by decide +kernel
theorem dX5_mayTouch_21 : decode cX5_mayTouch 21 = .ok (.aload_n 3, 1) := by decide +kernel
theorem dX5_mayTouch_22 : decode cX5_mayTouch 22 = .ok (.getfield 103, 3) := by decide +kernel
theorem dX5_mayTouch_25 : decode cX5_mayTouch 25 = .ok (.aload 4, 2) := by decide +kernel
theorem dX5_mayTouch_27 : decode cX5_mayTouch 27 = .ok (.getfield 106, 3) := by decide +kernel
theorem dX5_mayTouch_30 : decode cX5_mayTouch 30 = .ok (.iand, 1) := by decide +kernel
theorem dX5_mayTouch_31 : decode cX5_mayTouch 31 = .ok (.aload 4, 2) := by decide +kernel
theorem dX5_mayTouch_33 : decode cX5_mayTouch 33 = .ok (.getfield 103, 3) := by decide +kernel
theorem dX5_mayTouch_36 : decode cX5_mayTouch 36 = .ok (.aload_n 3, 1) := by decide +kernel
theorem dX5_mayTouch_37 : decode cX5_mayTouch 37 = .ok (.getfield 106, 3) := by decide +kernel
theorem dX5_mayTouch_40 : decode cX5_mayTouch 40 = .ok (.iand, 1) := by decide +kernel
theorem dX5_mayTouch_41 : decode cX5_mayTouch 41 = .ok (.ior, 1) := by decide +kernel
theorem dX5_mayTouch_42 : decode cX5_mayTouch 42 = .ok (.ifCond .eq 7, 3) := by decide +kernel
theorem dX5_mayTouch_45 : decode cX5_mayTouch 45 = .ok (.iconst 1, 1) := by decide +kernel
theorem dX5_mayTouch_46 : decode cX5_mayTouch 46 = .ok (.goto 4, 3) := by decide +kernel
theorem dX5_mayTouch_49 : decode cX5_mayTouch 49 = .ok (.iconst 0, 1) := by decide +kernel
theorem dX5_mayTouch_50 : decode cX5_mayTouch 50 = .ok (.ireturn, 1) := by decide +kernel
theorem dX5_middleX_0 : decode cX5_middleX 0 = .ok (.aload_n 0, 1) := by decide +kernel
theorem dX5_middleX_1 : decode cX5_middleX 1 = .ok (.getfield 11, 3) := by decide +kernel
theorem dX5_middleX_4 : decode cX5_middleX 4 = .ok (.iload_n 1, 1) := by decide +kernel
theorem dX5_middleX_5 : decode cX5_middleX 5 = .ok (.aaload, 1) := by decide +kernel
theorem dX5_middleX_6 : decode cX5_middleX 6 = .ok (.astore_n 2, 1) := by decide +kernel
theorem dX5_middleX_7 : decode cX5_middleX 7 = .ok (.iconst 2, 1) := by decide +kernel
theorem dX5_middleX_8 : decode cX5_middleX 8 = .ok (.aload_n 0, 1) := by decide +kernel
theorem dX5_middleX_9 : decode cX5_middleX 9 = .ok (.getfield 39, 3) := by decide +kernel
theorem dX5_middleX_12 : decode cX5_middleX 12 = .ok (.getfield 49, 3) := by decide +kernel
theorem dX5_middleX_15 : decode cX5_middleX 15 = .ok (.iload_n 1, 1) := by decide +kernel
theorem dX5_middleX_16 : decode cX5_middleX 16 = .ok (.aaload, 1) := by decide +kernel
theorem dX5_middleX_17 : decode cX5_middleX 17 = .ok (.getfield 71, 3) := by decide +kernel
theorem dX5_middleX_20 : decode cX5_middleX 20 = .ok (.imul, 1) := by decide +kernel
theorem dX5_middleX_21 : decode cX5_middleX 21 = .ok (.aload_n 2, 1) := by decide +kernel
theorem dX5_middleX_22 : decode cX5_middleX 22 = .ok (.getfield 74, 3) := by decide +kernel
theorem dX5_middleX_25 : decode cX5_middleX 25 = .ok (.iadd, 1) := by decide +kernel
theorem dX5_middleX_26 : decode cX5_middleX 26 = .ok (.aload_n 2, 1) := by decide +kernel
theorem dX5_middleX_27 : decode cX5_middleX 27 = .ok (.getfield 77, 3) := by decide +kernel
theorem dX5_middleX_30 : decode cX5_middleX 30 = .ok (.iadd, 1) := by decide +kernel
theorem dX5_middleX_31 : decode cX5_middleX 31 = .ok (.iconst 2, 1) := by decide +kernel
theorem dX5_middleX_32 : decode cX5_middleX 32 = .ok (.invokestatic 80, 3) := by decide +kernel
theorem dX5_middleX_35 : decode cX5_middleX 35 = .ok (.ireturn, 1) := by decide +kernel
theorem dX5_middleY_0 : decode cX5_middleY 0 = .ok (.aload_n 0, 1) := by decide +kernel
theorem dX5_middleY_1 : decode cX5_middleY 1 = .ok (.getfield 11, 3) := by decide +kernel
theorem dX5_middleY_4 : decode cX5_middleY 4 = .ok (.iload_n 1, 1) := by decide +kernel
theorem dX5_middleY_5 : decode cX5_middleY 5 = .ok (.aaload, 1) := by decide +kernel
theorem dX5_middleY_6 : decode cX5_middleY 6 = .ok (.astore_n 2, 1) := by decide +kernel
theorem dX5_middleY_7 : decode cX5_middleY 7 = .ok (.iconst 2, 1) := by decide +kernel
theorem dX5_middleY_8 : decode cX5_middleY 8 = .ok (.aload_n 0, 1) := by decide +kernel
theorem dX5_middleY_9 : decode cX5_middleY 9 = .ok (.getfield 39, 3) := by decide +kernel
theorem dX5_middleY_12 : decode cX5_middleY 12 = .ok (.getfield 49, 3) := by decide +kernel
theorem dX5_middleY_15 : decode cX5_middleY 15 = .ok (.iload_n 1, 1) := by decide +kernel
theorem dX5_middleY_16 : decode cX5_middleY 16 = .ok (.aaload, 1) := by decide +kernel
theorem dX5_middleY_17 : decode cX5_middleY 17 = .ok (.getfield 86, 3) := by decide +kernel
theorem dX5_middleY_20 : decode cX5_middleY 20 = .ok (.imul, 1) := by decide +kernel
theorem dX5_middleY_21 : decode cX5_middleY 21 = .ok (.aload_n 2, 1) := by decide +kernel
theorem dX5_middleY_22 : decode cX5_middleY 22 = .ok (.getfield 89, 3) := by decide +kernel
theorem dX5_middleY_25 : decode cX5_middleY 25 = .ok (.iadd, 1) := by decide +kernel
theorem dX5_middleY_26 : decode cX5_middleY 26 = .ok (.aload_n 2, 1) := by decide +kernel
theorem dX5_middleY_27 : decode cX5_middleY 27 = .ok (.getfield 92, 3) := by decide +kernel
theorem dX5_middleY_30 : decode cX5_middleY 30 = .ok (.iadd, 1) := by decide +kernel
theorem dX5_middleY_31 : decode cX5_middleY 31 = .ok (.iconst 2, 1) := by decide +kernel
theorem dX5_middleY_32 : decode cX5_middleY 32 = .ok (.invokestatic 80, 3) := by decide +kernel
theorem dX5_middleY_35 : decode cX5_middleY 35 = .ok (.ireturn, 1) := by decide +kernel
theorem dX5_shareIfMoved_0 : decode cX5_shareIfMoved 0 = .ok (.aload_n 0, 1) := by decide +kernel
theorem dX5_shareIfMoved_1 : decode cX5_shareIfMoved 1 = .ok (.getfield 39, 3) := by decide +kernel
theorem dX5_shareIfMoved_4 : decode cX5_shareIfMoved 4 = .ok (.getfield 49, 3) := by decide +kernel
theorem dX5_shareIfMoved_7 : decode cX5_shareIfMoved 7 = .ok (.iload_n 1, 1) := by decide +kernel
theorem dX5_shareIfMoved_8 : decode cX5_shareIfMoved 8 = .ok (.aaload, 1) := by decide +kernel
theorem dX5_shareIfMoved_9 : decode cX5_shareIfMoved 9 = .ok (.astore 5, 2) := by decide +kernel
theorem dX5_shareIfMoved_11 : decode cX5_shareIfMoved 11 = .ok (.aload_n 0, 1) := by decide +kernel
theorem dX5_shareIfMoved_12 : decode cX5_shareIfMoved 12 = .ok (.getfield 39, 3) := by decide +kernel
theorem dX5_shareIfMoved_15 : decode cX5_shareIfMoved 15 = .ok (.getfield 49, 3) := by decide +kernel
theorem dX5_shareIfMoved_18 : decode cX5_shareIfMoved 18 = .ok (.iload_n 2, 1) := by decide +kernel
theorem dX5_shareIfMoved_19 : decode cX5_shareIfMoved 19 = .ok (.aaload, 1) := by decide +kernel
theorem dX5_shareIfMoved_20 : decode cX5_shareIfMoved 20 = .ok (.astore 6, 2) := by decide +kernel
theorem dX5_shareIfMoved_22 : decode cX5_shareIfMoved 22 = .ok (.aload_n 0, 1) := by decide +kernel
theorem dX5_shareIfMoved_23 : decode cX5_shareIfMoved 23 = .ok (.getfield 11, 3) := by decide +kernel
theorem dX5_shareIfMoved_26 : decode cX5_shareIfMoved 26 = .ok (.iload_n 1, 1) := by decide +kernel
theorem dX5_shareIfMoved_27 : decode cX5_shareIfMoved 27 = .ok (.aaload, 1) := by decide +kernel
theorem dX5_shareIfMoved_28 : decode cX5_shareIfMoved 28 = .ok (.aload_n 0, 1) := by decide +kernel
theorem dX5_shareIfMoved_29 : decode cX5_shareIfMoved 29 = .ok (.getfield 11, 3) := by decide +kernel
theorem dX5_shareIfMoved_32 : decode cX5_shareIfMoved 32 = .ok (.iload_n 2, 1) := by decide +kernel
theorem dX5_shareIfMoved_33 : decode cX5_shareIfMoved 33 = .ok (.aaload, 1) := by decide +kernel
theorem dX5_shareIfMoved_34 : decode cX5_shareIfMoved 34 = .ok (.aload 6, 2) := by decide +kernel
theorem dX5_shareIfMoved_36 : decode cX5_shareIfMoved 36 = .ok (.getfield 71, 3) := by decide +kernel
theorem dX5_shareIfMoved_39 : decode cX5_shareIfMoved 39 = .ok (.aload 5, 2) := by decide +kernel
theorem dX5_shareIfMoved_41 : decode cX5_shareIfMoved 41 = .ok (.getfield 71, 3) := by decide +kernel
theorem dX5_shareIfMoved_44 : decode cX5_shareIfMoved 44 = .ok (.isub, 1) := by decide +kernel
theorem dX5_shareIfMoved_45 : decode cX5_shareIfMoved 45 = .ok (.iload_n 3, 1) := by decide +kernel
theorem dX5_shareIfMoved_46 : decode cX5_shareIfMoved 46 = .ok (.isub, 1) := by decide +kernel
theorem dX5_shareIfMoved_47 : decode cX5_shareIfMoved 47 = .ok (.aload 6, 2) := by decide +kernel
theorem dX5_shareIfMoved_49 : decode cX5_shareIfMoved 49 = .ok (.getfield 86, 3) := by decide +kernel
theorem dX5_shareIfMoved_52 : decode cX5_shareIfMoved 52 = .ok (.aload 5, 2) := by decide +kernel
theorem dX5_shareIfMoved_54 : decode cX5_shareIfMoved 54 = .ok (.getfield 86, 3) := by decide +kernel
theorem dX5_shareIfMoved_57 : decode cX5_shareIfMoved 57 = .ok (.isub, 1) := by decide +kernel
theorem dX5_shareIfMoved_58 : decode cX5_shareIfMoved 58 = .ok (.iload 4, 2) := by decide +kernel
theorem dX5_shareIfMoved_60 : decode cX5_shareIfMoved 60 = .ok (.isub, 1) := by decide +kernel
theorem dX5_shareIfMoved_61 : decode cX5_shareIfMoved 61 = .ok (.invokestatic 117, 3) := by decide +kernel
theorem dX5_shareIfMoved_64 : decode cX5_shareIfMoved 64 = .ok (.ireturn, 1) := by decide +kernel
theorem dX5_sharedIfMoved_0 : decode cX5_sharedIfMoved 0 = .ok (.aload_n 0, 1) := by decide +kernel
theorem dX5_sharedIfMoved_1 : decode cX5_sharedIfMoved 1 = .ok (.getfield 39, 3) := by decide +kernel
theorem dX5_sharedIfMoved_4 : decode cX5_sharedIfMoved 4 = .ok (.getfield 49, 3) := by decide +kernel
theorem dX5_sharedIfMoved_7 : decode cX5_sharedIfMoved 7 = .ok (.iload_n 1, 1) := by decide +kernel
theorem dX5_sharedIfMoved_8 : decode cX5_sharedIfMoved 8 = .ok (.aaload, 1) := by decide +kernel
theorem dX5_sharedIfMoved_9 : decode cX5_sharedIfMoved 9 = .ok (.astore 5, 2) := by decide +kernel
theorem dX5_sharedIfMoved_11 : decode cX5_sharedIfMoved 11 = .ok (.aload_n 0, 1) := by decide +kernel
theorem dX5_sharedIfMoved_12 : decode cX5_sharedIfMoved 12 = .ok (.getfield 39, 3) := by decide +kernel
theorem dX5_sharedIfMoved_15 : decode cX5_sharedIfMoved 15 = .ok (.getfield 49, 3) := by decide +kernel
theorem dX5_sharedIfMoved_18 : decode cX5_sharedIfMoved 18 = .ok (.iload_n 2, 1) := by decide +kernel
theorem dX5_sharedIfMoved_19 : decode cX5_sharedIfMoved 19 = .ok (.aaload, 1) := by decide +kernel
theorem dX5_sharedIfMoved_20 : decode cX5_sharedIfMoved 20 = .ok (.astore 6, 2) := by decide +kernel
theorem dX5_sharedIfMoved_22 : decode cX5_sharedIfMoved 22 = .ok (.aload_n 0, 1) := by decide +kernel
theorem dX5_sharedIfMoved_23 : decode cX5_sharedIfMoved 23 = .ok (.getfield 11, 3) := by decide +kernel
theorem dX5_sharedIfMoved_26 : decode cX5_sharedIfMoved 26 = .ok (.iload_n 1, 1) := by decide +kernel
theorem dX5_sharedIfMoved_27 : decode cX5_sharedIfMoved 27 = .ok (.aaload, 1) := by decide +kernel
theorem dX5_sharedIfMoved_28 : decode cX5_sharedIfMoved 28 = .ok (.aload_n 0, 1) := by decide +kernel
theorem dX5_sharedIfMoved_29 : decode cX5_sharedIfMoved 29 = .ok (.getfield 11, 3) := by decide +kernel
theorem dX5_sharedIfMoved_32 : decode cX5_sharedIfMoved 32 = .ok (.iload_n 2, 1) := by decide +kernel
theorem dX5_sharedIfMoved_33 : decode cX5_sharedIfMoved 33 = .ok (.aaload, 1) := by decide +kernel
theorem dX5_sharedIfMoved_34 : decode cX5_sharedIfMoved 34 = .ok (.aload 6, 2) := by decide +kernel
theorem dX5_sharedIfMoved_36 : decode cX5_sharedIfMoved 36 = .ok (.getfield 71, 3) := by decide +kernel
theorem dX5_sharedIfMoved_39 : decode cX5_sharedIfMoved 39 = .ok (.aload 5, 2) := by decide +kernel
theorem dX5_sharedIfMoved_41 : decode cX5_sharedIfMoved 41 = .ok (.getfield 71, 3) := by decide +kernel
theorem dX5_sharedIfMoved_44 : decode cX5_sharedIfMoved 44 = .ok (.isub, 1) := by decide +kernel
theorem dX5_sharedIfMoved_45 : decode cX5_sharedIfMoved 45 = .ok (.iload_n 3, 1) := by decide +kernel
theorem dX5_sharedIfMoved_46 : decode cX5_sharedIfMoved 46 = .ok (.isub, 1) := by decide +kernel
theorem dX5_sharedIfMoved_47 : decode cX5_sharedIfMoved 47 = .ok (.aload 6, 2) := by decide +kernel
theorem dX5_sharedIfMoved_49 : decode cX5_sharedIfMoved 49 = .ok (.getfield 86, 3) := by decide +kernel
theorem dX5_sharedIfMoved_52 : decode cX5_sharedIfMoved 52 = .ok (.aload 5, 2) := by decide +kernel
theorem dX5_sharedIfMoved_54 : decode cX5_sharedIfMoved 54 = .ok (.getfield 86, 3) := by decide +kernel
theorem dX5_sharedIfMoved_57 : decode cX5_sharedIfMoved 57 = .ok (.isub, 1) := by decide +kernel
theorem dX5_sharedIfMoved_58 : decode cX5_sharedIfMoved 58 = .ok (.iload 4, 2) := by decide +kernel
theorem dX5_sharedIfMoved_60 : decode cX5_sharedIfMoved 60 = .ok (.isub, 1) := by decide +kernel
theorem dX5_sharedIfMoved_61 : decode cX5_sharedIfMoved 61 = .ok (.invokestatic 113, 3) := by decide +kernel
theorem dX5_sharedIfMoved_64 : decode cX5_sharedIfMoved 64 = .ok (.ireturn, 1) := by decide +kernel
theorem dX5_stoppersAhead_0 : decode cX5_stoppersAhead 0 = .ok (.iconst 0, 1) := by decide +kernel
theorem dX5_stoppersAhead_1 : decode cX5_stoppersAhead 1 = .ok (.istore 4, 2) := by decide +kernel
theorem dX5_stoppersAhead_3 : decode cX5_stoppersAhead 3 = .ok (.iconst 0, 1) := by decide +kernel
theorem dX5_stoppersAhead_4 : decode cX5_stoppersAhead 4 = .ok (.istore 5, 2) := by decide +kernel
theorem dX5_stoppersAhead_6 : decode cX5_stoppersAhead 6 = .ok (.iload 5, 2) := by decide +kernel
theorem dX5_stoppersAhead_8 : decode cX5_stoppersAhead 8 = .ok (.aload_n 0, 1) := by decide +kernel
theorem dX5_stoppersAhead_9 : decode cX5_stoppersAhead 9 = .ok (.getfield 39, 3) := by decide +kernel
theorem dX5_stoppersAhead_12 : decode cX5_stoppersAhead 12 = .ok (.getfield 44, 3) := by decide +kernel
theorem dX5_stoppersAhead_15 : decode cX5_stoppersAhead 15 = .ok (.if_icmp .ge 58, 3) := by decide +kernel
theorem dX5_stoppersAhead_18 : decode cX5_stoppersAhead 18 = .ok (.iload 5, 2) := by decide +kernel
theorem dX5_stoppersAhead_20 : decode cX5_stoppersAhead 20 = .ok (.iload_n 1, 1) := by decide +kernel
theorem dX5_stoppersAhead_21 : decode cX5_stoppersAhead 21 = .ok (.if_icmp .eq 46, 3) := by decide +kernel
theorem dX5_stoppersAhead_24 : decode cX5_stoppersAhead 24 = .ok (.aload_n 0, 1) := by decide +kernel
theorem dX5_stoppersAhead_25 : decode cX5_stoppersAhead 25 = .ok (.iload_n 1, 1) := by decide +kernel
theorem dX5_stoppersAhead_26 : decode cX5_stoppersAhead 26 = .ok (.iload 5, 2) := by decide +kernel
theorem dX5_stoppersAhead_28 : decode cX5_stoppersAhead 28 = .ok (.invokevirtual 120, 3) := by decide +kernel
theorem dX5_stoppersAhead_31 : decode cX5_stoppersAhead 31 = .ok (.ifCond .eq 36, 3) := by decide +kernel
theorem dX5_stoppersAhead_34 : decode cX5_stoppersAhead 34 = .ok (.aload_n 0, 1) := by decide +kernel
theorem dX5_stoppersAhead_35 : decode cX5_stoppersAhead 35 = .ok (.iload_n 1, 1) := by decide +kernel
theorem dX5_stoppersAhead_36 : decode cX5_stoppersAhead 36 = .ok (.iload 5, 2) := by decide +kernel
theorem dX5_stoppersAhead_38 : decode cX5_stoppersAhead 38 = .ok (.iload_n 2, 1) := by decide +kernel
theorem dX5_stoppersAhead_39 : decode cX5_stoppersAhead 39 = .ok (.iload_n 3, 1) := by decide +kernel
theorem dX5_stoppersAhead_40 : decode cX5_stoppersAhead 40 = .ok (.invokevirtual 144, 3) := by decide +kernel
theorem dX5_stoppersAhead_43 : decode cX5_stoppersAhead 43 = .ok (.ifCond .eq 24, 3) := by decide +kernel
theorem dX5_stoppersAhead_46 : decode cX5_stoppersAhead 46 = .ok (.aload_n 0, 1) := by decide +kernel
theorem dX5_stoppersAhead_47 : decode cX5_stoppersAhead 47 = .ok (.iload_n 1, 1) := by decide +kernel
theorem dX5_stoppersAhead_48 : decode cX5_stoppersAhead 48 = .ok (.iload 5, 2) := by decide +kernel
theorem dX5_stoppersAhead_50 : decode cX5_stoppersAhead 50 = .ok (.iconst 0, 1) := by decide +kernel
theorem dX5_stoppersAhead_51 : decode cX5_stoppersAhead 51 = .ok (.iconst 0, 1) := by decide +kernel
theorem dX5_stoppersAhead_52 : decode cX5_stoppersAhead 52 = .ok (.invokevirtual 123, 3) := by decide +kernel
theorem dX5_stoppersAhead_55 : decode cX5_stoppersAhead 55 = .ok (.ifCond .ne 12, 3) := by decide +kernel
theorem dX5_stoppersAhead_58 : decode cX5_stoppersAhead 58 = .ok (.iload 4, 2) := by decide +kernel
theorem dX5_stoppersAhead_60 : decode cX5_stoppersAhead 60 = .ok (.iconst 1, 1) := by decide +kernel
theorem dX5_stoppersAhead_61 : decode cX5_stoppersAhead 61 = .ok (.iload 5, 2) := by decide +kernel
theorem dX5_stoppersAhead_63 : decode cX5_stoppersAhead 63 = .ok (.ishl, 1) := by decide +kernel
theorem dX5_stoppersAhead_64 : decode cX5_stoppersAhead 64 = .ok (.ior, 1) := by decide +kernel
theorem dX5_stoppersAhead_65 : decode cX5_stoppersAhead 65 = .ok (.istore 4, 2) := by decide +kernel
theorem dX5_stoppersAhead_67 : decode cX5_stoppersAhead 67 = .ok (.iinc 5 1, 3) := by decide +kernel
theorem dX5_stoppersAhead_70 : decode cX5_stoppersAhead 70 = .ok (.goto (-64), 3) := by decide +kernel
theorem dX5_stoppersAhead_73 : decode cX5_stoppersAhead 73 = .ok (.iload 4, 2) := by decide +kernel
theorem dX5_stoppersAhead_75 : decode cX5_stoppersAhead 75 = .ok (.ireturn, 1) := by decide +kernel
theorem dX5_thirdCovers_0 : decode cX5_thirdCovers 0 = .ok (.iconst 0, 1) := by decide +kernel
theorem dX5_thirdCovers_1 : decode cX5_thirdCovers 1 = .ok (.istore 5, 2) := by decide +kernel
theorem dX5_thirdCovers_3 : decode cX5_thirdCovers 3 = .ok (.iload 5, 2) := by decide +kernel
theorem dX5_thirdCovers_5 : decode cX5_thirdCovers 5 = .ok (.aload_n 0, 1) := by decide +kernel
theorem dX5_thirdCovers_6 : decode cX5_thirdCovers 6 = .ok (.getfield 39, 3) := by decide +kernel
theorem dX5_thirdCovers_9 : decode cX5_thirdCovers 9 = .ok (.getfield 44, 3) := by decide +kernel
theorem dX5_thirdCovers_12 : decode cX5_thirdCovers 12 = .ok (.if_icmp .ge 35, 3) := by decide +kernel
theorem dX5_thirdCovers_15 : decode cX5_thirdCovers 15 = .ok (.iload 5, 2) := by decide +kernel
theorem dX5_thirdCovers_17 : decode cX5_thirdCovers 17 = .ok (.iload_n 1, 1) := by decide +kernel
theorem dX5_thirdCovers_18 : decode cX5_thirdCovers 18 = .ok (.if_icmp .eq 23, 3) := by decide +kernel
theorem dX5_thirdCovers_21 : decode cX5_thirdCovers 21 = .ok (.iload 5, 2) := by decide +kernel
theorem dX5_thirdCovers_23 : decode cX5_thirdCovers 23 = .ok (.iload_n 2, 1) := by decide +kernel
theorem dX5_thirdCovers_24 : decode cX5_thirdCovers 24 = .ok (.if_icmp .eq 17, 3) := by decide +kernel
theorem dX5_thirdCovers_27 : decode cX5_thirdCovers 27 = .ok (.aload_n 0, 1) := by decide +kernel
theorem dX5_thirdCovers_28 : decode cX5_thirdCovers 28 = .ok (.iload 5, 2) := by decide +kernel
theorem dX5_thirdCovers_30 : decode cX5_thirdCovers 30 = .ok (.iload_n 3, 1) := by decide +kernel
theorem dX5_thirdCovers_31 : decode cX5_thirdCovers 31 = .ok (.iload 4, 2) := by decide +kernel
theorem dX5_thirdCovers_33 : decode cX5_thirdCovers 33 = .ok (.invokevirtual 99, 3) := by decide +kernel
theorem dX5_thirdCovers_36 : decode cX5_thirdCovers 36 = .ok (.ifCond .eq 5, 3) := by decide +kernel
theorem dX5_thirdCovers_39 : decode cX5_thirdCovers 39 = .ok (.iconst 1, 1) := by decide +kernel
theorem dX5_thirdCovers_40 : decode cX5_thirdCovers 40 = .ok (.ireturn, 1) := by decide +kernel
theorem dX5_thirdCovers_41 : decode cX5_thirdCovers 41 = .ok (.iinc 5 1, 3) := by decide +kernel
theorem dX5_thirdCovers_44 : decode cX5_thirdCovers 44 = .ok (.goto (-41), 3) := by decide +kernel
theorem dX5_thirdCovers_47 : decode cX5_thirdCovers 47 = .ok (.iconst 0, 1) := by decide +kernel
theorem dX5_thirdCovers_48 : decode cX5_thirdCovers 48 = .ok (.ireturn, 1) := by decide +kernel
theorem dX5_touchesIfMoved_0 : decode cX5_touchesIfMoved 0 = .ok (.aload_n 0, 1) := by decide +kernel
theorem dX5_touchesIfMoved_1 : decode cX5_touchesIfMoved 1 = .ok (.iload_n 1, 1) := by decide +kernel
theorem dX5_touchesIfMoved_2 : decode cX5_touchesIfMoved 2 = .ok (.iload_n 2, 1) := by decide +kernel
theorem dX5_touchesIfMoved_3 : decode cX5_touchesIfMoved 3 = .ok (.invokevirtual 120, 3) := by decide +kernel
theorem dX5_touchesIfMoved_6 : decode cX5_touchesIfMoved 6 = .ok (.ifCond .eq 19, 3) := by decide +kernel
theorem dX5_touchesIfMoved_9 : decode cX5_touchesIfMoved 9 = .ok (.aload_n 0, 1) := by decide +kernel
theorem dX5_touchesIfMoved_10 : decode cX5_touchesIfMoved 10 = .ok (.iload_n 1, 1) := by decide +kernel
theorem dX5_touchesIfMoved_11 : decode cX5_touchesIfMoved 11 = .ok (.iload_n 2, 1) := by decide +kernel
theorem dX5_touchesIfMoved_12 : decode cX5_touchesIfMoved 12 = .ok (.iload_n 3, 1) := by decide +kernel
theorem dX5_touchesIfMoved_13 : decode cX5_touchesIfMoved 13 = .ok (.iload 4, 2) := by decide +kernel
theorem dX5_touchesIfMoved_15 : decode cX5_touchesIfMoved 15 = .ok (.invokevirtual 123, 3) := by decide +kernel
theorem dX5_touchesIfMoved_18 : decode cX5_touchesIfMoved 18 = .ok (.ifCond .eq 7, 3) := by decide +kernel
theorem dX5_touchesIfMoved_21 : decode cX5_touchesIfMoved 21 = .ok (.iconst 1, 1) := by decide +kernel
theorem dX5_touchesIfMoved_22 : decode cX5_touchesIfMoved 22 = .ok (.goto 4, 3) := by decide +kernel
theorem dX5_touchesIfMoved_25 : decode cX5_touchesIfMoved 25 = .ok (.iconst 0, 1) := by decide +kernel
theorem dX5_touchesIfMoved_26 : decode cX5_touchesIfMoved 26 = .ok (.ireturn, 1) := by decide +kernel
theorem dX5_wayPasses_0 : decode cX5_wayPasses 0 = .ok (.aload_n 0, 1) := by decide +kernel
theorem dX5_wayPasses_1 : decode cX5_wayPasses 1 = .ok (.getfield 11, 3) := by decide +kernel
theorem dX5_wayPasses_4 : decode cX5_wayPasses 4 = .ok (.iload_n 1, 1) := by decide +kernel
theorem dX5_wayPasses_5 : decode cX5_wayPasses 5 = .ok (.aaload, 1) := by decide +kernel
theorem dX5_wayPasses_6 : decode cX5_wayPasses 6 = .ok (.astore 5, 2) := by decide +kernel
theorem dX5_wayPasses_8 : decode cX5_wayPasses 8 = .ok (.aload_n 0, 1) := by decide +kernel
theorem dX5_wayPasses_9 : decode cX5_wayPasses 9 = .ok (.getfield 11, 3) := by decide +kernel
theorem dX5_wayPasses_12 : decode cX5_wayPasses 12 = .ok (.iload_n 2, 1) := by decide +kernel
theorem dX5_wayPasses_13 : decode cX5_wayPasses 13 = .ok (.aaload, 1) := by decide +kernel
theorem dX5_wayPasses_14 : decode cX5_wayPasses 14 = .ok (.astore 6, 2) := by decide +kernel
theorem dX5_wayPasses_16 : decode cX5_wayPasses 16 = .ok (.aload_n 0, 1) := by decide +kernel
theorem dX5_wayPasses_17 : decode cX5_wayPasses 17 = .ok (.getfield 39, 3) := by decide +kernel
theorem dX5_wayPasses_20 : decode cX5_wayPasses 20 = .ok (.getfield 49, 3) := by decide +kernel
theorem dX5_wayPasses_23 : decode cX5_wayPasses 23 = .ok (.iload_n 2, 1) := by decide +kernel
theorem dX5_wayPasses_24 : decode cX5_wayPasses 24 = .ok (.aaload, 1) := by decide +kernel
theorem dX5_wayPasses_25 : decode cX5_wayPasses 25 = .ok (.getfield 71, 3) := by decide +kernel
theorem dX5_wayPasses_28 : decode cX5_wayPasses 28 = .ok (.aload_n 0, 1) := by decide +kernel
theorem dX5_wayPasses_29 : decode cX5_wayPasses 29 = .ok (.getfield 39, 3) := by decide +kernel
theorem dX5_wayPasses_32 : decode cX5_wayPasses 32 = .ok (.getfield 49, 3) := by decide +kernel
theorem dX5_wayPasses_35 : decode cX5_wayPasses 35 = .ok (.iload_n 1, 1) := by decide +kernel
theorem dX5_wayPasses_36 : decode cX5_wayPasses 36 = .ok (.aaload, 1) := by decide +kernel
theorem dX5_wayPasses_37 : decode cX5_wayPasses 37 = .ok (.getfield 71, 3) := by decide +kernel
theorem dX5_wayPasses_40 : decode cX5_wayPasses 40 = .ok (.isub, 1) := by decide +kernel
theorem dX5_wayPasses_41 : decode cX5_wayPasses 41 = .ok (.istore 7, 2) := by decide +kernel
theorem dX5_wayPasses_43 : decode cX5_wayPasses 43 = .ok (.aload_n 0, 1) := by decide +kernel
theorem dX5_wayPasses_44 : decode cX5_wayPasses 44 = .ok (.getfield 39, 3) := by decide +kernel
theorem dX5_wayPasses_47 : decode cX5_wayPasses 47 = .ok (.getfield 49, 3) := by decide +kernel
theorem dX5_wayPasses_50 : decode cX5_wayPasses 50 = .ok (.iload_n 2, 1) := by decide +kernel
theorem dX5_wayPasses_51 : decode cX5_wayPasses 51 = .ok (.aaload, 1) := by decide +kernel
theorem dX5_wayPasses_52 : decode cX5_wayPasses 52 = .ok (.getfield 86, 3) := by decide +kernel
theorem dX5_wayPasses_55 : decode cX5_wayPasses 55 = .ok (.aload_n 0, 1) := by decide +kernel
theorem dX5_wayPasses_56 : decode cX5_wayPasses 56 = .ok (.getfield 39, 3) := by decide +kernel
theorem dX5_wayPasses_59 : decode cX5_wayPasses 59 = .ok (.getfield 49, 3) := by decide +kernel
theorem dX5_wayPasses_62 : decode cX5_wayPasses 62 = .ok (.iload_n 1, 1) := by decide +kernel
theorem dX5_wayPasses_63 : decode cX5_wayPasses 63 = .ok (.aaload, 1) := by decide +kernel
theorem dX5_wayPasses_64 : decode cX5_wayPasses 64 = .ok (.getfield 86, 3) := by decide +kernel
theorem dX5_wayPasses_67 : decode cX5_wayPasses 67 = .ok (.isub, 1) := by decide +kernel
theorem dX5_wayPasses_68 : decode cX5_wayPasses 68 = .ok (.istore 8, 2) := by decide +kernel
theorem dX5_wayPasses_70 : decode cX5_wayPasses 70 = .ok (.aload 5, 2) := by decide +kernel
theorem dX5_wayPasses_72 : decode cX5_wayPasses 72 = .ok (.getfield 68, 3) := by decide +kernel
theorem dX5_wayPasses_75 : decode cX5_wayPasses 75 = .ok (.ifCond .le 105, 3) := by decide +kernel
theorem dX5_wayPasses_78 : decode cX5_wayPasses 78 = .ok (.aload 6, 2) := by decide +kernel
theorem dX5_wayPasses_80 : decode cX5_wayPasses 80 = .ok (.getfield 68, 3) := by decide +kernel
theorem dX5_wayPasses_83 : decode cX5_wayPasses 83 = .ok (.ifCond .le 97, 3) := by decide +kernel
theorem dX5_wayPasses_86 : decode cX5_wayPasses 86 = .ok (.aload 5, 2) := by decide +kernel
theorem dX5_wayPasses_88 : decode cX5_wayPasses 88 = .ok (.getfield 74, 3) := by decide +kernel
theorem dX5_wayPasses_91 : decode cX5_wayPasses 91 = .ok (.iload_n 3, 1) := by decide +kernel
theorem dX5_wayPasses_92 : decode cX5_wayPasses 92 = .ok (.iconst 0, 1) := by decide +kernel
theorem dX5_wayPasses_93 : decode cX5_wayPasses 93 = .ok (.invokestatic 147, 3) := by decide +kernel
theorem dX5_wayPasses_96 : decode cX5_wayPasses 96 = .ok (.iadd, 1) := by decide +kernel
theorem dX5_wayPasses_97 : decode cX5_wayPasses 97 = .ok (.aload 6, 2) := by decide +kernel
theorem dX5_wayPasses_99 : decode cX5_wayPasses 99 = .ok (.getfield 77, 3) := by decide +kernel
theorem dX5_wayPasses_102 : decode cX5_wayPasses 102 = .ok (.iload 7, 2) := by decide +kernel
theorem dX5_wayPasses_104 : decode cX5_wayPasses 104 = .ok (.iadd, 1) := by decide +kernel
theorem dX5_wayPasses_105 : decode cX5_wayPasses 105 = .ok (.if_icmp .gt 75, 3) := by decide +kernel
theorem dX5_wayPasses_108 : decode cX5_wayPasses 108 = .ok (.aload 6, 2) := by decide +kernel
theorem dX5_wayPasses_110 : decode cX5_wayPasses 110 = .ok (.getfield 74, 3) := by decide +kernel
theorem dX5_wayPasses_113 : decode cX5_wayPasses 113 = .ok (.iload 7, 2) := by decide +kernel
theorem dX5_wayPasses_115 : decode cX5_wayPasses 115 = .ok (.iadd, 1) := by decide +kernel
theorem dX5_wayPasses_116 : decode cX5_wayPasses 116 = .ok (.aload 5, 2) := by decide +kernel
theorem dX5_wayPasses_118 : decode cX5_wayPasses 118 = .ok (.getfield 77, 3) := by decide +kernel
theorem dX5_wayPasses_121 : decode cX5_wayPasses 121 = .ok (.iload_n 3, 1) := by decide +kernel
theorem dX5_wayPasses_122 : decode cX5_wayPasses 122 = .ok (.iconst 0, 1) := by decide +kernel
theorem dX5_wayPasses_123 : decode cX5_wayPasses 123 = .ok (.invokestatic 150, 3) := by decide +kernel
theorem dX5_wayPasses_126 : decode cX5_wayPasses 126 = .ok (.iadd, 1) := by decide +kernel
theorem dX5_wayPasses_127 : decode cX5_wayPasses 127 = .ok (.if_icmp .gt 53, 3) := by decide +kernel
theorem dX5_wayPasses_130 : decode cX5_wayPasses 130 = .ok (.aload 5, 2) := by decide +kernel
theorem dX5_wayPasses_132 : decode cX5_wayPasses 132 = .ok (.getfield 89, 3) := by decide +kernel
theorem dX5_wayPasses_135 : decode cX5_wayPasses 135 = .ok (.iload 4, 2) := by decide +kernel
theorem dX5_wayPasses_137 : decode cX5_wayPasses 137 = .ok (.iconst 0, 1) := by decide +kernel
theorem dX5_wayPasses_138 : decode cX5_wayPasses 138 = .ok (.invokestatic 147, 3) := by decide +kernel
theorem dX5_wayPasses_141 : decode cX5_wayPasses 141 = .ok (.iadd, 1) := by decide +kernel
theorem dX5_wayPasses_142 : decode cX5_wayPasses 142 = .ok (.aload 6, 2) := by decide +kernel
theorem dX5_wayPasses_144 : decode cX5_wayPasses 144 = .ok (.getfield 92, 3) := by decide +kernel
theorem dX5_wayPasses_147 : decode cX5_wayPasses 147 = .ok (.iload 8, 2) := by decide +kernel
theorem dX5_wayPasses_149 : decode cX5_wayPasses 149 = .ok (.iadd, 1) := by decide +kernel
theorem dX5_wayPasses_150 : decode cX5_wayPasses 150 = .ok (.if_icmp .gt 30, 3) := by decide +kernel
theorem dX5_wayPasses_153 : decode cX5_wayPasses 153 = .ok (.aload 6, 2) := by decide +kernel
theorem dX5_wayPasses_155 : decode cX5_wayPasses 155 = .ok (.getfield 89, 3) := by decide +kernel
theorem dX5_wayPasses_158 : decode cX5_wayPasses 158 = .ok (.iload 8, 2) := by decide +kernel
theorem dX5_wayPasses_160 : decode cX5_wayPasses 160 = .ok (.iadd, 1) := by decide +kernel
theorem dX5_wayPasses_161 : decode cX5_wayPasses 161 = .ok (.aload 5, 2) := by decide +kernel
theorem dX5_wayPasses_163 : decode cX5_wayPasses 163 = .ok (.getfield 92, 3) := by decide +kernel
theorem dX5_wayPasses_166 : decode cX5_wayPasses 166 = .ok (.iload 4, 2) := by decide +kernel
theorem dX5_wayPasses_168 : decode cX5_wayPasses 168 = .ok (.iconst 0, 1) := by decide +kernel
theorem dX5_wayPasses_169 : decode cX5_wayPasses 169 = .ok (.invokestatic 150, 3) := by decide +kernel
theorem dX5_wayPasses_172 : decode cX5_wayPasses 172 = .ok (.iadd, 1) := by decide +kernel
theorem dX5_wayPasses_173 : decode cX5_wayPasses 173 = .ok (.if_icmp .gt 7, 3) := by decide +kernel
theorem dX5_wayPasses_176 : decode cX5_wayPasses 176 = .ok (.iconst 1, 1) := by decide +kernel
theorem dX5_wayPasses_177 : decode cX5_wayPasses 177 = .ok (.goto 4, 3) := by decide +kernel
theorem dX5_wayPasses_180 : decode cX5_wayPasses 180 = .ok (.iconst 0, 1) := by decide +kernel
theorem dX5_wayPasses_181 : decode cX5_wayPasses 181 = .ok (.ireturn, 1) := by decide +kernel
set_option maxRecDepth 100000 in
theorem pq79 : Cond.initialized RX5 ∈ pw := pw_mem (i := 79) (by decide +kernel) rfl
set_option maxRecDepth 100000 in
theorem pq130 : Cond.fieldLink RX5 68 "MaskTouch$Mask" "total" "I" ∈ pw := pw_mem (i := 130) (by decide +kernel) rfl
set_option maxRecDepth 100000 in
theorem pq133 : Cond.fieldLink RX5 74 "MaskTouch$Mask" "left" "I" ∈ pw := pw_mem (i := 133) (by decide +kernel) rfl
set_option maxRecDepth 100000 in
theorem pq136 : Cond.fieldLink RX5 89 "MaskTouch$Mask" "top" "I" ∈ pw := pw_mem (i := 136) (by decide +kernel) rfl
set_option maxRecDepth 100000 in
theorem pq139 : Cond.fieldLink RX5 77 "MaskTouch$Mask" "right" "I" ∈ pw := pw_mem (i := 139) (by decide +kernel) rfl
set_option maxRecDepth 100000 in
theorem pq142 : Cond.fieldLink RX5 92 "MaskTouch$Mask" "bottom" "I" ∈ pw := pw_mem (i := 142) (by decide +kernel) rfl
set_option maxRecDepth 100000 in
theorem pq173 : Cond.fieldLink RX5 71 "MaskTouch$Body" "x" "I" ∈ pw := pw_mem (i := 173) (by decide +kernel) rfl
set_option maxRecDepth 100000 in
theorem pq176 : Cond.fieldLink RX5 86 "MaskTouch$Body" "y" "I" ∈ pw := pw_mem (i := 176) (by decide +kernel) rfl
set_option maxRecDepth 100000 in
theorem pq183 : Cond.fieldLink RX5 103 "MaskTouch$Body" "own" "I" ∈ pw := pw_mem (i := 183) (by decide +kernel) rfl
set_option maxRecDepth 100000 in
theorem pq187 : Cond.fieldLink RX5 106 "MaskTouch$Body" "sees" "I" ∈ pw := pw_mem (i := 187) (by decide +kernel) rfl
set_option maxRecDepth 100000 in
theorem pq218 : Cond.fieldLink RX5 49 "MaskTouch$Field" "bodies" "[LMaskTouch$Body;" ∈ pw := pw_mem (i := 218) (by decide +kernel) rfl
set_option maxRecDepth 100000 in
theorem pq225 : Cond.fieldLink RX5 44 "MaskTouch$Field" "bodyCount" "I" ∈ pw := pw_mem (i := 225) (by decide +kernel) rfl
set_option maxRecDepth 100000 in
theorem pq274 : Cond.fieldLink RX5 39 "MaskTouch$Scene" "field" "LMaskTouch$Field;" ∈ pw := pw_mem (i := 274) (by decide +kernel) rfl
set_option maxRecDepth 100000 in
theorem pq275 : Cond.fieldLink RX5 11 "MaskTouch$Scene" "shapes" "[LMaskTouch$Mask;" ∈ pw := pw_mem (i := 275) (by decide +kernel) rfl
set_option maxRecDepth 100000 in
theorem pq756 : Cond.methodLink RX5 120 yX5_mayTouch ∈ pw := pw_mem (i := 756) (by decide +kernel) rfl
set_option maxRecDepth 100000 in
theorem pq757 : Cond.instanceMethod yX5_mayTouch ∈ pw := pw_mem (i := 757) (by decide +kernel) rfl
set_option maxRecDepth 100000 in
theorem pq758 : Cond.selects RX5 yX5_mayTouch yX5_mayTouch ∈ pw := pw_mem (i := 758) (by decide +kernel) rfl
set_option maxRecDepth 100000 in
theorem pq759 : Cond.code yX5_mayTouch cX5_mayTouch 5 (some .boolean) ∈ pw := pw_mem (i := 759) (by rfl) rfl
set_option maxRecDepth 100000 in
theorem pq760 : Cond.methodLink RX5 144 yX5_wayPasses ∈ pw := pw_mem (i := 760) (by decide +kernel) rfl
set_option maxRecDepth 100000 in
theorem pq761 : Cond.instanceMethod yX5_wayPasses ∈ pw := pw_mem (i := 761) (by decide +kernel) rfl
set_option maxRecDepth 100000 in
theorem pq762 : Cond.selects RX5 yX5_wayPasses yX5_wayPasses ∈ pw := pw_mem (i := 762) (by decide +kernel) rfl
set_option maxRecDepth 100000 in
theorem pq763 : Cond.code yX5_wayPasses cX5_wayPasses 9 (some .boolean) ∈ pw := pw_mem (i := 763) (by rfl) rfl
set_option maxRecDepth 100000 in
theorem pq764 : Cond.methodLink RX5 147 Lib.Math.min.name ∈ pw := pw_mem (i := 764) (by decide +kernel) rfl
set_option maxRecDepth 100000 in
theorem pq765 : Cond.methodLink RX5 150 Lib.Math.max.name ∈ pw := pw_mem (i := 765) (by decide +kernel) rfl
set_option maxRecDepth 100000 in
theorem pq766 : Cond.methodLink RX5 123 yX5_shareIfMoved ∈ pw := pw_mem (i := 766) (by decide +kernel) rfl
set_option maxRecDepth 100000 in
theorem pq767 : Cond.instanceMethod yX5_shareIfMoved ∈ pw := pw_mem (i := 767) (by decide +kernel) rfl
set_option maxRecDepth 100000 in
theorem pq768 : Cond.selects RX5 yX5_shareIfMoved yX5_shareIfMoved ∈ pw := pw_mem (i := 768) (by decide +kernel) rfl
set_option maxRecDepth 100000 in
theorem pq769 : Cond.code yX5_shareIfMoved cX5_shareIfMoved 7 (some .boolean) ∈ pw := pw_mem (i := 769) (by rfl) rfl
set_option maxRecDepth 100000 in
theorem pq770 : Cond.methodLink RX5 117 yX3_shareAny ∈ pw := pw_mem (i := 770) (by decide +kernel) rfl
set_option maxRecDepth 100000 in
theorem pq771 : Cond.static yX3_shareAny ∈ pw := pw_mem (i := 771) (by decide +kernel) rfl
set_option maxRecDepth 100000 in
theorem pq772 : Cond.code yX3_shareAny cX3_shareAny 13 (some .boolean) ∈ pw := pw_mem (i := 772) (by rfl) rfl
set_option maxRecDepth 100000 in
theorem pq978 : Cond.methodLink RX5 113 yX3_shared ∈ pw := pw_mem (i := 978) (by decide +kernel) rfl
set_option maxRecDepth 100000 in
theorem pq979 : Cond.static yX3_shared ∈ pw := pw_mem (i := 979) (by decide +kernel) rfl
set_option maxRecDepth 100000 in
theorem pq980 : Cond.code yX3_shared cX3_shared 14 (some .int) ∈ pw := pw_mem (i := 980) (by rfl) rfl
set_option maxRecDepth 100000 in
theorem pq989 : Cond.methodLink RX5 109 yX3_boxesShare ∈ pw := pw_mem (i := 989) (by decide +kernel) rfl
set_option maxRecDepth 100000 in
theorem pq1020 : Cond.instanceMethod yX5_covers ∈ pw := pw_mem (i := 1020) (by decide +kernel) rfl
set_option maxRecDepth 100000 in
theorem pq1021 : Cond.selects RX5 yX5_covers yX5_covers ∈ pw := pw_mem (i := 1021) (by decide +kernel) rfl
set_option maxRecDepth 100000 in
theorem pq1022 : Cond.code yX5_covers cX5_covers 5 (some .boolean) ∈ pw := pw_mem (i := 1022) (by rfl) rfl
set_option maxRecDepth 100000 in
theorem pq1023 : Cond.methodLink RX5 95 yX3_holds ∈ pw := pw_mem (i := 1023) (by decide +kernel) rfl
set_option maxRecDepth 100000 in
theorem pq1085 : Cond.methodLink RX5 80 yJ9_floorDiv_7cf53 ∈ pw := pw_mem (i := 1085) (by decide +kernel) rfl
set_option maxRecDepth 100000 in
theorem pq1094 : Cond.methodLink RX5 99 yX5_covers ∈ pw := pw_mem (i := 1094) (by decide +kernel) rfl
set_option maxHeartbeats 4000000 in
set_option maxRecDepth 100000 in
theorem s_X5_hasDots (l : Launch) (dC : Nat → ClassId) (dI : Nat → Nat → Nat) (cs : Nat → ClassId) (L : List Nat) (K G : Nat → Nat) (Q : Nat → Nat → Option Nat) (hQ : Sv L K G Q) (x0 m0 : Nat) (tx : GT) (tm : GT × Int) (sz : Nat) (I : Nat → Nat → Int32) (J : Nat → Nat → Int64) (hI : Iv L K x0 m0 tx tm I) (p0 : Nat) (hLp0 : p0 ∈ L) (hKp0 : K p0 = 5) (p1 : Int32) (bp1 : (0) ≤ p1.toInt ∧ p1.toInt ≤ 9) : Met l yX5_hasDots (.code yX5_hasDots cX5_hasDots 2 (some .boolean) :: pw) ({ frames := 0, cells := 0, slots := 0, locals := 0 }) (sP (dC, dI) cs [.ref p0, .int p1] sz L K I J Q) (va_Qi (fun (r : Int32) (_ : Unit) => ((0) ≤ r.toInt ∧ r.toInt ≤ 1) ∧ (∀ c : Fx, okF c → cxF Q I J (nf Q p0) c → cxS Q I J p0 c → p1.toInt.toNat < (c.1 1).toInt.toNat → (¬ r.toInt = 0 ↔ ∃ x y, atD c p1.toInt.toNat x y = true))) (fun _ _ => True) (fun _ => False)) 0 0 (fun _ => False) := by
  refine Met.ofW (cc := cX5_hasDots) (maxL := 2) (ret := (some .boolean)) (by decide +kernel) rfl ?_
  intro p e s m args below meth c s₁ B hml hv
  obtain ⟨rfl, hsz, hP, hK, hD0, hN⟩ := hv
  have hx := B.exec
  have hb := B.bytes
  have hr := B.returns
  have hts := fun w (h : w ∈ pw) => atoms_spec (ws := Cond.code yX5_hasDots cX5_hasDots 2 (some .boolean) :: pw) B.pre w (List.mem_cons_of_mem _ h)
  have hown : s.vm.findClass RX5 = some m.cls := findClass_of_methodNamed B.named
  have hlocks := B.notSynchronized
  subst hsz
  have hBB : 999 ≤ tm.2 ∧ tm.2 ≤ 6000000 := hI.2.2.2.2.1
  have hD := hD0
  obtain ⟨H, hHe⟩ : ∃ H : Heap, H = s.heap := ⟨_, rfl⟩
  have hS : va_S (fun _ => False) s.heap H [] := by rw [hHe]; exact va_S.rf
  rw [← hHe] at hP
  have hl := lv_entry ([.ref p0, .int p1]) (n := 2) (Nat.le_of_ble_eq_true rfl)
  rw [lg_entry_eq]
  generalize (lg_sl ([.ref p0, .int p1]) ++ List.replicate (2 - (lg_sl ([.ref p0, .int p1])).length) Slot.unset).toArray = ls at hl ⊢
  have hl : lv_has ls 2 [(0, .ref p0), (1, .int p1)] := hl
  rw [← hHe]
  refine namedW (fun R Qz hR hQz => ?_)
  refine lv_aload_n hx hb dX5_hasDots_0 rfl (lv_at hl 0 rfl) ?_
  obtain ⟨y1, ey1, hLy1, hKy1, hGy1⟩ := oQ_5_1 (Sv_at hQ hLp0 hKp0)
  refine p_get (v := .ref y1) hx hb hts inX5 hown hK hP hLp0 hKp0 rfl rfl 1 (by decide) (hts _ pq275) (congrArg (fun q => some (va_rf q)) ey1) dX5_hasDots_1 ?_
  refine lv_iload_n hx hb dX5_hasDots_4 rfl (lv_at hl 1 rfl) ?_
  obtain ⟨y5, ey5, hLy5, hKy5, hGy5⟩ := (Sv_at hQ hLy1 hKy1).1 p1.toNatClampNeg (clamp_lt (n := 10) (in_of (by omega) (by omega)))
  have hjy5 : p1.toNatClampNeg < 10 := clamp_lt (i := p1) (n := 10) (in_of (by omega) (by omega))
  refine p_aaldR hx hb hK hP 5 hLy1 hKy1 rfl rfl (in_of (by omega) (by omega)) ey5 dX5_hasDots_5 ?_
  refine p_get hx hb hts inX3 hown hK hP hLy5 hKy5 rfl rfl 3 (by decide) (hts _ pq130) rfl dX5_hasDots_6 ?_
  refine lv_topi (fun z6 ez6 => ?_)
  refine lv_if_le (tgt := 16) hx hb dX5_hasDots_9 (by decide) (fun c9 => ?_) (fun c9 => ?_)
  · have t9 := tq_le (k := z6.toInt) (q := (0)) c9 rfl (by decide +kernel)
    refine lv_iconst (v := 0) hx hb dX5_hasDots_16 (by decide +kernel) ?_
    subst hR; subst hQz
    exact W.zret (v := 0) hx hb hr (by decide +kernel) (fun t ht hW => ⟨⟨0, (), rfl, ⟨⟨by decide +kernel, by decide +kernel⟩, (fun c ok h hs ha => by have m0 := (hs p1.toInt.toNat ha).2.2.2; rw [show sm Q p0 p1.toInt.toNat = y5 from sm_of ey1 ey5] at m0; have k := dots_m ok ha m0; have e6 : z6.toInt = (I y5 3).toInt := congrArg Int32.toInt ez6; rw [← e6] at k; exact ⟨fun q => absurd (by decide +kernel) q, fun q => absurd (k.mpr q) (by omega)⟩)⟩, trivial⟩, hS.F ht⟩) hS.2.2 dX5_hasDots_17
  · have t9 := tq_nle (k := z6.toInt) (q := (0)) c9 rfl (by decide +kernel)
    refine lv_iconst (v := 1) hx hb dX5_hasDots_12 (by decide +kernel) ?_
    refine lv_goto (tgt := 17) hx hb dX5_hasDots_13 (by decide) ?_
    subst hR; subst hQz
    exact W.zret (v := 1) hx hb hr (by decide +kernel) (fun t ht hW => ⟨⟨1, (), rfl, ⟨⟨by decide +kernel, by decide +kernel⟩, (fun c ok h hs ha => by have m0 := (hs p1.toInt.toNat ha).2.2.2; rw [show sm Q p0 p1.toInt.toNat = y5 from sm_of ey1 ey5] at m0; have k := dots_m ok ha m0; have e6 : z6.toInt = (I y5 3).toInt := congrArg Int32.toInt ez6; rw [← e6] at k; exact ⟨fun _ => k.mp (by omega), fun _ => by decide +kernel⟩)⟩, trivial⟩, hS.F ht⟩) hS.2.2 dX5_hasDots_17

set_option maxHeartbeats 4000000 in
set_option maxRecDepth 100000 in
theorem s_X5_middleX (l : Launch) (dC : Nat → ClassId) (dI : Nat → Nat → Nat) (cs : Nat → ClassId) (L : List Nat) (K G : Nat → Nat) (Q : Nat → Nat → Option Nat) (hQ : Sv L K G Q) (x0 m0 : Nat) (tx : GT) (tm : GT × Int) (sz : Nat) (I : Nat → Nat → Int32) (J : Nat → Nat → Int64) (hI : Iv L K x0 m0 tx tm I) (p0 : Nat) (hLp0 : p0 ∈ L) (hKp0 : K p0 = 5) (p1 : Int32) (bp1 : (0) ≤ p1.toInt ∧ p1.toInt ≤ 9) : Met l yX5_middleX (.code yX5_middleX cX5_middleX 3 (some .int) :: pw) ({ frames := 1, cells := 0, slots := 0, locals := 22 }) (sP (dC, dI) cs [.ref p0, .int p1] sz L K I J Q) (va_Qi (fun (r : Int32) (_ : Unit) => ((-6001000) ≤ r.toInt ∧ r.toInt ≤ 6001000) ∧ (∀ c : Fx, okF c → cxF Q I J (nf Q p0) c → cxS Q I J p0 c → p1.toInt.toNat < (c.1 1).toInt.toNat → ∀ e, exD (atD c p1.toInt.toNat) e → r.toInt = (e.1 + e.2.2.1) / 2)) (fun _ _ => True) (fun _ => False)) 0 0 (fun _ => False) := by
  refine Met.ofW (cc := cX5_middleX) (maxL := 3) (ret := (some .int)) (by decide +kernel) rfl ?_
  intro p e s m args below meth c s₁ B hml hv
  obtain ⟨rfl, hsz, hP, hK, hD0, hN⟩ := hv
  have hx := B.exec
  have hb := B.bytes
  have hr := B.returns
  have hts := fun w (h : w ∈ pw) => atoms_spec (ws := Cond.code yX5_middleX cX5_middleX 3 (some .int) :: pw) B.pre w (List.mem_cons_of_mem _ h)
  have hown : s.vm.findClass RX5 = some m.cls := findClass_of_methodNamed B.named
  have hlocks := B.notSynchronized
  subst hsz
  have hBB : 999 ≤ tm.2 ∧ tm.2 ≤ 6000000 := hI.2.2.2.2.1
  have hD := hD0
  obtain ⟨H, hHe⟩ : ∃ H : Heap, H = s.heap := ⟨_, rfl⟩
  have hS : va_S (fun _ => False) s.heap H [] := by rw [hHe]; exact va_S.rf
  rw [← hHe] at hP
  have hl := lv_entry ([.ref p0, .int p1]) (n := 3) (Nat.le_of_ble_eq_true rfl)
  rw [lg_entry_eq]
  generalize (lg_sl ([.ref p0, .int p1]) ++ List.replicate (3 - (lg_sl ([.ref p0, .int p1])).length) Slot.unset).toArray = ls at hl ⊢
  have hl : lv_has ls 3 [(0, .ref p0), (1, .int p1)] := hl
  rw [← hHe]
  refine namedW (fun R Qz hR hQz => ?_)
  refine lv_aload_n hx hb dX5_middleX_0 rfl (lv_at hl 0 rfl) ?_
  obtain ⟨y1, ey1, hLy1, hKy1, hGy1⟩ := oQ_5_1 (Sv_at hQ hLp0 hKp0)
  refine p_get (v := .ref y1) hx hb hts inX5 hown hK hP hLp0 hKp0 rfl rfl 1 (by decide) (hts _ pq275) (congrArg (fun q => some (va_rf q)) ey1) dX5_middleX_1 ?_
  refine lv_iload_n hx hb dX5_middleX_4 rfl (lv_at hl 1 rfl) ?_
  obtain ⟨y5, ey5, hLy5, hKy5, hGy5⟩ := (Sv_at hQ hLy1 hKy1).1 p1.toNatClampNeg (clamp_lt (n := 10) (in_of (by omega) (by omega)))
  have hjy5 : p1.toNatClampNeg < 10 := clamp_lt (i := p1) (n := 10) (in_of (by omega) (by omega))
  refine p_aaldR hx hb hK hP 5 hLy1 hKy1 rfl rfl (in_of (by omega) (by omega)) ey5 dX5_middleX_5 ?_
  refine lv_astore_n (lv' := [(2, .ref y5), (0, .ref p0), (1, .int p1)]) hx hb dX5_middleX_6 rfl hl (by decide) rfl (fun ls hl => ?_)
  refine lv_iconst (v := 2) hx hb dX5_middleX_7 (by decide +kernel) ?_
  refine lv_aload_n hx hb dX5_middleX_8 rfl (lv_at hl 1 rfl) ?_
  obtain ⟨y9, ey9, hLy9, hKy9, hGy9⟩ := oQ_5_0 (Sv_at hQ hLp0 hKp0)
  refine p_get (v := .ref y9) hx hb hts inX5 hown hK hP hLp0 hKp0 rfl rfl 0 (by decide) (hts _ pq274) (congrArg (fun q => some (va_rf q)) ey9) dX5_middleX_9 ?_
  obtain ⟨y12, ey12, hLy12, hKy12, hGy12⟩ := oQ_1_1 (Sv_at hQ hLy9 hKy9)
  refine p_get (v := .ref y12) hx hb hts inX1 hown hK hP hLy9 hKy9 rfl rfl 1 (by decide) (hts _ pq218) (congrArg (fun q => some (va_rf q)) ey12) dX5_middleX_12 ?_
  refine lv_iload_n hx hb dX5_middleX_15 rfl (lv_at hl 2 rfl) ?_
  obtain ⟨y16, ey16, hLy16, hKy16, hGy16⟩ := (Sv_at hQ hLy12 hKy12).1 p1.toNatClampNeg (clamp_lt (n := 10) (in_of (by omega) (by omega)))
  refine p_aaldR hx hb hK hP 4 hLy12 hKy12 rfl rfl (in_of (by omega) (by omega)) ey16 dX5_middleX_16 ?_
  refine p_get hx hb hts inX0 hown hK hP hLy16 hKy16 rfl rfl 1 (by decide) (hts _ pq173) rfl dX5_middleX_17 ?_
  refine lv_topi (fun z17 ez17 => ?_)
  have cgz17 := congrArg Int32.toInt ez17
  have bz17 := oI_0_1 (Iv_at hI hLy16 hKy16)
  rw [← ez17] at bz17
  refine lv_imul hx hb dX5_middleX_20 ?_
  refine lv_topi (fun z20 ez20 => ?_)
  have bz20 := tq_mul (k := (2)) (q := z17.toInt) ez20 (by decide +kernel) rfl (by omega) (by omega)
  refine lv_aload_n hx hb dX5_middleX_21 rfl (lv_at hl 0 rfl) ?_
  refine p_get hx hb hts inX3 hown hK hP hLy5 hKy5 rfl rfl 4 (by decide) (hts _ pq133) rfl dX5_middleX_22 ?_
  refine lv_topi (fun z22 ez22 => ?_)
  have bz22 := oI_3_4 (Iv_at hI hLy5 hKy5)
  rw [← ez22] at bz22
  refine lv_iadd hx hb dX5_middleX_25 ?_
  refine lv_topi (fun z25 ez25 => ?_)
  have bz25 := tq_add (k := z20.toInt) (q := z22.toInt) ez25 rfl rfl (by omega) (by omega)
  refine lv_aload_n hx hb dX5_middleX_26 rfl (lv_at hl 0 rfl) ?_
  refine p_get hx hb hts inX3 hown hK hP hLy5 hKy5 rfl rfl 6 (by decide) (hts _ pq139) rfl dX5_middleX_27 ?_
  refine lv_topi (fun z27 ez27 => ?_)
  have bz27 := oI_3_6 (Iv_at hI hLy5 hKy5)
  rw [← ez27] at bz27
  refine lv_iadd hx hb dX5_middleX_30 ?_
  refine lv_topi (fun z30 ez30 => ?_)
  have bz30 := tq_add (k := z25.toInt) (q := z27.toInt) ez30 rfl rfl (by omega) (by omega)
  refine lv_iconst (v := 2) hx hb dX5_middleX_31 (by decide +kernel) ?_
  refine ro_i (va_runS (As := [.int z30, .int 2]) (rest := []) ⟨hx, hb, hml, hown, hts⟩ (s_J9_floorDiv l dC dI cs L K Q H.size I J z30 2 ⟨by decide +kernel, by decide +kernel⟩) (va_cwS 2 hts (gS pq1085 pq782 pq82 pq783) rfl rfl rfl (by decide +kernel) ⟨(by rw [hR]; exact (Nat.le_of_ble_eq_true rfl)), (by rw [hR]; exact (Nat.le_of_ble_eq_true rfl))⟩) (sP_S hP hD hK hN) rfl rfl hl.1 rfl (lv_room (Nat.le_of_ble_eq_true rfl)) dX5_middleX_32 ⟨(by rw [hR]; exact (Nat.le_of_ble_eq_true rfl)), (by rw [hR]; exact (Nat.le_of_ble_eq_true rfl))⟩) hS hP (fun z32 H locs hz32 hP hS => ?_)
  have cst32_2 : (2 : Int32).toInt = 2 := by decide +kernel
  have xpz32 := hz32
  try rw [cst32_2] at xpz32
  subst hR; subst hQz
  exact W.iret (v := z32) hx hb hr (fun t ht hW => ⟨⟨z32, (), rfl, ⟨⟨by omega, by omega⟩, (fun c ok h hs ha e he => by have m0 := (hs p1.toInt.toNat ha).2.2.2; rw [show sm Q p0 p1.toInt.toNat = y5 from sm_of ey1 ey5] at m0; have k := exD_m ok ha m0 he; have va := fun k (hk : k < 8) => h.2.2.2.2 p1.toInt.toNat ha k hk; rw [nf_of ey9, show fb Q y9 p1.toInt.toNat = y16 from fb_of ey12 ey16] at va; have e17 : z17.toInt = bX c p1.toInt.toNat := (by rw [ez17, va 1 (by decide)]; rfl); have e22 : z22.toInt = (I y5 4).toInt := congrArg Int32.toInt ez22; have e27 : z27.toInt = (I y5 6).toInt := congrArg Int32.toInt ez27; rw [xpz32, show z30.toInt = e.1 + e.2.2.1 by omega])⟩, trivial⟩, hS.F ht⟩) hS.2.2 dX5_middleX_35

set_option maxHeartbeats 4000000 in
set_option maxRecDepth 100000 in
theorem s_X5_middleY (l : Launch) (dC : Nat → ClassId) (dI : Nat → Nat → Nat) (cs : Nat → ClassId) (L : List Nat) (K G : Nat → Nat) (Q : Nat → Nat → Option Nat) (hQ : Sv L K G Q) (x0 m0 : Nat) (tx : GT) (tm : GT × Int) (sz : Nat) (I : Nat → Nat → Int32) (J : Nat → Nat → Int64) (hI : Iv L K x0 m0 tx tm I) (p0 : Nat) (hLp0 : p0 ∈ L) (hKp0 : K p0 = 5) (p1 : Int32) (bp1 : (0) ≤ p1.toInt ∧ p1.toInt ≤ 9) : Met l yX5_middleY (.code yX5_middleY cX5_middleY 3 (some .int) :: pw) ({ frames := 1, cells := 0, slots := 0, locals := 22 }) (sP (dC, dI) cs [.ref p0, .int p1] sz L K I J Q) (va_Qi (fun (r : Int32) (_ : Unit) => ((-6001000) ≤ r.toInt ∧ r.toInt ≤ 6001000) ∧ (∀ c : Fx, okF c → cxF Q I J (nf Q p0) c → cxS Q I J p0 c → p1.toInt.toNat < (c.1 1).toInt.toNat → ∀ e, exD (atD c p1.toInt.toNat) e → r.toInt = (e.2.1 + e.2.2.2) / 2)) (fun _ _ => True) (fun _ => False)) 0 0 (fun _ => False) := by
  refine Met.ofW (cc := cX5_middleY) (maxL := 3) (ret := (some .int)) (by decide +kernel) rfl ?_
  intro p e s m args below meth c s₁ B hml hv
  obtain ⟨rfl, hsz, hP, hK, hD0, hN⟩ := hv
  have hx := B.exec
  have hb := B.bytes
  have hr := B.returns
  have hts := fun w (h : w ∈ pw) => atoms_spec (ws := Cond.code yX5_middleY cX5_middleY 3 (some .int) :: pw) B.pre w (List.mem_cons_of_mem _ h)
  have hown : s.vm.findClass RX5 = some m.cls := findClass_of_methodNamed B.named
  have hlocks := B.notSynchronized
  subst hsz
  have hBB : 999 ≤ tm.2 ∧ tm.2 ≤ 6000000 := hI.2.2.2.2.1
  have hD := hD0
  obtain ⟨H, hHe⟩ : ∃ H : Heap, H = s.heap := ⟨_, rfl⟩
  have hS : va_S (fun _ => False) s.heap H [] := by rw [hHe]; exact va_S.rf
  rw [← hHe] at hP
  have hl := lv_entry ([.ref p0, .int p1]) (n := 3) (Nat.le_of_ble_eq_true rfl)
  rw [lg_entry_eq]
  generalize (lg_sl ([.ref p0, .int p1]) ++ List.replicate (3 - (lg_sl ([.ref p0, .int p1])).length) Slot.unset).toArray = ls at hl ⊢
  have hl : lv_has ls 3 [(0, .ref p0), (1, .int p1)] := hl
  rw [← hHe]
  refine namedW (fun R Qz hR hQz => ?_)
  refine lv_aload_n hx hb dX5_middleY_0 rfl (lv_at hl 0 rfl) ?_
  obtain ⟨y1, ey1, hLy1, hKy1, hGy1⟩ := oQ_5_1 (Sv_at hQ hLp0 hKp0)
  refine p_get (v := .ref y1) hx hb hts inX5 hown hK hP hLp0 hKp0 rfl rfl 1 (by decide) (hts _ pq275) (congrArg (fun q => some (va_rf q)) ey1) dX5_middleY_1 ?_
  refine lv_iload_n hx hb dX5_middleY_4 rfl (lv_at hl 1 rfl) ?_
  obtain ⟨y5, ey5, hLy5, hKy5, hGy5⟩ := (Sv_at hQ hLy1 hKy1).1 p1.toNatClampNeg (clamp_lt (n := 10) (in_of (by omega) (by omega)))
  have hjy5 : p1.toNatClampNeg < 10 := clamp_lt (i := p1) (n := 10) (in_of (by omega) (by omega))
  refine p_aaldR hx hb hK hP 5 hLy1 hKy1 rfl rfl (in_of (by omega) (by omega)) ey5 dX5_middleY_5 ?_
  refine lv_astore_n (lv' := [(2, .ref y5), (0, .ref p0), (1, .int p1)]) hx hb dX5_middleY_6 rfl hl (by decide) rfl (fun ls hl => ?_)
  refine lv_iconst (v := 2) hx hb dX5_middleY_7 (by decide +kernel) ?_
  refine lv_aload_n hx hb dX5_middleY_8 rfl (lv_at hl 1 rfl) ?_
  obtain ⟨y9, ey9, hLy9, hKy9, hGy9⟩ := oQ_5_0 (Sv_at hQ hLp0 hKp0)
  refine p_get (v := .ref y9) hx hb hts inX5 hown hK hP hLp0 hKp0 rfl rfl 0 (by decide) (hts _ pq274) (congrArg (fun q => some (va_rf q)) ey9) dX5_middleY_9 ?_
  obtain ⟨y12, ey12, hLy12, hKy12, hGy12⟩ := oQ_1_1 (Sv_at hQ hLy9 hKy9)
  refine p_get (v := .ref y12) hx hb hts inX1 hown hK hP hLy9 hKy9 rfl rfl 1 (by decide) (hts _ pq218) (congrArg (fun q => some (va_rf q)) ey12) dX5_middleY_12 ?_
  refine lv_iload_n hx hb dX5_middleY_15 rfl (lv_at hl 2 rfl) ?_
  obtain ⟨y16, ey16, hLy16, hKy16, hGy16⟩ := (Sv_at hQ hLy12 hKy12).1 p1.toNatClampNeg (clamp_lt (n := 10) (in_of (by omega) (by omega)))
  refine p_aaldR hx hb hK hP 4 hLy12 hKy12 rfl rfl (in_of (by omega) (by omega)) ey16 dX5_middleY_16 ?_
  refine p_get hx hb hts inX0 hown hK hP hLy16 hKy16 rfl rfl 2 (by decide) (hts _ pq176) rfl dX5_middleY_17 ?_
  refine lv_topi (fun z17 ez17 => ?_)
  have cgz17 := congrArg Int32.toInt ez17
  have bz17 := oI_0_2 (Iv_at hI hLy16 hKy16)
  rw [← ez17] at bz17
  refine lv_imul hx hb dX5_middleY_20 ?_
  refine lv_topi (fun z20 ez20 => ?_)
  have bz20 := tq_mul (k := (2)) (q := z17.toInt) ez20 (by decide +kernel) rfl (by omega) (by omega)
  refine lv_aload_n hx hb dX5_middleY_21 rfl (lv_at hl 0 rfl) ?_
  refine p_get hx hb hts inX3 hown hK hP hLy5 hKy5 rfl rfl 5 (by decide) (hts _ pq136) rfl dX5_middleY_22 ?_
  refine lv_topi (fun z22 ez22 => ?_)
  have bz22 := oI_3_5 (Iv_at hI hLy5 hKy5)
  rw [← ez22] at bz22
  refine lv_iadd hx hb dX5_middleY_25 ?_
  refine lv_topi (fun z25 ez25 => ?_)
  have bz25 := tq_add (k := z20.toInt) (q := z22.toInt) ez25 rfl rfl (by omega) (by omega)
  refine lv_aload_n hx hb dX5_middleY_26 rfl (lv_at hl 0 rfl) ?_
  refine p_get hx hb hts inX3 hown hK hP hLy5 hKy5 rfl rfl 7 (by decide) (hts _ pq142) rfl dX5_middleY_27 ?_
  refine lv_topi (fun z27 ez27 => ?_)
  have bz27 := oI_3_7 (Iv_at hI hLy5 hKy5)
  rw [← ez27] at bz27
  refine lv_iadd hx hb dX5_middleY_30 ?_
  refine lv_topi (fun z30 ez30 => ?_)
  have bz30 := tq_add (k := z25.toInt) (q := z27.toInt) ez30 rfl rfl (by omega) (by omega)
  refine lv_iconst (v := 2) hx hb dX5_middleY_31 (by decide +kernel) ?_
  refine ro_i (va_runS (As := [.int z30, .int 2]) (rest := []) ⟨hx, hb, hml, hown, hts⟩ (s_J9_floorDiv l dC dI cs L K Q H.size I J z30 2 ⟨by decide +kernel, by decide +kernel⟩) (va_cwS 2 hts (gS pq1085 pq782 pq82 pq783) rfl rfl rfl (by decide +kernel) ⟨(by rw [hR]; exact (Nat.le_of_ble_eq_true rfl)), (by rw [hR]; exact (Nat.le_of_ble_eq_true rfl))⟩) (sP_S hP hD hK hN) rfl rfl hl.1 rfl (lv_room (Nat.le_of_ble_eq_true rfl)) dX5_middleY_32 ⟨(by rw [hR]; exact (Nat.le_of_ble_eq_true rfl)), (by rw [hR]; exact (Nat.le_of_ble_eq_true rfl))⟩) hS hP (fun z32 H locs hz32 hP hS => ?_)
  have cst32_2 : (2 : Int32).toInt = 2 := by decide +kernel
  have xpz32 := hz32
  try rw [cst32_2] at xpz32
  subst hR; subst hQz
  exact W.iret (v := z32) hx hb hr (fun t ht hW => ⟨⟨z32, (), rfl, ⟨⟨by omega, by omega⟩, (fun c ok h hs ha e he => by have m0 := (hs p1.toInt.toNat ha).2.2.2; rw [show sm Q p0 p1.toInt.toNat = y5 from sm_of ey1 ey5] at m0; have k := exD_m ok ha m0 he; have va := fun k (hk : k < 8) => h.2.2.2.2 p1.toInt.toNat ha k hk; rw [nf_of ey9, show fb Q y9 p1.toInt.toNat = y16 from fb_of ey12 ey16] at va; have e17 : z17.toInt = bY c p1.toInt.toNat := (by rw [ez17, va 2 (by decide)]; rfl); have e22 : z22.toInt = (I y5 5).toInt := congrArg Int32.toInt ez22; have e27 : z27.toInt = (I y5 7).toInt := congrArg Int32.toInt ez27; rw [xpz32, show z30.toInt = e.2.1 + e.2.2.2 by omega])⟩, trivial⟩, hS.F ht⟩) hS.2.2 dX5_middleY_35

set_option maxHeartbeats 4000000 in
set_option maxRecDepth 100000 in
theorem s_X5_covers (l : Launch) (dC : Nat → ClassId) (dI : Nat → Nat → Nat) (cs : Nat → ClassId) (L : List Nat) (K G : Nat → Nat) (Q : Nat → Nat → Option Nat) (hQ : Sv L K G Q) (x0 m0 : Nat) (tx : GT) (tm : GT × Int) (sz : Nat) (I : Nat → Nat → Int32) (J : Nat → Nat → Int64) (hI : Iv L K x0 m0 tx tm I) (p0 : Nat) (hLp0 : p0 ∈ L) (hKp0 : K p0 = 5) (p1 : Int32) (bp1 : (0) ≤ p1.toInt ∧ p1.toInt ≤ 9) (p2 : Int32) (p3 : Int32) : Met l yX5_covers (.code yX5_covers cX5_covers 5 (some .boolean) :: pw) ({ frames := 2, cells := 0, slots := 0, locals := 44 }) (sP (dC, dI) cs [.ref p0, .int p1, .int p2, .int p3] sz L K I J Q) (va_Qi (fun (r : Int32) (_ : Unit) => ((0) ≤ r.toInt ∧ r.toInt ≤ 1) ∧ (∀ c : Fx, okF c → cxF Q I J (nf Q p0) c → cxS Q I J p0 c → p1.toInt.toNat < (c.1 1).toInt.toNat → (¬ r.toInt = 0 ↔ shp c p1.toInt.toNat (p2 - c.1 (19 + 8 * p1.toInt.toNat + 1)).toInt (p3 - c.1 (19 + 8 * p1.toInt.toNat + 2)).toInt = true))) (fun _ _ => True) (fun _ => False)) 0 0 (fun _ => False) := by
  refine Met.ofW (cc := cX5_covers) (maxL := 5) (ret := (some .boolean)) (by decide +kernel) rfl ?_
  intro p e s m args below meth c s₁ B hml hv
  obtain ⟨rfl, hsz, hP, hK, hD0, hN⟩ := hv
  have hx := B.exec
  have hb := B.bytes
  have hr := B.returns
  have hts := fun w (h : w ∈ pw) => atoms_spec (ws := Cond.code yX5_covers cX5_covers 5 (some .boolean) :: pw) B.pre w (List.mem_cons_of_mem _ h)
  have hown : s.vm.findClass RX5 = some m.cls := findClass_of_methodNamed B.named
  have hlocks := B.notSynchronized
  subst hsz
  have hBB : 999 ≤ tm.2 ∧ tm.2 ≤ 6000000 := hI.2.2.2.2.1
  have hD := hD0
  obtain ⟨H, hHe⟩ : ∃ H : Heap, H = s.heap := ⟨_, rfl⟩
  have hS : va_S (fun _ => False) s.heap H [] := by rw [hHe]; exact va_S.rf
  rw [← hHe] at hP
  have hl := lv_entry ([.ref p0, .int p1, .int p2, .int p3]) (n := 5) (Nat.le_of_ble_eq_true rfl)
  rw [lg_entry_eq]
  generalize (lg_sl ([.ref p0, .int p1, .int p2, .int p3]) ++ List.replicate (5 - (lg_sl ([.ref p0, .int p1, .int p2, .int p3])).length) Slot.unset).toArray = ls at hl ⊢
  have hl : lv_has ls 5 [(0, .ref p0), (1, .int p1), (2, .int p2), (3, .int p3)] := hl
  rw [← hHe]
  refine namedW (fun R Qz hR hQz => ?_)
  refine lv_aload_n hx hb dX5_covers_0 rfl (lv_at hl 0 rfl) ?_
  obtain ⟨y1, ey1, hLy1, hKy1, hGy1⟩ := oQ_5_0 (Sv_at hQ hLp0 hKp0)
  refine p_get (v := .ref y1) hx hb hts inX5 hown hK hP hLp0 hKp0 rfl rfl 0 (by decide) (hts _ pq274) (congrArg (fun q => some (va_rf q)) ey1) dX5_covers_1 ?_
  obtain ⟨y4, ey4, hLy4, hKy4, hGy4⟩ := oQ_1_1 (Sv_at hQ hLy1 hKy1)
  refine p_get (v := .ref y4) hx hb hts inX1 hown hK hP hLy1 hKy1 rfl rfl 1 (by decide) (hts _ pq218) (congrArg (fun q => some (va_rf q)) ey4) dX5_covers_4 ?_
  refine lv_iload_n hx hb dX5_covers_7 rfl (lv_at hl 1 rfl) ?_
  obtain ⟨y8, ey8, hLy8, hKy8, hGy8⟩ := (Sv_at hQ hLy4 hKy4).1 p1.toNatClampNeg (clamp_lt (n := 10) (in_of (by omega) (by omega)))
  refine p_aaldR hx hb hK hP 4 hLy4 hKy4 rfl rfl (in_of (by omega) (by omega)) ey8 dX5_covers_8 ?_
  refine lv_astore (lv' := [(4, .ref y8), (0, .ref p0), (1, .int p1), (2, .int p2), (3, .int p3)]) hx hb dX5_covers_9 hl (by decide) rfl (fun ls hl => ?_)
  refine lv_aload_n hx hb dX5_covers_11 rfl (lv_at hl 1 rfl) ?_
  obtain ⟨y12, ey12, hLy12, hKy12, hGy12⟩ := oQ_5_1 (Sv_at hQ hLp0 hKp0)
  refine p_get (v := .ref y12) hx hb hts inX5 hown hK hP hLp0 hKp0 rfl rfl 1 (by decide) (hts _ pq275) (congrArg (fun q => some (va_rf q)) ey12) dX5_covers_12 ?_
  refine lv_iload_n hx hb dX5_covers_15 rfl (lv_at hl 2 rfl) ?_
  obtain ⟨y16, ey16, hLy16, hKy16, hGy16⟩ := (Sv_at hQ hLy12 hKy12).1 p1.toNatClampNeg (clamp_lt (n := 10) (in_of (by omega) (by omega)))
  have hjy16 : p1.toNatClampNeg < 10 := clamp_lt (i := p1) (n := 10) (in_of (by omega) (by omega))
  refine p_aaldR hx hb hK hP 5 hLy12 hKy12 rfl rfl (in_of (by omega) (by omega)) ey16 dX5_covers_16 ?_
  refine lv_iload_n hx hb dX5_covers_17 rfl (lv_at hl 3 rfl) ?_
  refine lv_aload hx hb dX5_covers_18 (lv_at hl 0 rfl) ?_
  refine p_get hx hb hts inX0 hown hK hP hLy8 hKy8 rfl rfl 1 (by decide) (hts _ pq173) rfl dX5_covers_20 ?_
  refine lv_topi (fun z20 ez20 => ?_)
  have cgz20 := congrArg Int32.toInt ez20
  have bz20 := oI_0_1 (Iv_at hI hLy8 hKy8)
  rw [← ez20] at bz20
  refine lv_isub hx hb dX5_covers_23 ?_
  refine lv_topi (fun z23 ez23 => ?_)
  refine lv_iload_n hx hb dX5_covers_24 rfl (lv_at hl 4 rfl) ?_
  refine lv_aload hx hb dX5_covers_25 (lv_at hl 0 rfl) ?_
  refine p_get hx hb hts inX0 hown hK hP hLy8 hKy8 rfl rfl 2 (by decide) (hts _ pq176) rfl dX5_covers_27 ?_
  refine lv_topi (fun z27 ez27 => ?_)
  have cgz27 := congrArg Int32.toInt ez27
  have bz27 := oI_0_2 (Iv_at hI hLy8 hKy8)
  rw [← ez27] at bz27
  refine lv_isub hx hb dX5_covers_30 ?_
  refine lv_topi (fun z30 ez30 => ?_)
  refine ro_i (va_runV (As := [.int z23, .int z30]) (rest := []) ⟨hx, hb, hml, hown, hts⟩ (s_X3_holds l dC dI cs L K G Q hQ x0 m0 tx tm H.size I J hI y16 hLy16 hKy16 z23 z30) (cwV 2 hts (gV pq1023 pq674 pq675 pq76 pq676) rfl rfl rfl (by decide +kernel) ⟨(by rw [hR]; exact (Nat.le_of_ble_eq_true rfl)), (by rw [hR]; exact (Nat.le_of_ble_eq_true rfl))⟩) (sP_V hP hD hK hN hLy16 hKy16 rfl rfl) rfl rfl hl.1 rfl (lv_room (Nat.le_of_ble_eq_true rfl)) dX5_covers_31 ⟨(by rw [hR]; exact (Nat.le_of_ble_eq_true rfl)), (by rw [hR]; exact (Nat.le_of_ble_eq_true rfl))⟩) hS hP (fun z31 H locs hz31 hP hS => ?_)
  obtain ⟨bz31, xpz31⟩ := hz31
  subst hR; subst hQz
  exact W.zret (v := z31) hx hb hr (nar01 (by omega) (by omega)) (fun t ht hW => ⟨⟨z31, (), rfl, ⟨⟨by omega, by omega⟩, (fun c ok h hs ha => by have va := fun k (hk : k < 8) => h.2.2.2.2 p1.toInt.toNat ha k hk; rw [nf_of ey1, show fb Q y1 p1.toInt.toNat = y8 from fb_of ey4 ey8] at va; have S := hs p1.toInt.toNat ha; rw [show sm Q p0 p1.toInt.toNat = y16 from sm_of ey12 ey16] at S; rw [xpz31, hs_congr (congrArg Int32.toInt S.1) (congrArg Int32.toInt S.2.1) S.2.2.1, hs_shp ok ha, biT, ez23, ez30, ez20, ez27, va 1 (by decide), va 2 (by decide)])⟩, trivial⟩, hS.F ht⟩) hS.2.2 dX5_covers_34

set_option maxHeartbeats 4000000 in
set_option maxRecDepth 100000 in
theorem s_X5_thirdCovers (l : Launch) (dC : Nat → ClassId) (dI : Nat → Nat → Nat) (cs : Nat → ClassId) (L : List Nat) (K G : Nat → Nat) (Q : Nat → Nat → Option Nat) (hQ : Sv L K G Q) (x0 m0 : Nat) (tx : GT) (tm : GT × Int) (sz : Nat) (I : Nat → Nat → Int32) (J : Nat → Nat → Int64) (hI : Iv L K x0 m0 tx tm I) (p0 : Nat) (hLp0 : p0 ∈ L) (hKp0 : K p0 = 5) (p1 : Int32) (p2 : Int32) (p3 : Int32) (p4 : Int32) : Met l yX5_thirdCovers (.code yX5_thirdCovers cX5_thirdCovers 6 (some .boolean) :: pw) ({ frames := 3, cells := 0, slots := 0, locals := 68 }) (sP (dC, dI) cs [.ref p0, .int p1, .int p2, .int p3, .int p4] sz L K I J Q) (va_Qi (fun (r : Int32) (_ : Unit) => ((0) ≤ r.toInt ∧ r.toInt ≤ 1) ∧ (∀ c : Fx, okF c → cxF Q I J (nf Q p0) c → cxS Q I J p0 c → 0 ≤ p1.toInt → 0 ≤ p2.toInt → (¬ r.toInt = 0 ↔ thP c p1.toInt.toNat p2.toInt.toNat p3 p4))) (fun _ _ => True) (fun _ => False)) 0 0 (fun _ => False) := by
  refine Met.ofW (cc := cX5_thirdCovers) (maxL := 6) (ret := (some .boolean)) (by decide +kernel) rfl ?_
  intro p e s m args below meth c s₁ B hml hv
  obtain ⟨rfl, hsz, hP, hK, hD0, hN⟩ := hv
  have hx := B.exec
  have hb := B.bytes
  have hr := B.returns
  have hts := fun w (h : w ∈ pw) => atoms_spec (ws := Cond.code yX5_thirdCovers cX5_thirdCovers 6 (some .boolean) :: pw) B.pre w (List.mem_cons_of_mem _ h)
  have hown : s.vm.findClass RX5 = some m.cls := findClass_of_methodNamed B.named
  have hlocks := B.notSynchronized
  subst hsz
  have hBB : 999 ≤ tm.2 ∧ tm.2 ≤ 6000000 := hI.2.2.2.2.1
  have hD := hD0
  obtain ⟨H, hHe⟩ : ∃ H : Heap, H = s.heap := ⟨_, rfl⟩
  have hS : va_S (fun _ => False) s.heap H [] := by rw [hHe]; exact va_S.rf
  rw [← hHe] at hP
  have hl := lv_entry ([.ref p0, .int p1, .int p2, .int p3, .int p4]) (n := 6) (Nat.le_of_ble_eq_true rfl)
  rw [lg_entry_eq]
  generalize (lg_sl ([.ref p0, .int p1, .int p2, .int p3, .int p4]) ++ List.replicate (6 - (lg_sl ([.ref p0, .int p1, .int p2, .int p3, .int p4])).length) Slot.unset).toArray = ls at hl ⊢
  have hl : lv_has ls 6 [(0, .ref p0), (1, .int p1), (2, .int p2), (3, .int p3), (4, .int p4)] := hl
  rw [← hHe]
  refine namedW (fun R Qz hR hQz => ?_)
  refine lv_iconst (v := 0) hx hb dX5_thirdCovers_0 (by decide +kernel) ?_
  refine lv_istore (lv' := [(5, .int 0), (0, .ref p0), (1, .int p1), (2, .int p2), (3, .int p3), (4, .int p4)]) hx hb dX5_thirdCovers_1 hl (by decide) rfl (fun ls hl => ?_)
  have key3 := blocks (fun n => ∀ (v3_5 : Int32) (H : Heap) (lo : List Loc) (ls : Array Slot), (11 - v3_5.toInt).toNat = n → ((0) ≤ v3_5.toInt ∧ v3_5.toInt ≤ 10) → (∀ c : Fx, okF c → cxF Q I J (nf Q p0) c → cxS Q I J p0 c → 0 ≤ p1.toInt → 0 ≤ p2.toInt → ∀ i : Nat, i < v3_5.toInt.toNat → ¬ ((¬ i = p1.toInt.toNat ∧ ¬ i = p2.toInt.toNat) ∧ cvP c p3 p4 i)) → va_P (dC, dI) vwCl (Wd cs L K I J Q) H → va_S (fun _ => False) s.heap H lo → lv_has ls 6 [(0, .ref p0), (1, .int p1), (2, .int p2), (3, .int p3), (4, .int p4), (5, .int v3_5)] → W p l e R s m (([.ref p0, .int p1, .int p2, .int p3, .int p4] : List Value).toArray) below meth c H lo 0 0 Qz (F0 m 3 ls [])) (by
    intro n ih3
    intro v3_5 H lo ls hmu3 bv3_5 g3 hP hS hl
    refine lv_iload hx hb dX5_thirdCovers_3 (lv_at hl 5 rfl) ?_
    refine lv_aload_n hx hb dX5_thirdCovers_5 rfl (lv_at hl 0 rfl) ?_
    obtain ⟨y6, ey6, hLy6, hKy6, hGy6⟩ := oQ_5_0 (Sv_at hQ hLp0 hKp0)
    refine p_get (v := .ref y6) hx hb hts inX5 hown hK hP hLp0 hKp0 rfl rfl 0 (by decide) (hts _ pq274) (congrArg (fun q => some (va_rf q)) ey6) dX5_thirdCovers_6 ?_
    refine p_get hx hb hts inX1 hown hK hP hLy6 hKy6 rfl rfl 3 (by decide) (hts _ pq225) rfl dX5_thirdCovers_9 ?_
    refine lv_topi (fun z9 ez9 => ?_)
    have cgz9 := congrArg Int32.toInt ez9
    have bz9 := oI_1_3 (Iv_at hI hLy6 hKy6)
    rw [← ez9] at bz9
    refine lv_icmp_ge (tgt := 47) hx hb dX5_thirdCovers_12 (by decide) (fun c12 => ?_) (fun c12 => ?_)
    · have t12 := tq_le (k := z9.toInt) (q := v3_5.toInt) c12 rfl rfl
      refine lv_iconst (v := 0) hx hb dX5_thirdCovers_47 (by decide +kernel) ?_
      subst hR; subst hQz
      exact W.zret (v := 0) hx hb hr (by decide +kernel) (fun t ht hW => ⟨⟨0, (), rfl, ⟨⟨by decide +kernel, by decide +kernel⟩, (fun c ok h hs ha hb => by have n9 : z9.toInt = (c.1 1).toInt := congrArg Int32.toInt (ez9.trans (show I y6 3 = c.1 1 by rw [← nf_of ey6]; exact h.2.1)); exact ⟨fun q => absurd (by decide +kernel) q, fun w => by obtain ⟨i, hi, hn, hc⟩ := th_lt.mp w; exact absurd ⟨hn, hc⟩ (g3 c ok h hs ha hb i (by omega))⟩)⟩, trivial⟩, hS.F ht⟩) hS.2.2 dX5_thirdCovers_48
    · have t12 := tq_nle (k := z9.toInt) (q := v3_5.toInt) c12 rfl rfl
      refine lv_iload hx hb dX5_thirdCovers_15 (lv_at hl 5 rfl) ?_
      refine lv_iload_n hx hb dX5_thirdCovers_17 rfl (lv_at hl 1 rfl) ?_
      have j41 : ∀ (H : Heap) (lo : List Loc) (ls : Array Slot), (∀ c : Fx, okF c → cxF Q I J (nf Q p0) c → cxS Q I J p0 c → 0 ≤ p1.toInt → 0 ≤ p2.toInt → ∀ i : Nat, i < v3_5.toInt.toNat + 1 → ¬ ((¬ i = p1.toInt.toNat ∧ ¬ i = p2.toInt.toNat) ∧ cvP c p3 p4 i)) → va_P (dC, dI) vwCl (Wd cs L K I J Q) H → va_S (fun _ => False) s.heap H lo → lv_has ls 6 [(0, .ref p0), (1, .int p1), (2, .int p2), (3, .int p3), (4, .int p4), (5, .int v3_5)] → W p l e R s m (([.ref p0, .int p1, .int p2, .int p3, .int p4] : List Value).toArray) below meth c H lo 0 0 Qz (F0 m 41 ls []) := by
        intro H lo ls g41 hP hS hl
        obtain ⟨z41, ez41⟩ : ∃ y : Int32, y = v3_5 + 1 := ⟨_, rfl⟩
        refine lv_iinc (v := z41) (lv' := [(5, .int z41), (0, .ref p0), (1, .int p1), (2, .int p2), (3, .int p3), (4, .int p4)]) hx hb dX5_thirdCovers_41 hl (k := 5) rfl (by rw [ez41]; rfl) (by decide) rfl (fun ls hl => ?_)
        have bz41 := tq_add (k := v3_5.toInt) (q := 1) ez41 rfl (by decide +kernel) (by omega) (by omega)
        refine lv_goto (tgt := 3) hx hb dX5_thirdCovers_44 (by decide) ?_
        exact ih3 _ (by omega) z41 _ _ _ rfl ⟨by omega, by omega⟩ (fun c ok h hs ha hb i hi => g41 c ok h hs ha hb i (by omega)) hP hS (lv_sub hl [1, 2, 3, 4, 5, 0] rfl)
      refine lv_icmp_eq (tgt := 41) hx hb dX5_thirdCovers_18 (by decide) (fun c18 => ?_) (fun c18 => ?_)
      · have t18 := tq_eq (k := v3_5.toInt) (q := p1.toInt) c18 rfl rfl
        exact j41  _ _ _ (fun c ok h hs ha hb => by have n9 : z9.toInt = (c.1 1).toInt := congrArg Int32.toInt (ez9.trans (show I y6 3 = c.1 1 by rw [← nf_of ey6]; exact h.2.1)); intro i hi; rcases Nat.lt_or_ge i v3_5.toInt.toNat with k | k; (exact g3 c ok h hs ha hb i k); (obtain rfl : i = v3_5.toInt.toNat := (by omega); first | exact fun q => q.1.1 (by omega) | exact fun q => q.1.2 (by omega) | (have w := xpz33 c ok h hs (show v3_5.toInt.toNat < _ by omega); exact fun q => (w.mpr q.2.2) t36))) hP hS (lv_sub hl [0, 1, 2, 3, 4, 5] rfl)
      · have t18 := tq_ne (k := v3_5.toInt) (q := p1.toInt) c18 rfl rfl
        refine lv_iload hx hb dX5_thirdCovers_21 (lv_at hl 5 rfl) ?_
        refine lv_iload_n hx hb dX5_thirdCovers_23 rfl (lv_at hl 2 rfl) ?_
        refine lv_icmp_eq (tgt := 41) hx hb dX5_thirdCovers_24 (by decide) (fun c24 => ?_) (fun c24 => ?_)
        · have t24 := tq_eq (k := v3_5.toInt) (q := p2.toInt) c24 rfl rfl
          exact j41  _ _ _ (fun c ok h hs ha hb => by have n9 : z9.toInt = (c.1 1).toInt := congrArg Int32.toInt (ez9.trans (show I y6 3 = c.1 1 by rw [← nf_of ey6]; exact h.2.1)); intro i hi; rcases Nat.lt_or_ge i v3_5.toInt.toNat with k | k; (exact g3 c ok h hs ha hb i k); (obtain rfl : i = v3_5.toInt.toNat := (by omega); first | exact fun q => q.1.1 (by omega) | exact fun q => q.1.2 (by omega) | (have w := xpz33 c ok h hs (show v3_5.toInt.toNat < _ by omega); exact fun q => (w.mpr q.2.2) t36))) hP hS (lv_sub hl [0, 1, 2, 3, 4, 5] rfl)
        · have t24 := tq_ne (k := v3_5.toInt) (q := p2.toInt) c24 rfl rfl
          refine lv_aload_n hx hb dX5_thirdCovers_27 rfl (lv_at hl 0 rfl) ?_
          refine lv_iload hx hb dX5_thirdCovers_28 (lv_at hl 5 rfl) ?_
          refine lv_iload_n hx hb dX5_thirdCovers_30 rfl (lv_at hl 3 rfl) ?_
          refine lv_iload hx hb dX5_thirdCovers_31 (lv_at hl 4 rfl) ?_
          refine ro_i (va_runV (As := [.int v3_5, .int p3, .int p4]) (rest := []) ⟨hx, hb, hml, hown, hts⟩ (s_X5_covers l dC dI cs L K G Q hQ x0 m0 tx tm H.size I J hI p0 hLp0 hKp0 v3_5 ⟨by omega, by omega⟩ p3 p4) (cwV 3 hts (gV pq1094 pq1020 pq1021 pq79 pq1022) rfl rfl rfl (by decide +kernel) ⟨(by rw [hR]; exact (Nat.le_of_ble_eq_true rfl)), (by rw [hR]; exact (Nat.le_of_ble_eq_true rfl))⟩) (sP_V hP hD hK hN hLp0 hKp0 rfl rfl) rfl rfl hl.1 rfl (lv_room (Nat.le_of_ble_eq_true rfl)) dX5_thirdCovers_33 ⟨(by rw [hR]; exact (Nat.le_of_ble_eq_true rfl)), (by rw [hR]; exact (Nat.le_of_ble_eq_true rfl))⟩) hS hP (fun z33 H locs hz33 hP hS => ?_)
          obtain ⟨bz33, xpz33⟩ := hz33
          refine lv_if_eq (tgt := 41) hx hb dX5_thirdCovers_36 (by decide) (fun c36 => ?_) (fun c36 => ?_)
          · have t36 := tq_eq (k := z33.toInt) (q := (0)) c36 rfl (by decide +kernel)
            exact j41  _ _ _ (fun c ok h hs ha hb => by have n9 : z9.toInt = (c.1 1).toInt := congrArg Int32.toInt (ez9.trans (show I y6 3 = c.1 1 by rw [← nf_of ey6]; exact h.2.1)); intro i hi; rcases Nat.lt_or_ge i v3_5.toInt.toNat with k | k; (exact g3 c ok h hs ha hb i k); (obtain rfl : i = v3_5.toInt.toNat := (by omega); first | exact fun q => q.1.1 (by omega) | exact fun q => q.1.2 (by omega) | (have w := xpz33 c ok h hs (show v3_5.toInt.toNat < _ by omega); exact fun q => (w.mpr q.2.2) t36))) hP hS (lv_sub hl [0, 1, 2, 3, 4, 5] rfl)
          · have t36 := tq_ne (k := z33.toInt) (q := (0)) c36 rfl (by decide +kernel)
            refine lv_iconst (v := 1) hx hb dX5_thirdCovers_39 (by decide +kernel) ?_
            subst hR; subst hQz
            exact W.zret (v := 1) hx hb hr (by decide +kernel) (fun t ht hW => ⟨⟨1, (), rfl, ⟨⟨by decide +kernel, by decide +kernel⟩, (fun c ok h hs ha hb => by have n9 : z9.toInt = (c.1 1).toInt := congrArg Int32.toInt (ez9.trans (show I y6 3 = c.1 1 by rw [← nf_of ey6]; exact h.2.1)); have w := xpz33 c ok h hs (show v3_5.toInt.toNat < _ by omega); exact ⟨fun _ => ⟨v3_5.toInt.toNat, ⟨by omega, by omega⟩, by omega, w.mp t36⟩, fun _ => by decide +kernel⟩)⟩, trivial⟩, hS.F ht⟩) hS.2.2 dX5_thirdCovers_40)
  exact key3 _ 0 _ _ _ rfl ⟨by decide +kernel, by decide +kernel⟩ (fun c ok h hs ha hb i hi => absurd hi (by rw [show (0 : Int32).toInt.toNat = 0 from by decide +kernel]; omega)) hP hS (lv_sub hl [1, 2, 3, 4, 5, 0] rfl)

set_option maxHeartbeats 4000000 in
set_option maxRecDepth 100000 in
theorem s_X5_mayTouch (l : Launch) (dC : Nat → ClassId) (dI : Nat → Nat → Nat) (cs : Nat → ClassId) (L : List Nat) (K G : Nat → Nat) (Q : Nat → Nat → Option Nat) (hQ : Sv L K G Q) (x0 m0 : Nat) (tx : GT) (tm : GT × Int) (sz : Nat) (I : Nat → Nat → Int32) (J : Nat → Nat → Int64) (hI : Iv L K x0 m0 tx tm I) (p0 : Nat) (hLp0 : p0 ∈ L) (hKp0 : K p0 = 5) (p1 : Int32) (bp1 : (0) ≤ p1.toInt ∧ p1.toInt ≤ 9) (p2 : Int32) (bp2 : (0) ≤ p2.toInt ∧ p2.toInt ≤ 9) : Met l yX5_mayTouch (.code yX5_mayTouch cX5_mayTouch 5 (some .boolean) :: pw) ({ frames := 0, cells := 0, slots := 0, locals := 0 }) (sP (dC, dI) cs [.ref p0, .int p1, .int p2] sz L K I J Q) (va_Qi (fun (r : Int32) (_ : Unit) => ((0) ≤ r.toInt ∧ r.toInt ≤ 1) ∧ (∀ c : Fx, cxF Q I J (nf Q p0) c → p1.toInt.toNat < (c.1 1).toInt.toNat → p2.toInt.toNat < (c.1 1).toInt.toNat → (¬ r.toInt = 0 ↔ mayT c p1.toInt.toNat p2.toInt.toNat))) (fun _ _ => True) (fun _ => False)) 0 0 (fun _ => False) := by
  refine Met.ofW (cc := cX5_mayTouch) (maxL := 5) (ret := (some .boolean)) (by decide +kernel) rfl ?_
  intro p e s m args below meth c s₁ B hml hv
  obtain ⟨rfl, hsz, hP, hK, hD0, hN⟩ := hv
  have hx := B.exec
  have hb := B.bytes
  have hr := B.returns
  have hts := fun w (h : w ∈ pw) => atoms_spec (ws := Cond.code yX5_mayTouch cX5_mayTouch 5 (some .boolean) :: pw) B.pre w (List.mem_cons_of_mem _ h)
  have hown : s.vm.findClass RX5 = some m.cls := findClass_of_methodNamed B.named
  have hlocks := B.notSynchronized
  subst hsz
  have hBB : 999 ≤ tm.2 ∧ tm.2 ≤ 6000000 := hI.2.2.2.2.1
  have hD := hD0
  obtain ⟨H, hHe⟩ : ∃ H : Heap, H = s.heap := ⟨_, rfl⟩
  have hS : va_S (fun _ => False) s.heap H [] := by rw [hHe]; exact va_S.rf
  rw [← hHe] at hP
  have hl := lv_entry ([.ref p0, .int p1, .int p2]) (n := 5) (Nat.le_of_ble_eq_true rfl)
  rw [lg_entry_eq]
  generalize (lg_sl ([.ref p0, .int p1, .int p2]) ++ List.replicate (5 - (lg_sl ([.ref p0, .int p1, .int p2])).length) Slot.unset).toArray = ls at hl ⊢
  have hl : lv_has ls 5 [(0, .ref p0), (1, .int p1), (2, .int p2)] := hl
  rw [← hHe]
  refine namedW (fun R Qz hR hQz => ?_)
  refine lv_aload_n hx hb dX5_mayTouch_0 rfl (lv_at hl 0 rfl) ?_
  obtain ⟨y1, ey1, hLy1, hKy1, hGy1⟩ := oQ_5_0 (Sv_at hQ hLp0 hKp0)
  refine p_get (v := .ref y1) hx hb hts inX5 hown hK hP hLp0 hKp0 rfl rfl 0 (by decide) (hts _ pq274) (congrArg (fun q => some (va_rf q)) ey1) dX5_mayTouch_1 ?_
  obtain ⟨y4, ey4, hLy4, hKy4, hGy4⟩ := oQ_1_1 (Sv_at hQ hLy1 hKy1)
  refine p_get (v := .ref y4) hx hb hts inX1 hown hK hP hLy1 hKy1 rfl rfl 1 (by decide) (hts _ pq218) (congrArg (fun q => some (va_rf q)) ey4) dX5_mayTouch_4 ?_
  refine lv_iload_n hx hb dX5_mayTouch_7 rfl (lv_at hl 1 rfl) ?_
  obtain ⟨y8, ey8, hLy8, hKy8, hGy8⟩ := (Sv_at hQ hLy4 hKy4).1 p1.toNatClampNeg (clamp_lt (n := 10) (in_of (by omega) (by omega)))
  refine p_aaldR hx hb hK hP 4 hLy4 hKy4 rfl rfl (in_of (by omega) (by omega)) ey8 dX5_mayTouch_8 ?_
  refine lv_astore_n (lv' := [(3, .ref y8), (0, .ref p0), (1, .int p1), (2, .int p2)]) hx hb dX5_mayTouch_9 rfl hl (by decide) rfl (fun ls hl => ?_)
  refine lv_aload_n hx hb dX5_mayTouch_10 rfl (lv_at hl 1 rfl) ?_
  refine p_get (v := .ref y1) hx hb hts inX5 hown hK hP hLp0 hKp0 rfl rfl 0 (by decide) (hts _ pq274) (congrArg (fun q => some (va_rf q)) ey1) dX5_mayTouch_11 ?_
  refine p_get (v := .ref y4) hx hb hts inX1 hown hK hP hLy1 hKy1 rfl rfl 1 (by decide) (hts _ pq218) (congrArg (fun q => some (va_rf q)) ey4) dX5_mayTouch_14 ?_
  refine lv_iload_n hx hb dX5_mayTouch_17 rfl (lv_at hl 3 rfl) ?_
  obtain ⟨y18, ey18, hLy18, hKy18, hGy18⟩ := (Sv_at hQ hLy4 hKy4).1 p2.toNatClampNeg (clamp_lt (n := 10) (in_of (by omega) (by omega)))
  refine p_aaldR hx hb hK hP 4 hLy4 hKy4 rfl rfl (in_of (by omega) (by omega)) ey18 dX5_mayTouch_18 ?_
  refine lv_astore (lv' := [(4, .ref y18), (3, .ref y8), (0, .ref p0), (1, .int p1), (2, .int p2)]) hx hb dX5_mayTouch_19 hl (by decide) rfl (fun ls hl => ?_)
  refine lv_aload_n hx hb dX5_mayTouch_21 rfl (lv_at hl 1 rfl) ?_
  refine p_get hx hb hts inX0 hown hK hP hLy8 hKy8 rfl rfl 4 (by decide) (hts _ pq183) rfl dX5_mayTouch_22 ?_
  refine lv_topi (fun z22 ez22 => ?_)
  have bz22 := oI_0_4 (Iv_at hI hLy8 hKy8)
  rw [← ez22] at bz22
  refine lv_aload hx hb dX5_mayTouch_25 (lv_at hl 0 rfl) ?_
  refine p_get hx hb hts inX0 hown hK hP hLy18 hKy18 rfl rfl 5 (by decide) (hts _ pq187) rfl dX5_mayTouch_27 ?_
  refine lv_topi (fun z27 ez27 => ?_)
  have bz27 := oI_0_5 (Iv_at hI hLy18 hKy18)
  rw [← ez27] at bz27
  refine lv_iand hx hb dX5_mayTouch_30 ?_
  refine lv_topi (fun z30 ez30 => ?_)
  refine lv_aload hx hb dX5_mayTouch_31 (lv_at hl 0 rfl) ?_
  refine p_get hx hb hts inX0 hown hK hP hLy18 hKy18 rfl rfl 4 (by decide) (hts _ pq183) rfl dX5_mayTouch_33 ?_
  refine lv_topi (fun z33 ez33 => ?_)
  have bz33 := oI_0_4 (Iv_at hI hLy18 hKy18)
  rw [← ez33] at bz33
  refine lv_aload_n hx hb dX5_mayTouch_36 rfl (lv_at hl 1 rfl) ?_
  refine p_get hx hb hts inX0 hown hK hP hLy8 hKy8 rfl rfl 5 (by decide) (hts _ pq187) rfl dX5_mayTouch_37 ?_
  refine lv_topi (fun z37 ez37 => ?_)
  have bz37 := oI_0_5 (Iv_at hI hLy8 hKy8)
  rw [← ez37] at bz37
  refine lv_iand hx hb dX5_mayTouch_40 ?_
  refine lv_topi (fun z40 ez40 => ?_)
  refine lv_ior hx hb dX5_mayTouch_41 ?_
  refine lv_topi (fun z41 ez41 => ?_)
  refine lv_if_eq (tgt := 49) hx hb dX5_mayTouch_42 (by decide) (fun c42 => ?_) (fun c42 => ?_)
  · have t42 := tq_eq (k := z41.toInt) (q := (0)) c42 rfl (by decide +kernel)
    refine lv_iconst (v := 0) hx hb dX5_mayTouch_49 (by decide +kernel) ?_
    subst hR; subst hQz
    exact W.zret (v := 0) hx hb hr (by decide +kernel) (fun t ht hW => ⟨⟨0, (), rfl, ⟨⟨by decide +kernel, by decide +kernel⟩, (fun c h ha hb => by have va := fun k (hk : k < 8) => h.2.2.2.2 p1.toInt.toNat ha k hk; have vb := fun k (hk : k < 8) => h.2.2.2.2 p2.toInt.toNat hb k hk; rw [nf_of ey1, show fb Q y1 p1.toInt.toNat = y8 from fb_of ey4 ey8] at va; rw [nf_of ey1, show fb Q y1 p2.toInt.toNat = y18 from fb_of ey4 ey18] at vb; have e : mayT c p1.toInt.toNat p2.toInt.toNat ↔ ¬ z41.toInt = 0 := (by rw [i32or_0 ez41, ez30, ez40, ez22, ez27, ez33, ez37, va 4 (by decide), vb 5 (by decide), vb 4 (by decide), va 5 (by decide)]; exact Iff.rfl); rw [e]; exact ⟨fun q => absurd (by decide +kernel) q, fun q => absurd t42 q⟩)⟩, trivial⟩, hS.F ht⟩) hS.2.2 dX5_mayTouch_50
  · have t42 := tq_ne (k := z41.toInt) (q := (0)) c42 rfl (by decide +kernel)
    refine lv_iconst (v := 1) hx hb dX5_mayTouch_45 (by decide +kernel) ?_
    refine lv_goto (tgt := 50) hx hb dX5_mayTouch_46 (by decide) ?_
    subst hR; subst hQz
    exact W.zret (v := 1) hx hb hr (by decide +kernel) (fun t ht hW => ⟨⟨1, (), rfl, ⟨⟨by decide +kernel, by decide +kernel⟩, (fun c h ha hb => by have va := fun k (hk : k < 8) => h.2.2.2.2 p1.toInt.toNat ha k hk; have vb := fun k (hk : k < 8) => h.2.2.2.2 p2.toInt.toNat hb k hk; rw [nf_of ey1, show fb Q y1 p1.toInt.toNat = y8 from fb_of ey4 ey8] at va; rw [nf_of ey1, show fb Q y1 p2.toInt.toNat = y18 from fb_of ey4 ey18] at vb; have e : mayT c p1.toInt.toNat p2.toInt.toNat ↔ ¬ z41.toInt = 0 := (by rw [i32or_0 ez41, ez30, ez40, ez22, ez27, ez33, ez37, va 4 (by decide), vb 5 (by decide), vb 4 (by decide), va 5 (by decide)]; exact Iff.rfl); rw [e]; exact ⟨fun _ => by omega, fun _ => by decide +kernel⟩)⟩, trivial⟩, hS.F ht⟩) hS.2.2 dX5_mayTouch_50

set_option maxHeartbeats 4000000 in
set_option maxRecDepth 100000 in
theorem s_X5_boxesShare (l : Launch) (dC : Nat → ClassId) (dI : Nat → Nat → Nat) (cs : Nat → ClassId) (L : List Nat) (K G : Nat → Nat) (Q : Nat → Nat → Option Nat) (hQ : Sv L K G Q) (x0 m0 : Nat) (tx : GT) (tm : GT × Int) (sz : Nat) (I : Nat → Nat → Int32) (J : Nat → Nat → Int64) (hI : Iv L K x0 m0 tx tm I) (p0 : Nat) (hLp0 : p0 ∈ L) (hKp0 : K p0 = 5) (p1 : Int32) (bp1 : (0) ≤ p1.toInt ∧ p1.toInt ≤ 9) (p2 : Int32) (bp2 : (0) ≤ p2.toInt ∧ p2.toInt ≤ 9) : Met l yX5_boxesShare (.code yX5_boxesShare cX5_boxesShare 5 (some .boolean) :: pw) ({ frames := 1, cells := 0, slots := 0, locals := 23 }) (sP (dC, dI) cs [.ref p0, .int p1, .int p2] sz L K I J Q) (va_Qi (fun (r : Int32) (_ : Unit) => ((0) ≤ r.toInt ∧ r.toInt ≤ 1) ∧ (∀ c : Fx, okF c → cxF Q I J (nf Q p0) c → cxS Q I J p0 c → p1.toInt.toNat < (c.1 1).toInt.toNat → p2.toInt.toNat < (c.1 1).toInt.toNat → (¬ r.toInt = 0 ↔ boxM c p1.toInt.toNat p2.toInt.toNat))) (fun _ _ => True) (fun _ => False)) 0 0 (fun _ => False) := by
  refine Met.ofW (cc := cX5_boxesShare) (maxL := 5) (ret := (some .boolean)) (by decide +kernel) rfl ?_
  intro p e s m args below meth c s₁ B hml hv
  obtain ⟨rfl, hsz, hP, hK, hD0, hN⟩ := hv
  have hx := B.exec
  have hb := B.bytes
  have hr := B.returns
  have hts := fun w (h : w ∈ pw) => atoms_spec (ws := Cond.code yX5_boxesShare cX5_boxesShare 5 (some .boolean) :: pw) B.pre w (List.mem_cons_of_mem _ h)
  have hown : s.vm.findClass RX5 = some m.cls := findClass_of_methodNamed B.named
  have hlocks := B.notSynchronized
  subst hsz
  have hBB : 999 ≤ tm.2 ∧ tm.2 ≤ 6000000 := hI.2.2.2.2.1
  have hD := hD0
  obtain ⟨H, hHe⟩ : ∃ H : Heap, H = s.heap := ⟨_, rfl⟩
  have hS : va_S (fun _ => False) s.heap H [] := by rw [hHe]; exact va_S.rf
  rw [← hHe] at hP
  have hl := lv_entry ([.ref p0, .int p1, .int p2]) (n := 5) (Nat.le_of_ble_eq_true rfl)
  rw [lg_entry_eq]
  generalize (lg_sl ([.ref p0, .int p1, .int p2]) ++ List.replicate (5 - (lg_sl ([.ref p0, .int p1, .int p2])).length) Slot.unset).toArray = ls at hl ⊢
  have hl : lv_has ls 5 [(0, .ref p0), (1, .int p1), (2, .int p2)] := hl
  rw [← hHe]
  refine namedW (fun R Qz hR hQz => ?_)
  refine lv_aload_n hx hb dX5_boxesShare_0 rfl (lv_at hl 0 rfl) ?_
  obtain ⟨y1, ey1, hLy1, hKy1, hGy1⟩ := oQ_5_0 (Sv_at hQ hLp0 hKp0)
  refine p_get (v := .ref y1) hx hb hts inX5 hown hK hP hLp0 hKp0 rfl rfl 0 (by decide) (hts _ pq274) (congrArg (fun q => some (va_rf q)) ey1) dX5_boxesShare_1 ?_
  obtain ⟨y4, ey4, hLy4, hKy4, hGy4⟩ := oQ_1_1 (Sv_at hQ hLy1 hKy1)
  refine p_get (v := .ref y4) hx hb hts inX1 hown hK hP hLy1 hKy1 rfl rfl 1 (by decide) (hts _ pq218) (congrArg (fun q => some (va_rf q)) ey4) dX5_boxesShare_4 ?_
  refine lv_iload_n hx hb dX5_boxesShare_7 rfl (lv_at hl 1 rfl) ?_
  obtain ⟨y8, ey8, hLy8, hKy8, hGy8⟩ := (Sv_at hQ hLy4 hKy4).1 p1.toNatClampNeg (clamp_lt (n := 10) (in_of (by omega) (by omega)))
  refine p_aaldR hx hb hK hP 4 hLy4 hKy4 rfl rfl (in_of (by omega) (by omega)) ey8 dX5_boxesShare_8 ?_
  refine lv_astore_n (lv' := [(3, .ref y8), (0, .ref p0), (1, .int p1), (2, .int p2)]) hx hb dX5_boxesShare_9 rfl hl (by decide) rfl (fun ls hl => ?_)
  refine lv_aload_n hx hb dX5_boxesShare_10 rfl (lv_at hl 1 rfl) ?_
  refine p_get (v := .ref y1) hx hb hts inX5 hown hK hP hLp0 hKp0 rfl rfl 0 (by decide) (hts _ pq274) (congrArg (fun q => some (va_rf q)) ey1) dX5_boxesShare_11 ?_
  refine p_get (v := .ref y4) hx hb hts inX1 hown hK hP hLy1 hKy1 rfl rfl 1 (by decide) (hts _ pq218) (congrArg (fun q => some (va_rf q)) ey4) dX5_boxesShare_14 ?_
  refine lv_iload_n hx hb dX5_boxesShare_17 rfl (lv_at hl 3 rfl) ?_
  obtain ⟨y18, ey18, hLy18, hKy18, hGy18⟩ := (Sv_at hQ hLy4 hKy4).1 p2.toNatClampNeg (clamp_lt (n := 10) (in_of (by omega) (by omega)))
  refine p_aaldR hx hb hK hP 4 hLy4 hKy4 rfl rfl (in_of (by omega) (by omega)) ey18 dX5_boxesShare_18 ?_
  refine lv_astore (lv' := [(4, .ref y18), (3, .ref y8), (0, .ref p0), (1, .int p1), (2, .int p2)]) hx hb dX5_boxesShare_19 hl (by decide) rfl (fun ls hl => ?_)
  refine lv_aload_n hx hb dX5_boxesShare_21 rfl (lv_at hl 2 rfl) ?_
  obtain ⟨y22, ey22, hLy22, hKy22, hGy22⟩ := oQ_5_1 (Sv_at hQ hLp0 hKp0)
  refine p_get (v := .ref y22) hx hb hts inX5 hown hK hP hLp0 hKp0 rfl rfl 1 (by decide) (hts _ pq275) (congrArg (fun q => some (va_rf q)) ey22) dX5_boxesShare_22 ?_
  refine lv_iload_n hx hb dX5_boxesShare_25 rfl (lv_at hl 3 rfl) ?_
  obtain ⟨y26, ey26, hLy26, hKy26, hGy26⟩ := (Sv_at hQ hLy22 hKy22).1 p1.toNatClampNeg (clamp_lt (n := 10) (in_of (by omega) (by omega)))
  have hjy26 : p1.toNatClampNeg < 10 := clamp_lt (i := p1) (n := 10) (in_of (by omega) (by omega))
  refine p_aaldR hx hb hK hP 5 hLy22 hKy22 rfl rfl (in_of (by omega) (by omega)) ey26 dX5_boxesShare_26 ?_
  refine lv_aload_n hx hb dX5_boxesShare_27 rfl (lv_at hl 2 rfl) ?_
  refine p_get (v := .ref y22) hx hb hts inX5 hown hK hP hLp0 hKp0 rfl rfl 1 (by decide) (hts _ pq275) (congrArg (fun q => some (va_rf q)) ey22) dX5_boxesShare_28 ?_
  refine lv_iload_n hx hb dX5_boxesShare_31 rfl (lv_at hl 4 rfl) ?_
  obtain ⟨y32, ey32, hLy32, hKy32, hGy32⟩ := (Sv_at hQ hLy22 hKy22).1 p2.toNatClampNeg (clamp_lt (n := 10) (in_of (by omega) (by omega)))
  have hjy32 : p2.toNatClampNeg < 10 := clamp_lt (i := p2) (n := 10) (in_of (by omega) (by omega))
  refine p_aaldR hx hb hK hP 5 hLy22 hKy22 rfl rfl (in_of (by omega) (by omega)) ey32 dX5_boxesShare_32 ?_
  refine lv_aload hx hb dX5_boxesShare_33 (lv_at hl 0 rfl) ?_
  refine p_get hx hb hts inX0 hown hK hP hLy18 hKy18 rfl rfl 1 (by decide) (hts _ pq173) rfl dX5_boxesShare_35 ?_
  refine lv_topi (fun z35 ez35 => ?_)
  have cgz35 := congrArg Int32.toInt ez35
  have bz35 := oI_0_1 (Iv_at hI hLy18 hKy18)
  rw [← ez35] at bz35
  refine lv_aload_n hx hb dX5_boxesShare_38 rfl (lv_at hl 1 rfl) ?_
  refine p_get hx hb hts inX0 hown hK hP hLy8 hKy8 rfl rfl 1 (by decide) (hts _ pq173) rfl dX5_boxesShare_39 ?_
  refine lv_topi (fun z39 ez39 => ?_)
  have cgz39 := congrArg Int32.toInt ez39
  have bz39 := oI_0_1 (Iv_at hI hLy8 hKy8)
  rw [← ez39] at bz39
  refine lv_isub hx hb dX5_boxesShare_42 ?_
  refine lv_topi (fun z42 ez42 => ?_)
  have bz42 := tq_sub (k := z35.toInt) (q := z39.toInt) ez42 rfl rfl (by omega) (by omega)
  refine lv_aload hx hb dX5_boxesShare_43 (lv_at hl 0 rfl) ?_
  refine p_get hx hb hts inX0 hown hK hP hLy18 hKy18 rfl rfl 2 (by decide) (hts _ pq176) rfl dX5_boxesShare_45 ?_
  refine lv_topi (fun z45 ez45 => ?_)
  have cgz45 := congrArg Int32.toInt ez45
  have bz45 := oI_0_2 (Iv_at hI hLy18 hKy18)
  rw [← ez45] at bz45
  refine lv_aload_n hx hb dX5_boxesShare_48 rfl (lv_at hl 1 rfl) ?_
  refine p_get hx hb hts inX0 hown hK hP hLy8 hKy8 rfl rfl 2 (by decide) (hts _ pq176) rfl dX5_boxesShare_49 ?_
  refine lv_topi (fun z49 ez49 => ?_)
  have cgz49 := congrArg Int32.toInt ez49
  have bz49 := oI_0_2 (Iv_at hI hLy8 hKy8)
  rw [← ez49] at bz49
  refine lv_isub hx hb dX5_boxesShare_52 ?_
  refine lv_topi (fun z52 ez52 => ?_)
  have bz52 := tq_sub (k := z45.toInt) (q := z49.toInt) ez52 rfl rfl (by omega) (by omega)
  refine ro_i (va_runS (As := [.ref y26, .ref y32, .int z42, .int z52]) (rest := []) ⟨hx, hb, hml, hown, hts⟩ (s_X3_boxesShare l dC dI cs L K G Q hQ x0 m0 tx tm H.size I J hI y26 hLy26 hKy26 y32 hLy32 hKy32 z42 z52) (va_cwS 4 hts (gS pq989 pq774 pq76 pq775) rfl rfl rfl (by decide +kernel) ⟨(by rw [hR]; exact (Nat.le_of_ble_eq_true rfl)), (by rw [hR]; exact (Nat.le_of_ble_eq_true rfl))⟩) (sP_S hP hD hK hN) rfl rfl hl.1 rfl (lv_room (Nat.le_of_ble_eq_true rfl)) dX5_boxesShare_53 ⟨(by rw [hR]; exact (Nat.le_of_ble_eq_true rfl)), (by rw [hR]; exact (Nat.le_of_ble_eq_true rfl))⟩) hS hP (fun z53 H locs hz53 hP hS => ?_)
  obtain ⟨bz53, imz53, xpz53⟩ := hz53
  subst hR; subst hQz
  exact W.zret (v := z53) hx hb hr (nar01 (by omega) (by omega)) (fun t ht hW => ⟨⟨z53, (), rfl, ⟨⟨by omega, by omega⟩, (fun c ok h hs ha hb => by have va := fun k (hk : k < 8) => h.2.2.2.2 p1.toInt.toNat ha k hk; have vb := fun k (hk : k < 8) => h.2.2.2.2 p2.toInt.toNat hb k hk; rw [nf_of ey1, show fb Q y1 p1.toInt.toNat = y8 from fb_of ey4 ey8] at va; rw [nf_of ey1, show fb Q y1 p2.toInt.toNat = y18 from fb_of ey4 ey18] at vb; have qa := bXY ok ha; have qb := bXY ok hb; have xa : z39.toInt = bX c p1.toInt.toNat := (by rw [ez39, va 1 (by decide)]; rfl); have xb : z35.toInt = bX c p2.toInt.toNat := (by rw [ez35, vb 1 (by decide)]; rfl); have ya : z49.toInt = bY c p1.toInt.toNat := (by rw [ez49, va 2 (by decide)]; rfl); have yb : z45.toInt = bY c p2.toInt.toNat := (by rw [ez45, vb 2 (by decide)]; rfl); have m0 := (hs p1.toInt.toNat ha).2.2.2; have m1 := (hs p2.toInt.toNat hb).2.2.2; rw [show sm Q p0 p1.toInt.toNat = y26 from sm_of ey22 ey26] at m0; rw [show sm Q p0 p2.toInt.toNat = y32 from sm_of ey22 ey32] at m1; refine (xpz53.2 ⟨⟨by omega, by omega⟩, by omega, by omega⟩).trans ?_; rw [bz42, bz52, xa, xb, ya, yb]; exact bxs_P m0 m1)⟩, trivial⟩, hS.F ht⟩) hS.2.2 dX5_boxesShare_56

set_option maxHeartbeats 4000000 in
set_option maxRecDepth 100000 in
theorem s_X5_sharedIfMoved (l : Launch) (dC : Nat → ClassId) (dI : Nat → Nat → Nat) (cs : Nat → ClassId) (L : List Nat) (K G : Nat → Nat) (Q : Nat → Nat → Option Nat) (hQ : Sv L K G Q) (x0 m0 : Nat) (tx : GT) (tm : GT × Int) (sz : Nat) (I : Nat → Nat → Int32) (J : Nat → Nat → Int64) (hI : Iv L K x0 m0 tx tm I) (p0 : Nat) (hLp0 : p0 ∈ L) (hKp0 : K p0 = 5) (p1 : Int32) (bp1 : (0) ≤ p1.toInt ∧ p1.toInt ≤ 9) (p2 : Int32) (bp2 : (0) ≤ p2.toInt ∧ p2.toInt ≤ 9) (p3 : Int32) (p4 : Int32) : Met l yX5_sharedIfMoved (.code yX5_sharedIfMoved cX5_sharedIfMoved 7 (some .int) :: pw) ({ frames := 2, cells := 0, slots := 0, locals := 57 }) (sP (dC, dI) cs [.ref p0, .int p1, .int p2, .int p3, .int p4] sz L K I J Q) (va_Qi (fun (r : Int32) (_ : Unit) => (∀ c : Fx, okF c → cxF Q I J (nf Q p0) c → cxS Q I J p0 c → p1.toInt.toNat < (c.1 1).toInt.toNat → p2.toInt.toNat < (c.1 1).toInt.toNat → ((-20000 ≤ p3.toInt ∧ p3.toInt ≤ 20000) ∧ (-20000 ≤ p4.toInt ∧ p4.toInt ≤ 20000)) → r.toInt = coN c p1.toInt.toNat p2.toInt.toNat p3.toInt p4.toInt)) (fun _ _ => True) (fun _ => False)) 0 0 (fun _ => False) := by
  refine Met.ofW (cc := cX5_sharedIfMoved) (maxL := 7) (ret := (some .int)) (by decide +kernel) rfl ?_
  intro p e s m args below meth c s₁ B hml hv
  obtain ⟨rfl, hsz, hP, hK, hD0, hN⟩ := hv
  have hx := B.exec
  have hb := B.bytes
  have hr := B.returns
  have hts := fun w (h : w ∈ pw) => atoms_spec (ws := Cond.code yX5_sharedIfMoved cX5_sharedIfMoved 7 (some .int) :: pw) B.pre w (List.mem_cons_of_mem _ h)
  have hown : s.vm.findClass RX5 = some m.cls := findClass_of_methodNamed B.named
  have hlocks := B.notSynchronized
  subst hsz
  have hBB : 999 ≤ tm.2 ∧ tm.2 ≤ 6000000 := hI.2.2.2.2.1
  have hD := hD0
  obtain ⟨H, hHe⟩ : ∃ H : Heap, H = s.heap := ⟨_, rfl⟩
  have hS : va_S (fun _ => False) s.heap H [] := by rw [hHe]; exact va_S.rf
  rw [← hHe] at hP
  have hl := lv_entry ([.ref p0, .int p1, .int p2, .int p3, .int p4]) (n := 7) (Nat.le_of_ble_eq_true rfl)
  rw [lg_entry_eq]
  generalize (lg_sl ([.ref p0, .int p1, .int p2, .int p3, .int p4]) ++ List.replicate (7 - (lg_sl ([.ref p0, .int p1, .int p2, .int p3, .int p4])).length) Slot.unset).toArray = ls at hl ⊢
  have hl : lv_has ls 7 [(0, .ref p0), (1, .int p1), (2, .int p2), (3, .int p3), (4, .int p4)] := hl
  rw [← hHe]
  refine namedW (fun R Qz hR hQz => ?_)
  refine lv_aload_n hx hb dX5_sharedIfMoved_0 rfl (lv_at hl 0 rfl) ?_
  obtain ⟨y1, ey1, hLy1, hKy1, hGy1⟩ := oQ_5_0 (Sv_at hQ hLp0 hKp0)
  refine p_get (v := .ref y1) hx hb hts inX5 hown hK hP hLp0 hKp0 rfl rfl 0 (by decide) (hts _ pq274) (congrArg (fun q => some (va_rf q)) ey1) dX5_sharedIfMoved_1 ?_
  obtain ⟨y4, ey4, hLy4, hKy4, hGy4⟩ := oQ_1_1 (Sv_at hQ hLy1 hKy1)
  refine p_get (v := .ref y4) hx hb hts inX1 hown hK hP hLy1 hKy1 rfl rfl 1 (by decide) (hts _ pq218) (congrArg (fun q => some (va_rf q)) ey4) dX5_sharedIfMoved_4 ?_
  refine lv_iload_n hx hb dX5_sharedIfMoved_7 rfl (lv_at hl 1 rfl) ?_
  obtain ⟨y8, ey8, hLy8, hKy8, hGy8⟩ := (Sv_at hQ hLy4 hKy4).1 p1.toNatClampNeg (clamp_lt (n := 10) (in_of (by omega) (by omega)))
  refine p_aaldR hx hb hK hP 4 hLy4 hKy4 rfl rfl (in_of (by omega) (by omega)) ey8 dX5_sharedIfMoved_8 ?_
  refine lv_astore (lv' := [(5, .ref y8), (0, .ref p0), (1, .int p1), (2, .int p2), (3, .int p3), (4, .int p4)]) hx hb dX5_sharedIfMoved_9 hl (by decide) rfl (fun ls hl => ?_)
  refine lv_aload_n hx hb dX5_sharedIfMoved_11 rfl (lv_at hl 1 rfl) ?_
  refine p_get (v := .ref y1) hx hb hts inX5 hown hK hP hLp0 hKp0 rfl rfl 0 (by decide) (hts _ pq274) (congrArg (fun q => some (va_rf q)) ey1) dX5_sharedIfMoved_12 ?_
  refine p_get (v := .ref y4) hx hb hts inX1 hown hK hP hLy1 hKy1 rfl rfl 1 (by decide) (hts _ pq218) (congrArg (fun q => some (va_rf q)) ey4) dX5_sharedIfMoved_15 ?_
  refine lv_iload_n hx hb dX5_sharedIfMoved_18 rfl (lv_at hl 3 rfl) ?_
  obtain ⟨y19, ey19, hLy19, hKy19, hGy19⟩ := (Sv_at hQ hLy4 hKy4).1 p2.toNatClampNeg (clamp_lt (n := 10) (in_of (by omega) (by omega)))
  refine p_aaldR hx hb hK hP 4 hLy4 hKy4 rfl rfl (in_of (by omega) (by omega)) ey19 dX5_sharedIfMoved_19 ?_
  refine lv_astore (lv' := [(6, .ref y19), (5, .ref y8), (0, .ref p0), (1, .int p1), (2, .int p2), (3, .int p3), (4, .int p4)]) hx hb dX5_sharedIfMoved_20 hl (by decide) rfl (fun ls hl => ?_)
  refine lv_aload_n hx hb dX5_sharedIfMoved_22 rfl (lv_at hl 2 rfl) ?_
  obtain ⟨y23, ey23, hLy23, hKy23, hGy23⟩ := oQ_5_1 (Sv_at hQ hLp0 hKp0)
  refine p_get (v := .ref y23) hx hb hts inX5 hown hK hP hLp0 hKp0 rfl rfl 1 (by decide) (hts _ pq275) (congrArg (fun q => some (va_rf q)) ey23) dX5_sharedIfMoved_23 ?_
  refine lv_iload_n hx hb dX5_sharedIfMoved_26 rfl (lv_at hl 3 rfl) ?_
  obtain ⟨y27, ey27, hLy27, hKy27, hGy27⟩ := (Sv_at hQ hLy23 hKy23).1 p1.toNatClampNeg (clamp_lt (n := 10) (in_of (by omega) (by omega)))
  have hjy27 : p1.toNatClampNeg < 10 := clamp_lt (i := p1) (n := 10) (in_of (by omega) (by omega))
  refine p_aaldR hx hb hK hP 5 hLy23 hKy23 rfl rfl (in_of (by omega) (by omega)) ey27 dX5_sharedIfMoved_27 ?_
  refine lv_aload_n hx hb dX5_sharedIfMoved_28 rfl (lv_at hl 2 rfl) ?_
  refine p_get (v := .ref y23) hx hb hts inX5 hown hK hP hLp0 hKp0 rfl rfl 1 (by decide) (hts _ pq275) (congrArg (fun q => some (va_rf q)) ey23) dX5_sharedIfMoved_29 ?_
  refine lv_iload_n hx hb dX5_sharedIfMoved_32 rfl (lv_at hl 4 rfl) ?_
  obtain ⟨y33, ey33, hLy33, hKy33, hGy33⟩ := (Sv_at hQ hLy23 hKy23).1 p2.toNatClampNeg (clamp_lt (n := 10) (in_of (by omega) (by omega)))
  have hjy33 : p2.toNatClampNeg < 10 := clamp_lt (i := p2) (n := 10) (in_of (by omega) (by omega))
  refine p_aaldR hx hb hK hP 5 hLy23 hKy23 rfl rfl (in_of (by omega) (by omega)) ey33 dX5_sharedIfMoved_33 ?_
  refine lv_aload hx hb dX5_sharedIfMoved_34 (lv_at hl 0 rfl) ?_
  refine p_get hx hb hts inX0 hown hK hP hLy19 hKy19 rfl rfl 1 (by decide) (hts _ pq173) rfl dX5_sharedIfMoved_36 ?_
  refine lv_topi (fun z36 ez36 => ?_)
  have cgz36 := congrArg Int32.toInt ez36
  have bz36 := oI_0_1 (Iv_at hI hLy19 hKy19)
  rw [← ez36] at bz36
  refine lv_aload hx hb dX5_sharedIfMoved_39 (lv_at hl 1 rfl) ?_
  refine p_get hx hb hts inX0 hown hK hP hLy8 hKy8 rfl rfl 1 (by decide) (hts _ pq173) rfl dX5_sharedIfMoved_41 ?_
  refine lv_topi (fun z41 ez41 => ?_)
  have cgz41 := congrArg Int32.toInt ez41
  have bz41 := oI_0_1 (Iv_at hI hLy8 hKy8)
  rw [← ez41] at bz41
  refine lv_isub hx hb dX5_sharedIfMoved_44 ?_
  refine lv_topi (fun z44 ez44 => ?_)
  have bz44 := tq_sub (k := z36.toInt) (q := z41.toInt) ez44 rfl rfl (by omega) (by omega)
  refine lv_iload_n hx hb dX5_sharedIfMoved_45 rfl (lv_at hl 5 rfl) ?_
  refine lv_isub hx hb dX5_sharedIfMoved_46 ?_
  refine lv_topi (fun z46 ez46 => ?_)
  refine lv_aload hx hb dX5_sharedIfMoved_47 (lv_at hl 0 rfl) ?_
  refine p_get hx hb hts inX0 hown hK hP hLy19 hKy19 rfl rfl 2 (by decide) (hts _ pq176) rfl dX5_sharedIfMoved_49 ?_
  refine lv_topi (fun z49 ez49 => ?_)
  have cgz49 := congrArg Int32.toInt ez49
  have bz49 := oI_0_2 (Iv_at hI hLy19 hKy19)
  rw [← ez49] at bz49
  refine lv_aload hx hb dX5_sharedIfMoved_52 (lv_at hl 1 rfl) ?_
  refine p_get hx hb hts inX0 hown hK hP hLy8 hKy8 rfl rfl 2 (by decide) (hts _ pq176) rfl dX5_sharedIfMoved_54 ?_
  refine lv_topi (fun z54 ez54 => ?_)
  have cgz54 := congrArg Int32.toInt ez54
  have bz54 := oI_0_2 (Iv_at hI hLy8 hKy8)
  rw [← ez54] at bz54
  refine lv_isub hx hb dX5_sharedIfMoved_57 ?_
  refine lv_topi (fun z57 ez57 => ?_)
  have bz57 := tq_sub (k := z49.toInt) (q := z54.toInt) ez57 rfl rfl (by omega) (by omega)
  refine lv_iload hx hb dX5_sharedIfMoved_58 (lv_at hl 6 rfl) ?_
  refine lv_isub hx hb dX5_sharedIfMoved_60 ?_
  refine lv_topi (fun z60 ez60 => ?_)
  refine ro_i (va_runS (As := [.ref y27, .ref y33, .int z46, .int z60]) (rest := []) ⟨hx, hb, hml, hown, hts⟩ (s_X3_shared l dC dI cs L K G Q hQ x0 m0 tx tm H.size I J hI y27 hLy27 hKy27 y33 hLy33 hKy33 z46 z60) (va_cwS 4 hts (gS pq978 pq979 pq76 pq980) rfl rfl rfl (by decide +kernel) ⟨(by rw [hR]; exact (Nat.le_of_ble_eq_true rfl)), (by rw [hR]; exact (Nat.le_of_ble_eq_true rfl))⟩) (sP_S hP hD hK hN) rfl rfl hl.1 rfl (lv_room (Nat.le_of_ble_eq_true rfl)) dX5_sharedIfMoved_61 ⟨(by rw [hR]; exact (Nat.le_of_ble_eq_true rfl)), (by rw [hR]; exact (Nat.le_of_ble_eq_true rfl))⟩) hS hP (fun z61 H locs hz61 hP hS => ?_)
  have xpz61 := hz61
  subst hR; subst hQz
  exact W.iret (v := z61) hx hb hr (fun t ht hW => ⟨⟨z61, (), rfl, (fun c ok h hs ha hb bd => by have va := fun k (hk : k < 8) => h.2.2.2.2 p1.toInt.toNat ha k hk; have vb := fun k (hk : k < 8) => h.2.2.2.2 p2.toInt.toNat hb k hk; rw [nf_of ey1, show fb Q y1 p1.toInt.toNat = y8 from fb_of ey4 ey8] at va; rw [nf_of ey1, show fb Q y1 p2.toInt.toNat = y19 from fb_of ey4 ey19] at vb; have qa := bXY ok ha; have qb := bXY ok hb; have xa : z41.toInt = bX c p1.toInt.toNat := (by rw [ez41, va 1 (by decide)]; rfl); have xb : z36.toInt = bX c p2.toInt.toNat := (by rw [ez36, vb 1 (by decide)]; rfl); have ya : z54.toInt = bY c p1.toInt.toNat := (by rw [ez54, va 2 (by decide)]; rfl); have yb : z49.toInt = bY c p2.toInt.toNat := (by rw [ez49, vb 2 (by decide)]; rfl); have e46 := tq_sub (k := z44.toInt) (q := p3.toInt) ez46 rfl rfl (by omega) (by omega); have e60 := tq_sub (k := z57.toInt) (q := p4.toInt) ez60 rfl rfl (by omega) (by omega); have m0 := shp_mko ok hs ha; have m1 := shp_mko ok hs hb; have ho := cm_congr (hs _ ha).2.2.1 (hs _ hb).2.2.1 z46.toInt z60.toInt; rw [show sm Q p0 p1.toInt.toNat = y27 from sm_of ey23 ey27] at m0; rw [show sm Q p0 p2.toInt.toNat = y33 from sm_of ey23 ey33] at m1; rw [show sm Q p0 p1.toInt.toNat = y27 from sm_of ey23 ey27, show sm Q p0 p2.toInt.toNat = y33 from sm_of ey23 ey33] at ho; refine (xpz61 ⟨⟨by omega, by omega⟩, by omega, by omega⟩ m0 m1).trans (ho.trans ?_); unfold coN; rw [← xa, ← xb, ← ya, ← yb, e46, e60, bz44, bz57]), trivial⟩, hS.F ht⟩) hS.2.2 dX5_sharedIfMoved_64

set_option maxHeartbeats 4000000 in
set_option maxRecDepth 100000 in
theorem s_X5_shareIfMoved (l : Launch) (dC : Nat → ClassId) (dI : Nat → Nat → Nat) (cs : Nat → ClassId) (L : List Nat) (K G : Nat → Nat) (Q : Nat → Nat → Option Nat) (hQ : Sv L K G Q) (x0 m0 : Nat) (tx : GT) (tm : GT × Int) (sz : Nat) (I : Nat → Nat → Int32) (J : Nat → Nat → Int64) (hI : Iv L K x0 m0 tx tm I) (p0 : Nat) (hLp0 : p0 ∈ L) (hKp0 : K p0 = 5) (p1 : Int32) (bp1 : (0) ≤ p1.toInt ∧ p1.toInt ≤ 9) (p2 : Int32) (bp2 : (0) ≤ p2.toInt ∧ p2.toInt ≤ 9) (p3 : Int32) (p4 : Int32) : Met l yX5_shareIfMoved (.code yX5_shareIfMoved cX5_shareIfMoved 7 (some .boolean) :: pw) ({ frames := 2, cells := 0, slots := 0, locals := 56 }) (sP (dC, dI) cs [.ref p0, .int p1, .int p2, .int p3, .int p4] sz L K I J Q) (va_Qi (fun (r : Int32) (_ : Unit) => ((0) ≤ r.toInt ∧ r.toInt ≤ 1) ∧ (∀ c : Fx, okF c → cxF Q I J (nf Q p0) c → cxS Q I J p0 c → p1.toInt.toNat < (c.1 1).toInt.toNat → p2.toInt.toNat < (c.1 1).toInt.toNat → ((-20000 ≤ p3.toInt ∧ p3.toInt ≤ 20000) ∧ (-20000 ≤ p4.toInt ∧ p4.toInt ≤ 20000)) → (¬ r.toInt = 0 ↔ metM c p1.toInt.toNat p2.toInt.toNat p3.toInt p4.toInt))) (fun _ _ => True) (fun _ => False)) 0 0 (fun _ => False) := by
  refine Met.ofW (cc := cX5_shareIfMoved) (maxL := 7) (ret := (some .boolean)) (by decide +kernel) rfl ?_
  intro p e s m args below meth c s₁ B hml hv
  obtain ⟨rfl, hsz, hP, hK, hD0, hN⟩ := hv
  have hx := B.exec
  have hb := B.bytes
  have hr := B.returns
  have hts := fun w (h : w ∈ pw) => atoms_spec (ws := Cond.code yX5_shareIfMoved cX5_shareIfMoved 7 (some .boolean) :: pw) B.pre w (List.mem_cons_of_mem _ h)
  have hown : s.vm.findClass RX5 = some m.cls := findClass_of_methodNamed B.named
  have hlocks := B.notSynchronized
  subst hsz
  have hBB : 999 ≤ tm.2 ∧ tm.2 ≤ 6000000 := hI.2.2.2.2.1
  have hD := hD0
  obtain ⟨H, hHe⟩ : ∃ H : Heap, H = s.heap := ⟨_, rfl⟩
  have hS : va_S (fun _ => False) s.heap H [] := by rw [hHe]; exact va_S.rf
  rw [← hHe] at hP
  have hl := lv_entry ([.ref p0, .int p1, .int p2, .int p3, .int p4]) (n := 7) (Nat.le_of_ble_eq_true rfl)
  rw [lg_entry_eq]
  generalize (lg_sl ([.ref p0, .int p1, .int p2, .int p3, .int p4]) ++ List.replicate (7 - (lg_sl ([.ref p0, .int p1, .int p2, .int p3, .int p4])).length) Slot.unset).toArray = ls at hl ⊢
  have hl : lv_has ls 7 [(0, .ref p0), (1, .int p1), (2, .int p2), (3, .int p3), (4, .int p4)] := hl
  rw [← hHe]
  refine namedW (fun R Qz hR hQz => ?_)
  refine lv_aload_n hx hb dX5_shareIfMoved_0 rfl (lv_at hl 0 rfl) ?_
  obtain ⟨y1, ey1, hLy1, hKy1, hGy1⟩ := oQ_5_0 (Sv_at hQ hLp0 hKp0)
  refine p_get (v := .ref y1) hx hb hts inX5 hown hK hP hLp0 hKp0 rfl rfl 0 (by decide) (hts _ pq274) (congrArg (fun q => some (va_rf q)) ey1) dX5_shareIfMoved_1 ?_
  obtain ⟨y4, ey4, hLy4, hKy4, hGy4⟩ := oQ_1_1 (Sv_at hQ hLy1 hKy1)
  refine p_get (v := .ref y4) hx hb hts inX1 hown hK hP hLy1 hKy1 rfl rfl 1 (by decide) (hts _ pq218) (congrArg (fun q => some (va_rf q)) ey4) dX5_shareIfMoved_4 ?_
  refine lv_iload_n hx hb dX5_shareIfMoved_7 rfl (lv_at hl 1 rfl) ?_
  obtain ⟨y8, ey8, hLy8, hKy8, hGy8⟩ := (Sv_at hQ hLy4 hKy4).1 p1.toNatClampNeg (clamp_lt (n := 10) (in_of (by omega) (by omega)))
  refine p_aaldR hx hb hK hP 4 hLy4 hKy4 rfl rfl (in_of (by omega) (by omega)) ey8 dX5_shareIfMoved_8 ?_
  refine lv_astore (lv' := [(5, .ref y8), (0, .ref p0), (1, .int p1), (2, .int p2), (3, .int p3), (4, .int p4)]) hx hb dX5_shareIfMoved_9 hl (by decide) rfl (fun ls hl => ?_)
  refine lv_aload_n hx hb dX5_shareIfMoved_11 rfl (lv_at hl 1 rfl) ?_
  refine p_get (v := .ref y1) hx hb hts inX5 hown hK hP hLp0 hKp0 rfl rfl 0 (by decide) (hts _ pq274) (congrArg (fun q => some (va_rf q)) ey1) dX5_shareIfMoved_12 ?_
  refine p_get (v := .ref y4) hx hb hts inX1 hown hK hP hLy1 hKy1 rfl rfl 1 (by decide) (hts _ pq218) (congrArg (fun q => some (va_rf q)) ey4) dX5_shareIfMoved_15 ?_
  refine lv_iload_n hx hb dX5_shareIfMoved_18 rfl (lv_at hl 3 rfl) ?_
  obtain ⟨y19, ey19, hLy19, hKy19, hGy19⟩ := (Sv_at hQ hLy4 hKy4).1 p2.toNatClampNeg (clamp_lt (n := 10) (in_of (by omega) (by omega)))
  refine p_aaldR hx hb hK hP 4 hLy4 hKy4 rfl rfl (in_of (by omega) (by omega)) ey19 dX5_shareIfMoved_19 ?_
  refine lv_astore (lv' := [(6, .ref y19), (5, .ref y8), (0, .ref p0), (1, .int p1), (2, .int p2), (3, .int p3), (4, .int p4)]) hx hb dX5_shareIfMoved_20 hl (by decide) rfl (fun ls hl => ?_)
  refine lv_aload_n hx hb dX5_shareIfMoved_22 rfl (lv_at hl 2 rfl) ?_
  obtain ⟨y23, ey23, hLy23, hKy23, hGy23⟩ := oQ_5_1 (Sv_at hQ hLp0 hKp0)
  refine p_get (v := .ref y23) hx hb hts inX5 hown hK hP hLp0 hKp0 rfl rfl 1 (by decide) (hts _ pq275) (congrArg (fun q => some (va_rf q)) ey23) dX5_shareIfMoved_23 ?_
  refine lv_iload_n hx hb dX5_shareIfMoved_26 rfl (lv_at hl 3 rfl) ?_
  obtain ⟨y27, ey27, hLy27, hKy27, hGy27⟩ := (Sv_at hQ hLy23 hKy23).1 p1.toNatClampNeg (clamp_lt (n := 10) (in_of (by omega) (by omega)))
  have hjy27 : p1.toNatClampNeg < 10 := clamp_lt (i := p1) (n := 10) (in_of (by omega) (by omega))
  refine p_aaldR hx hb hK hP 5 hLy23 hKy23 rfl rfl (in_of (by omega) (by omega)) ey27 dX5_shareIfMoved_27 ?_
  refine lv_aload_n hx hb dX5_shareIfMoved_28 rfl (lv_at hl 2 rfl) ?_
  refine p_get (v := .ref y23) hx hb hts inX5 hown hK hP hLp0 hKp0 rfl rfl 1 (by decide) (hts _ pq275) (congrArg (fun q => some (va_rf q)) ey23) dX5_shareIfMoved_29 ?_
  refine lv_iload_n hx hb dX5_shareIfMoved_32 rfl (lv_at hl 4 rfl) ?_
  obtain ⟨y33, ey33, hLy33, hKy33, hGy33⟩ := (Sv_at hQ hLy23 hKy23).1 p2.toNatClampNeg (clamp_lt (n := 10) (in_of (by omega) (by omega)))
  have hjy33 : p2.toNatClampNeg < 10 := clamp_lt (i := p2) (n := 10) (in_of (by omega) (by omega))
  refine p_aaldR hx hb hK hP 5 hLy23 hKy23 rfl rfl (in_of (by omega) (by omega)) ey33 dX5_shareIfMoved_33 ?_
  refine lv_aload hx hb dX5_shareIfMoved_34 (lv_at hl 0 rfl) ?_
  refine p_get hx hb hts inX0 hown hK hP hLy19 hKy19 rfl rfl 1 (by decide) (hts _ pq173) rfl dX5_shareIfMoved_36 ?_
  refine lv_topi (fun z36 ez36 => ?_)
  have cgz36 := congrArg Int32.toInt ez36
  have bz36 := oI_0_1 (Iv_at hI hLy19 hKy19)
  rw [← ez36] at bz36
  refine lv_aload hx hb dX5_shareIfMoved_39 (lv_at hl 1 rfl) ?_
  refine p_get hx hb hts inX0 hown hK hP hLy8 hKy8 rfl rfl 1 (by decide) (hts _ pq173) rfl dX5_shareIfMoved_41 ?_
  refine lv_topi (fun z41 ez41 => ?_)
  have cgz41 := congrArg Int32.toInt ez41
  have bz41 := oI_0_1 (Iv_at hI hLy8 hKy8)
  rw [← ez41] at bz41
  refine lv_isub hx hb dX5_shareIfMoved_44 ?_
  refine lv_topi (fun z44 ez44 => ?_)
  have bz44 := tq_sub (k := z36.toInt) (q := z41.toInt) ez44 rfl rfl (by omega) (by omega)
  refine lv_iload_n hx hb dX5_shareIfMoved_45 rfl (lv_at hl 5 rfl) ?_
  refine lv_isub hx hb dX5_shareIfMoved_46 ?_
  refine lv_topi (fun z46 ez46 => ?_)
  refine lv_aload hx hb dX5_shareIfMoved_47 (lv_at hl 0 rfl) ?_
  refine p_get hx hb hts inX0 hown hK hP hLy19 hKy19 rfl rfl 2 (by decide) (hts _ pq176) rfl dX5_shareIfMoved_49 ?_
  refine lv_topi (fun z49 ez49 => ?_)
  have cgz49 := congrArg Int32.toInt ez49
  have bz49 := oI_0_2 (Iv_at hI hLy19 hKy19)
  rw [← ez49] at bz49
  refine lv_aload hx hb dX5_shareIfMoved_52 (lv_at hl 1 rfl) ?_
  refine p_get hx hb hts inX0 hown hK hP hLy8 hKy8 rfl rfl 2 (by decide) (hts _ pq176) rfl dX5_shareIfMoved_54 ?_
  refine lv_topi (fun z54 ez54 => ?_)
  have cgz54 := congrArg Int32.toInt ez54
  have bz54 := oI_0_2 (Iv_at hI hLy8 hKy8)
  rw [← ez54] at bz54
  refine lv_isub hx hb dX5_shareIfMoved_57 ?_
  refine lv_topi (fun z57 ez57 => ?_)
  have bz57 := tq_sub (k := z49.toInt) (q := z54.toInt) ez57 rfl rfl (by omega) (by omega)
  refine lv_iload hx hb dX5_shareIfMoved_58 (lv_at hl 6 rfl) ?_
  refine lv_isub hx hb dX5_shareIfMoved_60 ?_
  refine lv_topi (fun z60 ez60 => ?_)
  refine ro_i (va_runS (As := [.ref y27, .ref y33, .int z46, .int z60]) (rest := []) ⟨hx, hb, hml, hown, hts⟩ (s_X3_shareAny l dC dI cs L K G Q hQ x0 m0 tx tm H.size I J hI y27 hLy27 hKy27 y33 hLy33 hKy33 z46 z60) (va_cwS 4 hts (gS pq770 pq771 pq76 pq772) rfl rfl rfl (by decide +kernel) ⟨(by rw [hR]; exact (Nat.le_of_ble_eq_true rfl)), (by rw [hR]; exact (Nat.le_of_ble_eq_true rfl))⟩) (sP_S hP hD hK hN) rfl rfl hl.1 rfl (lv_room (Nat.le_of_ble_eq_true rfl)) dX5_shareIfMoved_61 ⟨(by rw [hR]; exact (Nat.le_of_ble_eq_true rfl)), (by rw [hR]; exact (Nat.le_of_ble_eq_true rfl))⟩) hS hP (fun z61 H locs hz61 hP hS => ?_)
  obtain ⟨bz61, xpz61⟩ := hz61
  subst hR; subst hQz
  exact W.zret (v := z61) hx hb hr (nar01 (by omega) (by omega)) (fun t ht hW => ⟨⟨z61, (), rfl, ⟨⟨by omega, by omega⟩, (fun c ok h hs ha hb bd => by have va := fun k (hk : k < 8) => h.2.2.2.2 p1.toInt.toNat ha k hk; have vb := fun k (hk : k < 8) => h.2.2.2.2 p2.toInt.toNat hb k hk; rw [nf_of ey1, show fb Q y1 p1.toInt.toNat = y8 from fb_of ey4 ey8] at va; rw [nf_of ey1, show fb Q y1 p2.toInt.toNat = y19 from fb_of ey4 ey19] at vb; have qa := bXY ok ha; have qb := bXY ok hb; have xa : z41.toInt = bX c p1.toInt.toNat := (by rw [ez41, va 1 (by decide)]; rfl); have xb : z36.toInt = bX c p2.toInt.toNat := (by rw [ez36, vb 1 (by decide)]; rfl); have ya : z54.toInt = bY c p1.toInt.toNat := (by rw [ez54, va 2 (by decide)]; rfl); have yb : z49.toInt = bY c p2.toInt.toNat := (by rw [ez49, vb 2 (by decide)]; rfl); have e46 := tq_sub (k := z44.toInt) (q := p3.toInt) ez46 rfl rfl (by omega) (by omega); have e60 := tq_sub (k := z57.toInt) (q := p4.toInt) ez60 rfl rfl (by omega) (by omega); have m0 := shp_mko ok hs ha; have m1 := shp_mko ok hs hb; have ho := shp_ovl (dx := z46.toInt) (dy := z60.toInt) hs ha hb; rw [show sm Q p0 p1.toInt.toNat = y27 from sm_of ey23 ey27] at m0; rw [show sm Q p0 p2.toInt.toNat = y33 from sm_of ey23 ey33] at m1; rw [show sm Q p0 p1.toInt.toNat = y27 from sm_of ey23 ey27, show sm Q p0 p2.toInt.toNat = y33 from sm_of ey23 ey33] at ho; refine (xpz61 ⟨⟨by omega, by omega⟩, by omega, by omega⟩ m0 m1).trans (ho.trans ?_); unfold metM; rw [← xa, ← xb, ← ya, ← yb, e46, e60, bz44, bz57])⟩, trivial⟩, hS.F ht⟩) hS.2.2 dX5_shareIfMoved_64

set_option maxHeartbeats 4000000 in
set_option maxRecDepth 100000 in
theorem s_X5_touchesIfMoved (l : Launch) (dC : Nat → ClassId) (dI : Nat → Nat → Nat) (cs : Nat → ClassId) (L : List Nat) (K G : Nat → Nat) (Q : Nat → Nat → Option Nat) (hQ : Sv L K G Q) (x0 m0 : Nat) (tx : GT) (tm : GT × Int) (sz : Nat) (I : Nat → Nat → Int32) (J : Nat → Nat → Int64) (hI : Iv L K x0 m0 tx tm I) (p0 : Nat) (hLp0 : p0 ∈ L) (hKp0 : K p0 = 5) (p1 : Int32) (bp1 : (0) ≤ p1.toInt ∧ p1.toInt ≤ 9) (p2 : Int32) (bp2 : (0) ≤ p2.toInt ∧ p2.toInt ≤ 9) (p3 : Int32) (p4 : Int32) : Met l yX5_touchesIfMoved (.code yX5_touchesIfMoved cX5_touchesIfMoved 5 (some .boolean) :: pw) ({ frames := 3, cells := 0, slots := 0, locals := 82 }) (sP (dC, dI) cs [.ref p0, .int p1, .int p2, .int p3, .int p4] sz L K I J Q) (va_Qi (fun (r : Int32) (_ : Unit) => ((0) ≤ r.toInt ∧ r.toInt ≤ 1) ∧ (∀ c : Fx, okF c → cxF Q I J (nf Q p0) c → cxS Q I J p0 c → p1.toInt.toNat < (c.1 1).toInt.toNat → p2.toInt.toNat < (c.1 1).toInt.toNat → ((-20000 ≤ p3.toInt ∧ p3.toInt ≤ 20000) ∧ (-20000 ≤ p4.toInt ∧ p4.toInt ≤ 20000)) → (¬ r.toInt = 0 ↔ mayT c p1.toInt.toNat p2.toInt.toNat ∧ metM c p1.toInt.toNat p2.toInt.toNat p3.toInt p4.toInt))) (fun _ _ => True) (fun _ => False)) 0 0 (fun _ => False) := by
  refine Met.ofW (cc := cX5_touchesIfMoved) (maxL := 5) (ret := (some .boolean)) (by decide +kernel) rfl ?_
  intro p e s m args below meth c s₁ B hml hv
  obtain ⟨rfl, hsz, hP, hK, hD0, hN⟩ := hv
  have hx := B.exec
  have hb := B.bytes
  have hr := B.returns
  have hts := fun w (h : w ∈ pw) => atoms_spec (ws := Cond.code yX5_touchesIfMoved cX5_touchesIfMoved 5 (some .boolean) :: pw) B.pre w (List.mem_cons_of_mem _ h)
  have hown : s.vm.findClass RX5 = some m.cls := findClass_of_methodNamed B.named
  have hlocks := B.notSynchronized
  subst hsz
  have hBB : 999 ≤ tm.2 ∧ tm.2 ≤ 6000000 := hI.2.2.2.2.1
  have hD := hD0
  obtain ⟨H, hHe⟩ : ∃ H : Heap, H = s.heap := ⟨_, rfl⟩
  have hS : va_S (fun _ => False) s.heap H [] := by rw [hHe]; exact va_S.rf
  rw [← hHe] at hP
  have hl := lv_entry ([.ref p0, .int p1, .int p2, .int p3, .int p4]) (n := 5) (Nat.le_of_ble_eq_true rfl)
  rw [lg_entry_eq]
  generalize (lg_sl ([.ref p0, .int p1, .int p2, .int p3, .int p4]) ++ List.replicate (5 - (lg_sl ([.ref p0, .int p1, .int p2, .int p3, .int p4])).length) Slot.unset).toArray = ls at hl ⊢
  have hl : lv_has ls 5 [(0, .ref p0), (1, .int p1), (2, .int p2), (3, .int p3), (4, .int p4)] := hl
  rw [← hHe]
  refine namedW (fun R Qz hR hQz => ?_)
  refine lv_aload_n hx hb dX5_touchesIfMoved_0 rfl (lv_at hl 0 rfl) ?_
  refine lv_iload_n hx hb dX5_touchesIfMoved_1 rfl (lv_at hl 1 rfl) ?_
  refine lv_iload_n hx hb dX5_touchesIfMoved_2 rfl (lv_at hl 2 rfl) ?_
  refine ro_i (va_runV (As := [.int p1, .int p2]) (rest := []) ⟨hx, hb, hml, hown, hts⟩ (s_X5_mayTouch l dC dI cs L K G Q hQ x0 m0 tx tm H.size I J hI p0 hLp0 hKp0 p1 ⟨by omega, by omega⟩ p2 ⟨by omega, by omega⟩) (cwV 2 hts (gV pq756 pq757 pq758 pq79 pq759) rfl rfl rfl (by decide +kernel) ⟨(by rw [hR]; exact (Nat.le_of_ble_eq_true rfl)), (by rw [hR]; exact (Nat.le_of_ble_eq_true rfl))⟩) (sP_V hP hD hK hN hLp0 hKp0 rfl rfl) rfl rfl hl.1 rfl (lv_room (Nat.le_of_ble_eq_true rfl)) dX5_touchesIfMoved_3 ⟨(by rw [hR]; exact (Nat.le_of_ble_eq_true rfl)), (by rw [hR]; exact (Nat.le_of_ble_eq_true rfl))⟩) hS hP (fun z3 H locs hz3 hP hS => ?_)
  obtain ⟨bz3, xpz3⟩ := hz3
  refine lv_if_eq (tgt := 25) hx hb dX5_touchesIfMoved_6 (by decide) (fun c6 => ?_) (fun c6 => ?_)
  · have t6 := tq_eq (k := z3.toInt) (q := (0)) c6 rfl (by decide +kernel)
    refine lv_iconst (v := 0) hx hb dX5_touchesIfMoved_25 (by decide +kernel) ?_
    subst hR; subst hQz
    exact W.zret (v := 0) hx hb hr (by decide +kernel) (fun t ht hW => ⟨⟨0, (), rfl, ⟨⟨by decide +kernel, by decide +kernel⟩, (fun c ok h hs ha hb bd => by have q1 := xpz3 c h ha hb; exact ⟨fun q => absurd (by decide +kernel) q, fun q => by first | exact absurd t6 (q1.mpr q.1) | (have q2 := xpz15 c ok h hs ha hb bd; exact absurd t18 (q2.mpr q.2))⟩)⟩, trivial⟩, hS.F ht⟩) hS.2.2 dX5_touchesIfMoved_26
  · have t6 := tq_ne (k := z3.toInt) (q := (0)) c6 rfl (by decide +kernel)
    refine lv_aload_n hx hb dX5_touchesIfMoved_9 rfl (lv_at hl 0 rfl) ?_
    refine lv_iload_n hx hb dX5_touchesIfMoved_10 rfl (lv_at hl 1 rfl) ?_
    refine lv_iload_n hx hb dX5_touchesIfMoved_11 rfl (lv_at hl 2 rfl) ?_
    refine lv_iload_n hx hb dX5_touchesIfMoved_12 rfl (lv_at hl 3 rfl) ?_
    refine lv_iload hx hb dX5_touchesIfMoved_13 (lv_at hl 4 rfl) ?_
    refine ro_i (va_runV (As := [.int p1, .int p2, .int p3, .int p4]) (rest := []) ⟨hx, hb, hml, hown, hts⟩ (s_X5_shareIfMoved l dC dI cs L K G Q hQ x0 m0 tx tm H.size I J hI p0 hLp0 hKp0 p1 ⟨by omega, by omega⟩ p2 ⟨by omega, by omega⟩ p3 p4) (cwV 4 hts (gV pq766 pq767 pq768 pq79 pq769) rfl rfl rfl (by decide +kernel) ⟨(by rw [hR]; exact (Nat.le_of_ble_eq_true rfl)), (by rw [hR]; exact (Nat.le_of_ble_eq_true rfl))⟩) (sP_V hP hD hK hN hLp0 hKp0 rfl rfl) rfl rfl hl.1 rfl (lv_room (Nat.le_of_ble_eq_true rfl)) dX5_touchesIfMoved_15 ⟨(by rw [hR]; exact (Nat.le_of_ble_eq_true rfl)), (by rw [hR]; exact (Nat.le_of_ble_eq_true rfl))⟩) hS hP (fun z15 H locs hz15 hP hS => ?_)
    obtain ⟨bz15, xpz15⟩ := hz15
    refine lv_if_eq (tgt := 25) hx hb dX5_touchesIfMoved_18 (by decide) (fun c18 => ?_) (fun c18 => ?_)
    · have t18 := tq_eq (k := z15.toInt) (q := (0)) c18 rfl (by decide +kernel)
      refine lv_iconst (v := 0) hx hb dX5_touchesIfMoved_25 (by decide +kernel) ?_
      subst hR; subst hQz
      exact W.zret (v := 0) hx hb hr (by decide +kernel) (fun t ht hW => ⟨⟨0, (), rfl, ⟨⟨by decide +kernel, by decide +kernel⟩, (fun c ok h hs ha hb bd => by have q1 := xpz3 c h ha hb; exact ⟨fun q => absurd (by decide +kernel) q, fun q => by first | exact absurd t6 (q1.mpr q.1) | (have q2 := xpz15 c ok h hs ha hb bd; exact absurd t18 (q2.mpr q.2))⟩)⟩, trivial⟩, hS.F ht⟩) hS.2.2 dX5_touchesIfMoved_26
    · have t18 := tq_ne (k := z15.toInt) (q := (0)) c18 rfl (by decide +kernel)
      refine lv_iconst (v := 1) hx hb dX5_touchesIfMoved_21 (by decide +kernel) ?_
      refine lv_goto (tgt := 26) hx hb dX5_touchesIfMoved_22 (by decide) ?_
      subst hR; subst hQz
      exact W.zret (v := 1) hx hb hr (by decide +kernel) (fun t ht hW => ⟨⟨1, (), rfl, ⟨⟨by decide +kernel, by decide +kernel⟩, (fun c ok h hs ha hb bd => by have q1 := xpz3 c h ha hb; have q2 := xpz15 c ok h hs ha hb bd; exact ⟨fun _ => ⟨q1.mp t6, q2.mp t18⟩, fun _ => by decide +kernel⟩)⟩, trivial⟩, hS.F ht⟩) hS.2.2 dX5_touchesIfMoved_26

set_option maxHeartbeats 4000000 in
set_option maxRecDepth 100000 in
theorem s_X5_firstTouchOfTwo (l : Launch) (dC : Nat → ClassId) (dI : Nat → Nat → Nat) (cs : Nat → ClassId) (L : List Nat) (K G : Nat → Nat) (Q : Nat → Nat → Option Nat) (hQ : Sv L K G Q) (x0 m0 : Nat) (tx : GT) (tm : GT × Int) (sz : Nat) (I : Nat → Nat → Int32) (J : Nat → Nat → Int64) (hI : Iv L K x0 m0 tx tm I) (p0 : Nat) (hLp0 : p0 ∈ L) (hKp0 : K p0 = 5) (p1 : Int32) (bp1 : (0) ≤ p1.toInt ∧ p1.toInt ≤ 9) (p2 : Int32) (bp2 : (0) ≤ p2.toInt ∧ p2.toInt ≤ 9) (p3 : Int32) (p4 : Int32) (p5 : Int32) (bp5 : (0) ≤ p5.toInt ∧ p5.toInt ≤ 500) : Met l yX5_firstTouchOfTwo (.code yX5_firstTouchOfTwo cX5_firstTouchOfTwo 7 (some .int) :: pw) ({ frames := 3, cells := 0, slots := 0, locals := 82 }) (sP (dC, dI) cs [.ref p0, .int p1, .int p2, .int p3, .int p4, .int p5] sz L K I J Q) (va_Qi (fun (r : Int32) (_ : Unit) => (∀ c : Fx, okF c → cxF Q I J (nf Q p0) c → cxS Q I J p0 c → p1.toInt.toNat < (c.1 1).toInt.toNat → p2.toInt.toNat < (c.1 1).toInt.toNat → ((-40 ≤ p3.toInt ∧ p3.toInt ≤ 40) ∧ (-40 ≤ p4.toInt ∧ p4.toInt ≤ 40)) → gpR (gpP c p1.toInt.toNat p2.toInt.toNat p3.toInt p4.toInt) p5.toInt r)) (fun _ _ => True) (fun _ => False)) 0 0 (fun _ => False) := by
  refine Met.ofW (cc := cX5_firstTouchOfTwo) (maxL := 7) (ret := (some .int)) (by decide +kernel) rfl ?_
  intro p e s m args below meth c s₁ B hml hv
  obtain ⟨rfl, hsz, hP, hK, hD0, hN⟩ := hv
  have hx := B.exec
  have hb := B.bytes
  have hr := B.returns
  have hts := fun w (h : w ∈ pw) => atoms_spec (ws := Cond.code yX5_firstTouchOfTwo cX5_firstTouchOfTwo 7 (some .int) :: pw) B.pre w (List.mem_cons_of_mem _ h)
  have hown : s.vm.findClass RX5 = some m.cls := findClass_of_methodNamed B.named
  have hlocks := B.notSynchronized
  subst hsz
  have hBB : 999 ≤ tm.2 ∧ tm.2 ≤ 6000000 := hI.2.2.2.2.1
  have hD := hD0
  obtain ⟨H, hHe⟩ : ∃ H : Heap, H = s.heap := ⟨_, rfl⟩
  have hS : va_S (fun _ => False) s.heap H [] := by rw [hHe]; exact va_S.rf
  rw [← hHe] at hP
  have hl := lv_entry ([.ref p0, .int p1, .int p2, .int p3, .int p4, .int p5]) (n := 7) (Nat.le_of_ble_eq_true rfl)
  rw [lg_entry_eq]
  generalize (lg_sl ([.ref p0, .int p1, .int p2, .int p3, .int p4, .int p5]) ++ List.replicate (7 - (lg_sl ([.ref p0, .int p1, .int p2, .int p3, .int p4, .int p5])).length) Slot.unset).toArray = ls at hl ⊢
  have hl : lv_has ls 7 [(0, .ref p0), (1, .int p1), (2, .int p2), (3, .int p3), (4, .int p4), (5, .int p5)] := hl
  rw [← hHe]
  refine namedW (fun R Qz hR hQz => ?_)
  refine lv_aload_n hx hb dX5_firstTouchOfTwo_0 rfl (lv_at hl 0 rfl) ?_
  refine lv_iload_n hx hb dX5_firstTouchOfTwo_1 rfl (lv_at hl 1 rfl) ?_
  refine lv_iload_n hx hb dX5_firstTouchOfTwo_2 rfl (lv_at hl 2 rfl) ?_
  refine ro_i (va_runV (As := [.int p1, .int p2]) (rest := []) ⟨hx, hb, hml, hown, hts⟩ (s_X5_mayTouch l dC dI cs L K G Q hQ x0 m0 tx tm H.size I J hI p0 hLp0 hKp0 p1 ⟨by omega, by omega⟩ p2 ⟨by omega, by omega⟩) (cwV 2 hts (gV pq756 pq757 pq758 pq79 pq759) rfl rfl rfl (by decide +kernel) ⟨(by rw [hR]; exact (Nat.le_of_ble_eq_true rfl)), (by rw [hR]; exact (Nat.le_of_ble_eq_true rfl))⟩) (sP_V hP hD hK hN hLp0 hKp0 rfl rfl) rfl rfl hl.1 rfl (lv_room (Nat.le_of_ble_eq_true rfl)) dX5_firstTouchOfTwo_3 ⟨(by rw [hR]; exact (Nat.le_of_ble_eq_true rfl)), (by rw [hR]; exact (Nat.le_of_ble_eq_true rfl))⟩) hS hP (fun z3 H locs hz3 hP hS => ?_)
  obtain ⟨bz3, xpz3⟩ := hz3
  refine lv_if_ne (tgt := 12) hx hb dX5_firstTouchOfTwo_6 (by decide) (fun c6 => ?_) (fun c6 => ?_)
  · have t6 := tq_ne (k := z3.toInt) (q := (0)) c6 rfl (by decide +kernel)
    refine lv_iconst (v := 0) hx hb dX5_firstTouchOfTwo_12 (by decide +kernel) ?_
    refine lv_istore (lv' := [(6, .int 0), (0, .ref p0), (1, .int p1), (2, .int p2), (3, .int p3), (4, .int p4), (5, .int p5)]) hx hb dX5_firstTouchOfTwo_13 hl (by decide) rfl (fun ls hl => ?_)
    have key15 := blocks (fun n => ∀ (v15_6 : Int32) (H : Heap) (lo : List Loc) (ls : Array Slot), (502 - v15_6.toInt).toNat = n → ((0) ≤ v15_6.toInt ∧ v15_6.toInt ≤ 501) → (∀ c : Fx, okF c → cxF Q I J (nf Q p0) c → cxS Q I J p0 c → p1.toInt.toNat < (c.1 1).toInt.toNat → p2.toInt.toNat < (c.1 1).toInt.toNat → ((-40 ≤ p3.toInt ∧ p3.toInt ≤ 40) ∧ (-40 ≤ p4.toInt ∧ p4.toInt ≤ 40)) → ∀ j : Int, 0 ≤ j → j < v15_6.toInt → ¬ gpP c p1.toInt.toNat p2.toInt.toNat p3.toInt p4.toInt j) → va_P (dC, dI) vwCl (Wd cs L K I J Q) H → va_S (fun _ => False) s.heap H lo → lv_has ls 7 [(0, .ref p0), (1, .int p1), (2, .int p2), (3, .int p3), (4, .int p4), (5, .int p5), (6, .int v15_6)] → W p l e R s m (([.ref p0, .int p1, .int p2, .int p3, .int p4, .int p5] : List Value).toArray) below meth c H lo 0 0 Qz (F0 m 15 ls [])) (by
      intro n ih15
      intro v15_6 H lo ls hmu15 bv15_6 g15 hP hS hl
      refine lv_iload hx hb dX5_firstTouchOfTwo_15 (lv_at hl 6 rfl) ?_
      refine lv_iload hx hb dX5_firstTouchOfTwo_17 (lv_at hl 5 rfl) ?_
      refine lv_icmp_gt (tgt := 49) hx hb dX5_firstTouchOfTwo_19 (by decide) (fun c19 => ?_) (fun c19 => ?_)
      · have t19 := tq_lt (k := p5.toInt) (q := v15_6.toInt) c19 rfl rfl
        refine lv_bipush (v := (-2)) hx hb dX5_firstTouchOfTwo_49 (by decide +kernel) ?_
        subst hR; subst hQz
        exact W.iret (v := (-2)) hx hb hr (fun t ht hW => ⟨⟨(-2), (), rfl, (fun c ok h hs ha hb bd => by exact Or.inr ⟨fun j a b e => by first | exact g15 c ok h hs ha hb bd j a (by omega) e | exact (xpz3 c h ha hb).mpr e.1 t6, by decide +kernel⟩), trivial⟩, hS.F ht⟩) hS.2.2 dX5_firstTouchOfTwo_51
      · have t19 := tq_nlt (k := p5.toInt) (q := v15_6.toInt) c19 rfl rfl
        refine lv_aload_n hx hb dX5_firstTouchOfTwo_22 rfl (lv_at hl 0 rfl) ?_
        refine lv_iload_n hx hb dX5_firstTouchOfTwo_23 rfl (lv_at hl 1 rfl) ?_
        refine lv_iload_n hx hb dX5_firstTouchOfTwo_24 rfl (lv_at hl 2 rfl) ?_
        refine lv_iload hx hb dX5_firstTouchOfTwo_25 (lv_at hl 6 rfl) ?_
        refine lv_iload_n hx hb dX5_firstTouchOfTwo_27 rfl (lv_at hl 3 rfl) ?_
        refine lv_imul hx hb dX5_firstTouchOfTwo_28 ?_
        refine lv_topi (fun z28 ez28 => ?_)
        refine lv_iload hx hb dX5_firstTouchOfTwo_29 (lv_at hl 6 rfl) ?_
        refine lv_iload hx hb dX5_firstTouchOfTwo_31 (lv_at hl 4 rfl) ?_
        refine lv_imul hx hb dX5_firstTouchOfTwo_33 ?_
        refine lv_topi (fun z33 ez33 => ?_)
        refine ro_i (va_runV (As := [.int p1, .int p2, .int z28, .int z33]) (rest := []) ⟨hx, hb, hml, hown, hts⟩ (s_X5_shareIfMoved l dC dI cs L K G Q hQ x0 m0 tx tm H.size I J hI p0 hLp0 hKp0 p1 ⟨by omega, by omega⟩ p2 ⟨by omega, by omega⟩ z28 z33) (cwV 4 hts (gV pq766 pq767 pq768 pq79 pq769) rfl rfl rfl (by decide +kernel) ⟨(by rw [hR]; exact (Nat.le_of_ble_eq_true rfl)), (by rw [hR]; exact (Nat.le_of_ble_eq_true rfl))⟩) (sP_V hP hD hK hN hLp0 hKp0 rfl rfl) rfl rfl hl.1 rfl (lv_room (Nat.le_of_ble_eq_true rfl)) dX5_firstTouchOfTwo_34 ⟨(by rw [hR]; exact (Nat.le_of_ble_eq_true rfl)), (by rw [hR]; exact (Nat.le_of_ble_eq_true rfl))⟩) hS hP (fun z34 H locs hz34 hP hS => ?_)
        obtain ⟨bz34, xpz34⟩ := hz34
        refine lv_if_eq (tgt := 43) hx hb dX5_firstTouchOfTwo_37 (by decide) (fun c37 => ?_) (fun c37 => ?_)
        · have t37 := tq_eq (k := z34.toInt) (q := (0)) c37 rfl (by decide +kernel)
          obtain ⟨z43, ez43⟩ : ∃ y : Int32, y = v15_6 + 1 := ⟨_, rfl⟩
          refine lv_iinc (v := z43) (lv' := [(6, .int z43), (0, .ref p0), (1, .int p1), (2, .int p2), (3, .int p3), (4, .int p4), (5, .int p5)]) hx hb dX5_firstTouchOfTwo_43 hl (k := 6) rfl (by rw [ez43]; rfl) (by decide) rfl (fun ls hl => ?_)
          have bz43 := tq_add (k := v15_6.toInt) (q := 1) ez43 rfl (by decide +kernel) (by omega) (by omega)
          refine lv_goto (tgt := 15) hx hb dX5_firstTouchOfTwo_46 (by decide) ?_
          exact ih15 _ (by omega) z43 _ _ _ rfl ⟨by omega, by omega⟩ (fun c ok h hs ha hb bd j a b => by have m1 := mul_40 ez28 ⟨by omega, by omega⟩ bd.1; have m2 := mul_40 ez33 ⟨by omega, by omega⟩ bd.2; have w := xpz34 c ok h hs ha hb ⟨⟨by omega, by omega⟩, by omega, by omega⟩; rcases Int.lt_or_le j v15_6.toInt with q | q; (exact g15 c ok h hs ha hb bd j a q); (obtain rfl : j = v15_6.toInt := by omega); exact fun e => (w.mpr (by rw [m1.1, m2.1]; exact e.2)) t37) hP hS (lv_sub hl [1, 2, 3, 4, 5, 6, 0] rfl)
        · have t37 := tq_ne (k := z34.toInt) (q := (0)) c37 rfl (by decide +kernel)
          refine lv_iload hx hb dX5_firstTouchOfTwo_40 (lv_at hl 6 rfl) ?_
          subst hR; subst hQz
          exact W.iret (v := v15_6) hx hb hr (fun t ht hW => ⟨⟨v15_6, (), rfl, (fun c ok h hs ha hb bd => by have m1 := mul_40 ez28 ⟨by omega, by omega⟩ bd.1; have m2 := mul_40 ez33 ⟨by omega, by omega⟩ bd.2; have w := xpz34 c ok h hs ha hb ⟨⟨by omega, by omega⟩, by omega, by omega⟩; exact Or.inl ⟨v15_6.toInt, ⟨by omega, by omega⟩, ⟨(xpz3 c h ha hb).mp t6, by have e := w.mp t37; rw [m1.1, m2.1] at e; exact e⟩, fun j a b => g15 c ok h hs ha hb bd j a b, rfl⟩), trivial⟩, hS.F ht⟩) hS.2.2 dX5_firstTouchOfTwo_42)
    exact key15 _ 0 _ _ _ rfl ⟨by decide +kernel, by decide +kernel⟩ (fun c ok h hs ha hb bd j a b => absurd b (by rw [show (0 : Int32).toInt = 0 from by decide +kernel]; omega)) hP hS (lv_sub hl [1, 2, 3, 4, 5, 6, 0] rfl)
  · have t6 := tq_eq (k := z3.toInt) (q := (0)) c6 rfl (by decide +kernel)
    refine lv_bipush (v := (-2)) hx hb dX5_firstTouchOfTwo_9 (by decide +kernel) ?_
    subst hR; subst hQz
    exact W.iret (v := (-2)) hx hb hr (fun t ht hW => ⟨⟨(-2), (), rfl, (fun c ok h hs ha hb bd => by exact Or.inr ⟨fun j a b e => by first | exact g15 c ok h hs ha hb bd j a (by omega) e | exact (xpz3 c h ha hb).mpr e.1 t6, by decide +kernel⟩), trivial⟩, hS.F ht⟩) hS.2.2 dX5_firstTouchOfTwo_11

set_option maxHeartbeats 4000000 in
set_option maxRecDepth 100000 in
theorem s_X5_wayPasses (l : Launch) (dC : Nat → ClassId) (dI : Nat → Nat → Nat) (cs : Nat → ClassId) (L : List Nat) (K G : Nat → Nat) (Q : Nat → Nat → Option Nat) (hQ : Sv L K G Q) (x0 m0 : Nat) (tx : GT) (tm : GT × Int) (sz : Nat) (I : Nat → Nat → Int32) (J : Nat → Nat → Int64) (hI : Iv L K x0 m0 tx tm I) (p0 : Nat) (hLp0 : p0 ∈ L) (hKp0 : K p0 = 5) (p1 : Int32) (bp1 : (0) ≤ p1.toInt ∧ p1.toInt ≤ 9) (p2 : Int32) (bp2 : (0) ≤ p2.toInt ∧ p2.toInt ≤ 9) (p3 : Int32) (p4 : Int32) : Met l yX5_wayPasses (.code yX5_wayPasses cX5_wayPasses 9 (some .boolean) :: pw) ({ frames := 1, cells := 0, slots := 0, locals := 15 }) (sP (dC, dI) cs [.ref p0, .int p1, .int p2, .int p3, .int p4] sz L K I J Q) (va_Qi (fun (r : Int32) (_ : Unit) => ((0) ≤ r.toInt ∧ r.toInt ≤ 1) ∧ (∀ c : Fx, okF c → cxF Q I J (nf Q p0) c → cxS Q I J p0 c → p1.toInt.toNat < (c.1 1).toInt.toNat → p2.toInt.toNat < (c.1 1).toInt.toNat → ((-20000 ≤ p3.toInt ∧ p3.toInt ≤ 20000) ∧ (-20000 ≤ p4.toInt ∧ p4.toInt ≤ 20000)) → (∀ x y : Int, (min p3.toInt 0 ≤ x ∧ x ≤ max p3.toInt 0) → (min p4.toInt 0 ≤ y ∧ y ≤ max p4.toInt 0) → metM c p1.toInt.toNat p2.toInt.toNat x y → ¬ r.toInt = 0))) (fun _ _ => True) (fun _ => False)) 0 0 (fun _ => False) := by
  refine Met.ofW (cc := cX5_wayPasses) (maxL := 9) (ret := (some .boolean)) (by decide +kernel) rfl ?_
  intro p e s m args below meth c s₁ B hml hv
  obtain ⟨rfl, hsz, hP, hK, hD0, hN⟩ := hv
  have hx := B.exec
  have hb := B.bytes
  have hr := B.returns
  have hts := fun w (h : w ∈ pw) => atoms_spec (ws := Cond.code yX5_wayPasses cX5_wayPasses 9 (some .boolean) :: pw) B.pre w (List.mem_cons_of_mem _ h)
  have hown : s.vm.findClass RX5 = some m.cls := findClass_of_methodNamed B.named
  have hlocks := B.notSynchronized
  subst hsz
  have hBB : 999 ≤ tm.2 ∧ tm.2 ≤ 6000000 := hI.2.2.2.2.1
  have hD := hD0
  obtain ⟨H, hHe⟩ : ∃ H : Heap, H = s.heap := ⟨_, rfl⟩
  have hS : va_S (fun _ => False) s.heap H [] := by rw [hHe]; exact va_S.rf
  rw [← hHe] at hP
  have hl := lv_entry ([.ref p0, .int p1, .int p2, .int p3, .int p4]) (n := 9) (Nat.le_of_ble_eq_true rfl)
  rw [lg_entry_eq]
  generalize (lg_sl ([.ref p0, .int p1, .int p2, .int p3, .int p4]) ++ List.replicate (9 - (lg_sl ([.ref p0, .int p1, .int p2, .int p3, .int p4])).length) Slot.unset).toArray = ls at hl ⊢
  have hl : lv_has ls 9 [(0, .ref p0), (1, .int p1), (2, .int p2), (3, .int p3), (4, .int p4)] := hl
  rw [← hHe]
  refine namedW (fun R Qz hR hQz => ?_)
  refine lv_aload_n hx hb dX5_wayPasses_0 rfl (lv_at hl 0 rfl) ?_
  obtain ⟨y1, ey1, hLy1, hKy1, hGy1⟩ := oQ_5_1 (Sv_at hQ hLp0 hKp0)
  refine p_get (v := .ref y1) hx hb hts inX5 hown hK hP hLp0 hKp0 rfl rfl 1 (by decide) (hts _ pq275) (congrArg (fun q => some (va_rf q)) ey1) dX5_wayPasses_1 ?_
  refine lv_iload_n hx hb dX5_wayPasses_4 rfl (lv_at hl 1 rfl) ?_
  obtain ⟨y5, ey5, hLy5, hKy5, hGy5⟩ := (Sv_at hQ hLy1 hKy1).1 p1.toNatClampNeg (clamp_lt (n := 10) (in_of (by omega) (by omega)))
  have hjy5 : p1.toNatClampNeg < 10 := clamp_lt (i := p1) (n := 10) (in_of (by omega) (by omega))
  refine p_aaldR hx hb hK hP 5 hLy1 hKy1 rfl rfl (in_of (by omega) (by omega)) ey5 dX5_wayPasses_5 ?_
  refine lv_astore (lv' := [(5, .ref y5), (0, .ref p0), (1, .int p1), (2, .int p2), (3, .int p3), (4, .int p4)]) hx hb dX5_wayPasses_6 hl (by decide) rfl (fun ls hl => ?_)
  refine lv_aload_n hx hb dX5_wayPasses_8 rfl (lv_at hl 1 rfl) ?_
  refine p_get (v := .ref y1) hx hb hts inX5 hown hK hP hLp0 hKp0 rfl rfl 1 (by decide) (hts _ pq275) (congrArg (fun q => some (va_rf q)) ey1) dX5_wayPasses_9 ?_
  refine lv_iload_n hx hb dX5_wayPasses_12 rfl (lv_at hl 3 rfl) ?_
  obtain ⟨y13, ey13, hLy13, hKy13, hGy13⟩ := (Sv_at hQ hLy1 hKy1).1 p2.toNatClampNeg (clamp_lt (n := 10) (in_of (by omega) (by omega)))
  have hjy13 : p2.toNatClampNeg < 10 := clamp_lt (i := p2) (n := 10) (in_of (by omega) (by omega))
  refine p_aaldR hx hb hK hP 5 hLy1 hKy1 rfl rfl (in_of (by omega) (by omega)) ey13 dX5_wayPasses_13 ?_
  refine lv_astore (lv' := [(6, .ref y13), (5, .ref y5), (0, .ref p0), (1, .int p1), (2, .int p2), (3, .int p3), (4, .int p4)]) hx hb dX5_wayPasses_14 hl (by decide) rfl (fun ls hl => ?_)
  refine lv_aload_n hx hb dX5_wayPasses_16 rfl (lv_at hl 2 rfl) ?_
  obtain ⟨y17, ey17, hLy17, hKy17, hGy17⟩ := oQ_5_0 (Sv_at hQ hLp0 hKp0)
  refine p_get (v := .ref y17) hx hb hts inX5 hown hK hP hLp0 hKp0 rfl rfl 0 (by decide) (hts _ pq274) (congrArg (fun q => some (va_rf q)) ey17) dX5_wayPasses_17 ?_
  obtain ⟨y20, ey20, hLy20, hKy20, hGy20⟩ := oQ_1_1 (Sv_at hQ hLy17 hKy17)
  refine p_get (v := .ref y20) hx hb hts inX1 hown hK hP hLy17 hKy17 rfl rfl 1 (by decide) (hts _ pq218) (congrArg (fun q => some (va_rf q)) ey20) dX5_wayPasses_20 ?_
  refine lv_iload_n hx hb dX5_wayPasses_23 rfl (lv_at hl 4 rfl) ?_
  obtain ⟨y24, ey24, hLy24, hKy24, hGy24⟩ := (Sv_at hQ hLy20 hKy20).1 p2.toNatClampNeg (clamp_lt (n := 10) (in_of (by omega) (by omega)))
  refine p_aaldR hx hb hK hP 4 hLy20 hKy20 rfl rfl (in_of (by omega) (by omega)) ey24 dX5_wayPasses_24 ?_
  refine p_get hx hb hts inX0 hown hK hP hLy24 hKy24 rfl rfl 1 (by decide) (hts _ pq173) rfl dX5_wayPasses_25 ?_
  refine lv_topi (fun z25 ez25 => ?_)
  have cgz25 := congrArg Int32.toInt ez25
  have bz25 := oI_0_1 (Iv_at hI hLy24 hKy24)
  rw [← ez25] at bz25
  refine lv_aload_n hx hb dX5_wayPasses_28 rfl (lv_at hl 2 rfl) ?_
  refine p_get (v := .ref y17) hx hb hts inX5 hown hK hP hLp0 hKp0 rfl rfl 0 (by decide) (hts _ pq274) (congrArg (fun q => some (va_rf q)) ey17) dX5_wayPasses_29 ?_
  refine p_get (v := .ref y20) hx hb hts inX1 hown hK hP hLy17 hKy17 rfl rfl 1 (by decide) (hts _ pq218) (congrArg (fun q => some (va_rf q)) ey20) dX5_wayPasses_32 ?_
  refine lv_iload_n hx hb dX5_wayPasses_35 rfl (lv_at hl 3 rfl) ?_
  obtain ⟨y36, ey36, hLy36, hKy36, hGy36⟩ := (Sv_at hQ hLy20 hKy20).1 p1.toNatClampNeg (clamp_lt (n := 10) (in_of (by omega) (by omega)))
  refine p_aaldR hx hb hK hP 4 hLy20 hKy20 rfl rfl (in_of (by omega) (by omega)) ey36 dX5_wayPasses_36 ?_
  refine p_get hx hb hts inX0 hown hK hP hLy36 hKy36 rfl rfl 1 (by decide) (hts _ pq173) rfl dX5_wayPasses_37 ?_
  refine lv_topi (fun z37 ez37 => ?_)
  have cgz37 := congrArg Int32.toInt ez37
  have bz37 := oI_0_1 (Iv_at hI hLy36 hKy36)
  rw [← ez37] at bz37
  refine lv_isub hx hb dX5_wayPasses_40 ?_
  refine lv_topi (fun z40 ez40 => ?_)
  have bz40 := tq_sub (k := z25.toInt) (q := z37.toInt) ez40 rfl rfl (by omega) (by omega)
  refine lv_istore (lv' := [(7, .int z40), (6, .ref y13), (5, .ref y5), (0, .ref p0), (1, .int p1), (2, .int p2), (3, .int p3), (4, .int p4)]) hx hb dX5_wayPasses_41 hl (by decide) rfl (fun ls hl => ?_)
  refine lv_aload_n hx hb dX5_wayPasses_43 rfl (lv_at hl 3 rfl) ?_
  refine p_get (v := .ref y17) hx hb hts inX5 hown hK hP hLp0 hKp0 rfl rfl 0 (by decide) (hts _ pq274) (congrArg (fun q => some (va_rf q)) ey17) dX5_wayPasses_44 ?_
  refine p_get (v := .ref y20) hx hb hts inX1 hown hK hP hLy17 hKy17 rfl rfl 1 (by decide) (hts _ pq218) (congrArg (fun q => some (va_rf q)) ey20) dX5_wayPasses_47 ?_
  refine lv_iload_n hx hb dX5_wayPasses_50 rfl (lv_at hl 5 rfl) ?_
  refine p_aaldR hx hb hK hP 4 hLy20 hKy20 rfl rfl (in_of (by omega) (by omega)) ey24 dX5_wayPasses_51 ?_
  refine p_get hx hb hts inX0 hown hK hP hLy24 hKy24 rfl rfl 2 (by decide) (hts _ pq176) rfl dX5_wayPasses_52 ?_
  refine lv_topi (fun z52 ez52 => ?_)
  have cgz52 := congrArg Int32.toInt ez52
  have bz52 := oI_0_2 (Iv_at hI hLy24 hKy24)
  rw [← ez52] at bz52
  refine lv_aload_n hx hb dX5_wayPasses_55 rfl (lv_at hl 3 rfl) ?_
  refine p_get (v := .ref y17) hx hb hts inX5 hown hK hP hLp0 hKp0 rfl rfl 0 (by decide) (hts _ pq274) (congrArg (fun q => some (va_rf q)) ey17) dX5_wayPasses_56 ?_
  refine p_get (v := .ref y20) hx hb hts inX1 hown hK hP hLy17 hKy17 rfl rfl 1 (by decide) (hts _ pq218) (congrArg (fun q => some (va_rf q)) ey20) dX5_wayPasses_59 ?_
  refine lv_iload_n hx hb dX5_wayPasses_62 rfl (lv_at hl 4 rfl) ?_
  refine p_aaldR hx hb hK hP 4 hLy20 hKy20 rfl rfl (in_of (by omega) (by omega)) ey36 dX5_wayPasses_63 ?_
  refine p_get hx hb hts inX0 hown hK hP hLy36 hKy36 rfl rfl 2 (by decide) (hts _ pq176) rfl dX5_wayPasses_64 ?_
  refine lv_topi (fun z64 ez64 => ?_)
  have cgz64 := congrArg Int32.toInt ez64
  have bz64 := oI_0_2 (Iv_at hI hLy36 hKy36)
  rw [← ez64] at bz64
  refine lv_isub hx hb dX5_wayPasses_67 ?_
  refine lv_topi (fun z67 ez67 => ?_)
  have bz67 := tq_sub (k := z52.toInt) (q := z64.toInt) ez67 rfl rfl (by omega) (by omega)
  refine lv_istore (lv' := [(8, .int z67), (7, .int z40), (6, .ref y13), (5, .ref y5), (0, .ref p0), (1, .int p1), (2, .int p2), (3, .int p3), (4, .int p4)]) hx hb dX5_wayPasses_68 hl (by decide) rfl (fun ls hl => ?_)
  refine lv_aload hx hb dX5_wayPasses_70 (lv_at hl 3 rfl) ?_
  refine p_get hx hb hts inX3 hown hK hP hLy5 hKy5 rfl rfl 3 (by decide) (hts _ pq130) rfl dX5_wayPasses_72 ?_
  refine lv_topi (fun z72 ez72 => ?_)
  refine lv_if_le (tgt := 180) hx hb dX5_wayPasses_75 (by decide) (fun c75 => ?_) (fun c75 => ?_)
  · have t75 := tq_le (k := z72.toInt) (q := (0)) c75 rfl (by decide +kernel)
    refine lv_iconst (v := 0) hx hb dX5_wayPasses_180 (by decide +kernel) ?_
    subst hR; subst hQz
    exact W.zret (v := 0) hx hb hr (by decide +kernel) (fun t ht hW => ⟨⟨0, (), rfl, ⟨⟨by decide +kernel, by decide +kernel⟩, (fun c ok h hs ha hb bd x y hx hy m => by exfalso; have va := fun k (hk : k < 8) => h.2.2.2.2 p1.toInt.toNat ha k hk; have vb := fun k (hk : k < 8) => h.2.2.2.2 p2.toInt.toNat hb k hk; rw [nf_of ey17, show fb Q y17 p1.toInt.toNat = y36 from fb_of ey20 ey36] at va; rw [nf_of ey17, show fb Q y17 p2.toInt.toNat = y24 from fb_of ey20 ey24] at vb; have xa : z37.toInt = bX c p1.toInt.toNat := (by rw [ez37, va 1 (by decide)]; rfl); have xb : z25.toInt = bX c p2.toInt.toNat := (by rw [ez25, vb 1 (by decide)]; rfl); have ya : z64.toInt = bY c p1.toInt.toNat := (by rw [ez64, va 2 (by decide)]; rfl); have yb : z52.toInt = bY c p2.toInt.toNat := (by rw [ez52, vb 2 (by decide)]; rfl); have m0 := (shp_mko ok hs ha).2; have m1 := (shp_mko ok hs hb).2; have o := (shp_ovl hs ha hb).mpr m; rw [show sm Q p0 p1.toInt.toNat = y5 from sm_of ey1 ey5] at m0 o; rw [show sm Q p0 p2.toInt.toNat = y13 from sm_of ey1 ey13] at m1 o; have b := ovl_box m0 m1 o; rw [← xa, ← xb, ← ya, ← yb] at b; unfold bxs at b; first | (have e96 := tq_add (k := z88.toInt) (q := z93.toInt) ez96 rfl rfl (by omega) (by omega); have e126 := tq_add (k := z118.toInt) (q := z123.toInt) ez126 rfl rfl (by omega) (by omega); have e141 := tq_add (k := z132.toInt) (q := z138.toInt) ez141 rfl rfl (by omega) (by omega); have e172 := tq_add (k := z163.toInt) (q := z169.toInt) ez172 rfl rfl (by omega) (by omega); rw [← ez72, ← ez80, ← ez88, ← ez99, ← ez110, ← ez118, ← ez132, ← ez144, ← ez155, ← ez163] at b; omega) | (have e96 := tq_add (k := z88.toInt) (q := z93.toInt) ez96 rfl rfl (by omega) (by omega); have e126 := tq_add (k := z118.toInt) (q := z123.toInt) ez126 rfl rfl (by omega) (by omega); have e141 := tq_add (k := z132.toInt) (q := z138.toInt) ez141 rfl rfl (by omega) (by omega); rw [← ez72, ← ez80, ← ez88, ← ez99, ← ez110, ← ez118, ← ez132, ← ez144] at b; omega) | (have e96 := tq_add (k := z88.toInt) (q := z93.toInt) ez96 rfl rfl (by omega) (by omega); have e126 := tq_add (k := z118.toInt) (q := z123.toInt) ez126 rfl rfl (by omega) (by omega); rw [← ez72, ← ez80, ← ez88, ← ez99, ← ez110, ← ez118] at b; omega) | (have e96 := tq_add (k := z88.toInt) (q := z93.toInt) ez96 rfl rfl (by omega) (by omega); rw [← ez72, ← ez80, ← ez88, ← ez99] at b; omega) | (rw [← ez72, ← ez80] at b; omega) | (rw [← ez72] at b; omega))⟩, trivial⟩, hS.F ht⟩) hS.2.2 dX5_wayPasses_181
  · have t75 := tq_nle (k := z72.toInt) (q := (0)) c75 rfl (by decide +kernel)
    refine lv_aload hx hb dX5_wayPasses_78 (lv_at hl 2 rfl) ?_
    refine p_get hx hb hts inX3 hown hK hP hLy13 hKy13 rfl rfl 3 (by decide) (hts _ pq130) rfl dX5_wayPasses_80 ?_
    refine lv_topi (fun z80 ez80 => ?_)
    refine lv_if_le (tgt := 180) hx hb dX5_wayPasses_83 (by decide) (fun c83 => ?_) (fun c83 => ?_)
    · have t83 := tq_le (k := z80.toInt) (q := (0)) c83 rfl (by decide +kernel)
      refine lv_iconst (v := 0) hx hb dX5_wayPasses_180 (by decide +kernel) ?_
      subst hR; subst hQz
      exact W.zret (v := 0) hx hb hr (by decide +kernel) (fun t ht hW => ⟨⟨0, (), rfl, ⟨⟨by decide +kernel, by decide +kernel⟩, (fun c ok h hs ha hb bd x y hx hy m => by exfalso; have va := fun k (hk : k < 8) => h.2.2.2.2 p1.toInt.toNat ha k hk; have vb := fun k (hk : k < 8) => h.2.2.2.2 p2.toInt.toNat hb k hk; rw [nf_of ey17, show fb Q y17 p1.toInt.toNat = y36 from fb_of ey20 ey36] at va; rw [nf_of ey17, show fb Q y17 p2.toInt.toNat = y24 from fb_of ey20 ey24] at vb; have xa : z37.toInt = bX c p1.toInt.toNat := (by rw [ez37, va 1 (by decide)]; rfl); have xb : z25.toInt = bX c p2.toInt.toNat := (by rw [ez25, vb 1 (by decide)]; rfl); have ya : z64.toInt = bY c p1.toInt.toNat := (by rw [ez64, va 2 (by decide)]; rfl); have yb : z52.toInt = bY c p2.toInt.toNat := (by rw [ez52, vb 2 (by decide)]; rfl); have m0 := (shp_mko ok hs ha).2; have m1 := (shp_mko ok hs hb).2; have o := (shp_ovl hs ha hb).mpr m; rw [show sm Q p0 p1.toInt.toNat = y5 from sm_of ey1 ey5] at m0 o; rw [show sm Q p0 p2.toInt.toNat = y13 from sm_of ey1 ey13] at m1 o; have b := ovl_box m0 m1 o; rw [← xa, ← xb, ← ya, ← yb] at b; unfold bxs at b; first | (have e96 := tq_add (k := z88.toInt) (q := z93.toInt) ez96 rfl rfl (by omega) (by omega); have e126 := tq_add (k := z118.toInt) (q := z123.toInt) ez126 rfl rfl (by omega) (by omega); have e141 := tq_add (k := z132.toInt) (q := z138.toInt) ez141 rfl rfl (by omega) (by omega); have e172 := tq_add (k := z163.toInt) (q := z169.toInt) ez172 rfl rfl (by omega) (by omega); rw [← ez72, ← ez80, ← ez88, ← ez99, ← ez110, ← ez118, ← ez132, ← ez144, ← ez155, ← ez163] at b; omega) | (have e96 := tq_add (k := z88.toInt) (q := z93.toInt) ez96 rfl rfl (by omega) (by omega); have e126 := tq_add (k := z118.toInt) (q := z123.toInt) ez126 rfl rfl (by omega) (by omega); have e141 := tq_add (k := z132.toInt) (q := z138.toInt) ez141 rfl rfl (by omega) (by omega); rw [← ez72, ← ez80, ← ez88, ← ez99, ← ez110, ← ez118, ← ez132, ← ez144] at b; omega) | (have e96 := tq_add (k := z88.toInt) (q := z93.toInt) ez96 rfl rfl (by omega) (by omega); have e126 := tq_add (k := z118.toInt) (q := z123.toInt) ez126 rfl rfl (by omega) (by omega); rw [← ez72, ← ez80, ← ez88, ← ez99, ← ez110, ← ez118] at b; omega) | (have e96 := tq_add (k := z88.toInt) (q := z93.toInt) ez96 rfl rfl (by omega) (by omega); rw [← ez72, ← ez80, ← ez88, ← ez99] at b; omega) | (rw [← ez72, ← ez80] at b; omega) | (rw [← ez72] at b; omega))⟩, trivial⟩, hS.F ht⟩) hS.2.2 dX5_wayPasses_181
    · have t83 := tq_nle (k := z80.toInt) (q := (0)) c83 rfl (by decide +kernel)
      refine lv_aload hx hb dX5_wayPasses_86 (lv_at hl 3 rfl) ?_
      refine p_get hx hb hts inX3 hown hK hP hLy5 hKy5 rfl rfl 4 (by decide) (hts _ pq133) rfl dX5_wayPasses_88 ?_
      refine lv_topi (fun z88 ez88 => ?_)
      have bz88 := oI_3_4 (Iv_at hI hLy5 hKy5)
      rw [← ez88] at bz88
      refine lv_iload_n hx hb dX5_wayPasses_91 rfl (lv_at hl 7 rfl) ?_
      refine lv_iconst (v := 0) hx hb dX5_wayPasses_92 (by decide +kernel) ?_
      refine va_mmin hx hb (hml.trans hl.1.symm) hown (hts _ pq764) (hts _ pq407) (hts _ pq82) (hts _ pq408) (by rw [hR]; exact (Nat.le_of_ble_eq_true rfl)) (by rw [hR]; exact (Nat.le_of_ble_eq_true rfl)) (by rw [hR]; exact (Nat.le_of_ble_eq_true rfl)) (by rw [hR]; exact (Nat.le_of_ble_eq_true rfl)) dX5_wayPasses_93 ?_
      refine lv_topi (fun z93 ez93 => ?_)
      have bz93 := tq_min ez93
      have bz93y : (0 : Int32).toInt = 0 := by decide +kernel
      refine lv_iadd hx hb dX5_wayPasses_96 ?_
      refine lv_topi (fun z96 ez96 => ?_)
      refine lv_aload hx hb dX5_wayPasses_97 (lv_at hl 2 rfl) ?_
      refine p_get hx hb hts inX3 hown hK hP hLy13 hKy13 rfl rfl 6 (by decide) (hts _ pq139) rfl dX5_wayPasses_99 ?_
      refine lv_topi (fun z99 ez99 => ?_)
      have bz99 := oI_3_6 (Iv_at hI hLy13 hKy13)
      rw [← ez99] at bz99
      refine lv_iload hx hb dX5_wayPasses_102 (lv_at hl 1 rfl) ?_
      refine lv_iadd hx hb dX5_wayPasses_104 ?_
      refine lv_topi (fun z104 ez104 => ?_)
      have bz104 := tq_add (k := z99.toInt) (q := z40.toInt) ez104 rfl rfl (by omega) (by omega)
      refine lv_icmp_gt (tgt := 180) hx hb dX5_wayPasses_105 (by decide) (fun c105 => ?_) (fun c105 => ?_)
      · have t105 := tq_lt (k := z104.toInt) (q := z96.toInt) c105 rfl rfl
        refine lv_iconst (v := 0) hx hb dX5_wayPasses_180 (by decide +kernel) ?_
        subst hR; subst hQz
        exact W.zret (v := 0) hx hb hr (by decide +kernel) (fun t ht hW => ⟨⟨0, (), rfl, ⟨⟨by decide +kernel, by decide +kernel⟩, (fun c ok h hs ha hb bd x y hx hy m => by exfalso; have va := fun k (hk : k < 8) => h.2.2.2.2 p1.toInt.toNat ha k hk; have vb := fun k (hk : k < 8) => h.2.2.2.2 p2.toInt.toNat hb k hk; rw [nf_of ey17, show fb Q y17 p1.toInt.toNat = y36 from fb_of ey20 ey36] at va; rw [nf_of ey17, show fb Q y17 p2.toInt.toNat = y24 from fb_of ey20 ey24] at vb; have xa : z37.toInt = bX c p1.toInt.toNat := (by rw [ez37, va 1 (by decide)]; rfl); have xb : z25.toInt = bX c p2.toInt.toNat := (by rw [ez25, vb 1 (by decide)]; rfl); have ya : z64.toInt = bY c p1.toInt.toNat := (by rw [ez64, va 2 (by decide)]; rfl); have yb : z52.toInt = bY c p2.toInt.toNat := (by rw [ez52, vb 2 (by decide)]; rfl); have m0 := (shp_mko ok hs ha).2; have m1 := (shp_mko ok hs hb).2; have o := (shp_ovl hs ha hb).mpr m; rw [show sm Q p0 p1.toInt.toNat = y5 from sm_of ey1 ey5] at m0 o; rw [show sm Q p0 p2.toInt.toNat = y13 from sm_of ey1 ey13] at m1 o; have b := ovl_box m0 m1 o; rw [← xa, ← xb, ← ya, ← yb] at b; unfold bxs at b; first | (have e96 := tq_add (k := z88.toInt) (q := z93.toInt) ez96 rfl rfl (by omega) (by omega); have e126 := tq_add (k := z118.toInt) (q := z123.toInt) ez126 rfl rfl (by omega) (by omega); have e141 := tq_add (k := z132.toInt) (q := z138.toInt) ez141 rfl rfl (by omega) (by omega); have e172 := tq_add (k := z163.toInt) (q := z169.toInt) ez172 rfl rfl (by omega) (by omega); rw [← ez72, ← ez80, ← ez88, ← ez99, ← ez110, ← ez118, ← ez132, ← ez144, ← ez155, ← ez163] at b; omega) | (have e96 := tq_add (k := z88.toInt) (q := z93.toInt) ez96 rfl rfl (by omega) (by omega); have e126 := tq_add (k := z118.toInt) (q := z123.toInt) ez126 rfl rfl (by omega) (by omega); have e141 := tq_add (k := z132.toInt) (q := z138.toInt) ez141 rfl rfl (by omega) (by omega); rw [← ez72, ← ez80, ← ez88, ← ez99, ← ez110, ← ez118, ← ez132, ← ez144] at b; omega) | (have e96 := tq_add (k := z88.toInt) (q := z93.toInt) ez96 rfl rfl (by omega) (by omega); have e126 := tq_add (k := z118.toInt) (q := z123.toInt) ez126 rfl rfl (by omega) (by omega); rw [← ez72, ← ez80, ← ez88, ← ez99, ← ez110, ← ez118] at b; omega) | (have e96 := tq_add (k := z88.toInt) (q := z93.toInt) ez96 rfl rfl (by omega) (by omega); rw [← ez72, ← ez80, ← ez88, ← ez99] at b; omega) | (rw [← ez72, ← ez80] at b; omega) | (rw [← ez72] at b; omega))⟩, trivial⟩, hS.F ht⟩) hS.2.2 dX5_wayPasses_181
      · have t105 := tq_nlt (k := z104.toInt) (q := z96.toInt) c105 rfl rfl
        refine lv_aload hx hb dX5_wayPasses_108 (lv_at hl 2 rfl) ?_
        refine p_get hx hb hts inX3 hown hK hP hLy13 hKy13 rfl rfl 4 (by decide) (hts _ pq133) rfl dX5_wayPasses_110 ?_
        refine lv_topi (fun z110 ez110 => ?_)
        have bz110 := oI_3_4 (Iv_at hI hLy13 hKy13)
        rw [← ez110] at bz110
        refine lv_iload hx hb dX5_wayPasses_113 (lv_at hl 1 rfl) ?_
        refine lv_iadd hx hb dX5_wayPasses_115 ?_
        refine lv_topi (fun z115 ez115 => ?_)
        have bz115 := tq_add (k := z110.toInt) (q := z40.toInt) ez115 rfl rfl (by omega) (by omega)
        refine lv_aload hx hb dX5_wayPasses_116 (lv_at hl 3 rfl) ?_
        refine p_get hx hb hts inX3 hown hK hP hLy5 hKy5 rfl rfl 6 (by decide) (hts _ pq139) rfl dX5_wayPasses_118 ?_
        refine lv_topi (fun z118 ez118 => ?_)
        have bz118 := oI_3_6 (Iv_at hI hLy5 hKy5)
        rw [← ez118] at bz118
        refine lv_iload_n hx hb dX5_wayPasses_121 rfl (lv_at hl 7 rfl) ?_
        refine lv_iconst (v := 0) hx hb dX5_wayPasses_122 (by decide +kernel) ?_
        refine va_mmax hx hb (hml.trans hl.1.symm) hown (hts _ pq765) (hts _ pq750) (hts _ pq82) (hts _ pq751) (by rw [hR]; exact (Nat.le_of_ble_eq_true rfl)) (by rw [hR]; exact (Nat.le_of_ble_eq_true rfl)) (by rw [hR]; exact (Nat.le_of_ble_eq_true rfl)) (by rw [hR]; exact (Nat.le_of_ble_eq_true rfl)) dX5_wayPasses_123 ?_
        refine lv_topi (fun z123 ez123 => ?_)
        have bz123 := tq_max ez123
        have bz123y : (0 : Int32).toInt = 0 := by decide +kernel
        refine lv_iadd hx hb dX5_wayPasses_126 ?_
        refine lv_topi (fun z126 ez126 => ?_)
        refine lv_icmp_gt (tgt := 180) hx hb dX5_wayPasses_127 (by decide) (fun c127 => ?_) (fun c127 => ?_)
        · have t127 := tq_lt (k := z126.toInt) (q := z115.toInt) c127 rfl rfl
          refine lv_iconst (v := 0) hx hb dX5_wayPasses_180 (by decide +kernel) ?_
          subst hR; subst hQz
          exact W.zret (v := 0) hx hb hr (by decide +kernel) (fun t ht hW => ⟨⟨0, (), rfl, ⟨⟨by decide +kernel, by decide +kernel⟩, (fun c ok h hs ha hb bd x y hx hy m => by exfalso; have va := fun k (hk : k < 8) => h.2.2.2.2 p1.toInt.toNat ha k hk; have vb := fun k (hk : k < 8) => h.2.2.2.2 p2.toInt.toNat hb k hk; rw [nf_of ey17, show fb Q y17 p1.toInt.toNat = y36 from fb_of ey20 ey36] at va; rw [nf_of ey17, show fb Q y17 p2.toInt.toNat = y24 from fb_of ey20 ey24] at vb; have xa : z37.toInt = bX c p1.toInt.toNat := (by rw [ez37, va 1 (by decide)]; rfl); have xb : z25.toInt = bX c p2.toInt.toNat := (by rw [ez25, vb 1 (by decide)]; rfl); have ya : z64.toInt = bY c p1.toInt.toNat := (by rw [ez64, va 2 (by decide)]; rfl); have yb : z52.toInt = bY c p2.toInt.toNat := (by rw [ez52, vb 2 (by decide)]; rfl); have m0 := (shp_mko ok hs ha).2; have m1 := (shp_mko ok hs hb).2; have o := (shp_ovl hs ha hb).mpr m; rw [show sm Q p0 p1.toInt.toNat = y5 from sm_of ey1 ey5] at m0 o; rw [show sm Q p0 p2.toInt.toNat = y13 from sm_of ey1 ey13] at m1 o; have b := ovl_box m0 m1 o; rw [← xa, ← xb, ← ya, ← yb] at b; unfold bxs at b; first | (have e96 := tq_add (k := z88.toInt) (q := z93.toInt) ez96 rfl rfl (by omega) (by omega); have e126 := tq_add (k := z118.toInt) (q := z123.toInt) ez126 rfl rfl (by omega) (by omega); have e141 := tq_add (k := z132.toInt) (q := z138.toInt) ez141 rfl rfl (by omega) (by omega); have e172 := tq_add (k := z163.toInt) (q := z169.toInt) ez172 rfl rfl (by omega) (by omega); rw [← ez72, ← ez80, ← ez88, ← ez99, ← ez110, ← ez118, ← ez132, ← ez144, ← ez155, ← ez163] at b; omega) | (have e96 := tq_add (k := z88.toInt) (q := z93.toInt) ez96 rfl rfl (by omega) (by omega); have e126 := tq_add (k := z118.toInt) (q := z123.toInt) ez126 rfl rfl (by omega) (by omega); have e141 := tq_add (k := z132.toInt) (q := z138.toInt) ez141 rfl rfl (by omega) (by omega); rw [← ez72, ← ez80, ← ez88, ← ez99, ← ez110, ← ez118, ← ez132, ← ez144] at b; omega) | (have e96 := tq_add (k := z88.toInt) (q := z93.toInt) ez96 rfl rfl (by omega) (by omega); have e126 := tq_add (k := z118.toInt) (q := z123.toInt) ez126 rfl rfl (by omega) (by omega); rw [← ez72, ← ez80, ← ez88, ← ez99, ← ez110, ← ez118] at b; omega) | (have e96 := tq_add (k := z88.toInt) (q := z93.toInt) ez96 rfl rfl (by omega) (by omega); rw [← ez72, ← ez80, ← ez88, ← ez99] at b; omega) | (rw [← ez72, ← ez80] at b; omega) | (rw [← ez72] at b; omega))⟩, trivial⟩, hS.F ht⟩) hS.2.2 dX5_wayPasses_181
        · have t127 := tq_nlt (k := z126.toInt) (q := z115.toInt) c127 rfl rfl
          refine lv_aload hx hb dX5_wayPasses_130 (lv_at hl 3 rfl) ?_
          refine p_get hx hb hts inX3 hown hK hP hLy5 hKy5 rfl rfl 5 (by decide) (hts _ pq136) rfl dX5_wayPasses_132 ?_
          refine lv_topi (fun z132 ez132 => ?_)
          have bz132 := oI_3_5 (Iv_at hI hLy5 hKy5)
          rw [← ez132] at bz132
          refine lv_iload hx hb dX5_wayPasses_135 (lv_at hl 8 rfl) ?_
          refine lv_iconst (v := 0) hx hb dX5_wayPasses_137 (by decide +kernel) ?_
          refine va_mmin hx hb (hml.trans hl.1.symm) hown (hts _ pq764) (hts _ pq407) (hts _ pq82) (hts _ pq408) (by rw [hR]; exact (Nat.le_of_ble_eq_true rfl)) (by rw [hR]; exact (Nat.le_of_ble_eq_true rfl)) (by rw [hR]; exact (Nat.le_of_ble_eq_true rfl)) (by rw [hR]; exact (Nat.le_of_ble_eq_true rfl)) dX5_wayPasses_138 ?_
          refine lv_topi (fun z138 ez138 => ?_)
          have bz138 := tq_min ez138
          have bz138y : (0 : Int32).toInt = 0 := by decide +kernel
          refine lv_iadd hx hb dX5_wayPasses_141 ?_
          refine lv_topi (fun z141 ez141 => ?_)
          refine lv_aload hx hb dX5_wayPasses_142 (lv_at hl 2 rfl) ?_
          refine p_get hx hb hts inX3 hown hK hP hLy13 hKy13 rfl rfl 7 (by decide) (hts _ pq142) rfl dX5_wayPasses_144 ?_
          refine lv_topi (fun z144 ez144 => ?_)
          have bz144 := oI_3_7 (Iv_at hI hLy13 hKy13)
          rw [← ez144] at bz144
          refine lv_iload hx hb dX5_wayPasses_147 (lv_at hl 0 rfl) ?_
          refine lv_iadd hx hb dX5_wayPasses_149 ?_
          refine lv_topi (fun z149 ez149 => ?_)
          have bz149 := tq_add (k := z144.toInt) (q := z67.toInt) ez149 rfl rfl (by omega) (by omega)
          refine lv_icmp_gt (tgt := 180) hx hb dX5_wayPasses_150 (by decide) (fun c150 => ?_) (fun c150 => ?_)
          · have t150 := tq_lt (k := z149.toInt) (q := z141.toInt) c150 rfl rfl
            refine lv_iconst (v := 0) hx hb dX5_wayPasses_180 (by decide +kernel) ?_
            subst hR; subst hQz
            exact W.zret (v := 0) hx hb hr (by decide +kernel) (fun t ht hW => ⟨⟨0, (), rfl, ⟨⟨by decide +kernel, by decide +kernel⟩, (fun c ok h hs ha hb bd x y hx hy m => by exfalso; have va := fun k (hk : k < 8) => h.2.2.2.2 p1.toInt.toNat ha k hk; have vb := fun k (hk : k < 8) => h.2.2.2.2 p2.toInt.toNat hb k hk; rw [nf_of ey17, show fb Q y17 p1.toInt.toNat = y36 from fb_of ey20 ey36] at va; rw [nf_of ey17, show fb Q y17 p2.toInt.toNat = y24 from fb_of ey20 ey24] at vb; have xa : z37.toInt = bX c p1.toInt.toNat := (by rw [ez37, va 1 (by decide)]; rfl); have xb : z25.toInt = bX c p2.toInt.toNat := (by rw [ez25, vb 1 (by decide)]; rfl); have ya : z64.toInt = bY c p1.toInt.toNat := (by rw [ez64, va 2 (by decide)]; rfl); have yb : z52.toInt = bY c p2.toInt.toNat := (by rw [ez52, vb 2 (by decide)]; rfl); have m0 := (shp_mko ok hs ha).2; have m1 := (shp_mko ok hs hb).2; have o := (shp_ovl hs ha hb).mpr m; rw [show sm Q p0 p1.toInt.toNat = y5 from sm_of ey1 ey5] at m0 o; rw [show sm Q p0 p2.toInt.toNat = y13 from sm_of ey1 ey13] at m1 o; have b := ovl_box m0 m1 o; rw [← xa, ← xb, ← ya, ← yb] at b; unfold bxs at b; first | (have e96 := tq_add (k := z88.toInt) (q := z93.toInt) ez96 rfl rfl (by omega) (by omega); have e126 := tq_add (k := z118.toInt) (q := z123.toInt) ez126 rfl rfl (by omega) (by omega); have e141 := tq_add (k := z132.toInt) (q := z138.toInt) ez141 rfl rfl (by omega) (by omega); have e172 := tq_add (k := z163.toInt) (q := z169.toInt) ez172 rfl rfl (by omega) (by omega); rw [← ez72, ← ez80, ← ez88, ← ez99, ← ez110, ← ez118, ← ez132, ← ez144, ← ez155, ← ez163] at b; omega) | (have e96 := tq_add (k := z88.toInt) (q := z93.toInt) ez96 rfl rfl (by omega) (by omega); have e126 := tq_add (k := z118.toInt) (q := z123.toInt) ez126 rfl rfl (by omega) (by omega); have e141 := tq_add (k := z132.toInt) (q := z138.toInt) ez141 rfl rfl (by omega) (by omega); rw [← ez72, ← ez80, ← ez88, ← ez99, ← ez110, ← ez118, ← ez132, ← ez144] at b; omega) | (have e96 := tq_add (k := z88.toInt) (q := z93.toInt) ez96 rfl rfl (by omega) (by omega); have e126 := tq_add (k := z118.toInt) (q := z123.toInt) ez126 rfl rfl (by omega) (by omega); rw [← ez72, ← ez80, ← ez88, ← ez99, ← ez110, ← ez118] at b; omega) | (have e96 := tq_add (k := z88.toInt) (q := z93.toInt) ez96 rfl rfl (by omega) (by omega); rw [← ez72, ← ez80, ← ez88, ← ez99] at b; omega) | (rw [← ez72, ← ez80] at b; omega) | (rw [← ez72] at b; omega))⟩, trivial⟩, hS.F ht⟩) hS.2.2 dX5_wayPasses_181
          · have t150 := tq_nlt (k := z149.toInt) (q := z141.toInt) c150 rfl rfl
            refine lv_aload hx hb dX5_wayPasses_153 (lv_at hl 2 rfl) ?_
            refine p_get hx hb hts inX3 hown hK hP hLy13 hKy13 rfl rfl 5 (by decide) (hts _ pq136) rfl dX5_wayPasses_155 ?_
            refine lv_topi (fun z155 ez155 => ?_)
            have bz155 := oI_3_5 (Iv_at hI hLy13 hKy13)
            rw [← ez155] at bz155
            refine lv_iload hx hb dX5_wayPasses_158 (lv_at hl 0 rfl) ?_
            refine lv_iadd hx hb dX5_wayPasses_160 ?_
            refine lv_topi (fun z160 ez160 => ?_)
            have bz160 := tq_add (k := z155.toInt) (q := z67.toInt) ez160 rfl rfl (by omega) (by omega)
            refine lv_aload hx hb dX5_wayPasses_161 (lv_at hl 3 rfl) ?_
            refine p_get hx hb hts inX3 hown hK hP hLy5 hKy5 rfl rfl 7 (by decide) (hts _ pq142) rfl dX5_wayPasses_163 ?_
            refine lv_topi (fun z163 ez163 => ?_)
            have bz163 := oI_3_7 (Iv_at hI hLy5 hKy5)
            rw [← ez163] at bz163
            refine lv_iload hx hb dX5_wayPasses_166 (lv_at hl 8 rfl) ?_
            refine lv_iconst (v := 0) hx hb dX5_wayPasses_168 (by decide +kernel) ?_
            refine va_mmax hx hb (hml.trans hl.1.symm) hown (hts _ pq765) (hts _ pq750) (hts _ pq82) (hts _ pq751) (by rw [hR]; exact (Nat.le_of_ble_eq_true rfl)) (by rw [hR]; exact (Nat.le_of_ble_eq_true rfl)) (by rw [hR]; exact (Nat.le_of_ble_eq_true rfl)) (by rw [hR]; exact (Nat.le_of_ble_eq_true rfl)) dX5_wayPasses_169 ?_
            refine lv_topi (fun z169 ez169 => ?_)
            have bz169 := tq_max ez169
            have bz169y : (0 : Int32).toInt = 0 := by decide +kernel
            refine lv_iadd hx hb dX5_wayPasses_172 ?_
            refine lv_topi (fun z172 ez172 => ?_)
            refine lv_icmp_gt (tgt := 180) hx hb dX5_wayPasses_173 (by decide) (fun c173 => ?_) (fun c173 => ?_)
            · have t173 := tq_lt (k := z172.toInt) (q := z160.toInt) c173 rfl rfl
              refine lv_iconst (v := 0) hx hb dX5_wayPasses_180 (by decide +kernel) ?_
              subst hR; subst hQz
              exact W.zret (v := 0) hx hb hr (by decide +kernel) (fun t ht hW => ⟨⟨0, (), rfl, ⟨⟨by decide +kernel, by decide +kernel⟩, (fun c ok h hs ha hb bd x y hx hy m => by exfalso; have va := fun k (hk : k < 8) => h.2.2.2.2 p1.toInt.toNat ha k hk; have vb := fun k (hk : k < 8) => h.2.2.2.2 p2.toInt.toNat hb k hk; rw [nf_of ey17, show fb Q y17 p1.toInt.toNat = y36 from fb_of ey20 ey36] at va; rw [nf_of ey17, show fb Q y17 p2.toInt.toNat = y24 from fb_of ey20 ey24] at vb; have xa : z37.toInt = bX c p1.toInt.toNat := (by rw [ez37, va 1 (by decide)]; rfl); have xb : z25.toInt = bX c p2.toInt.toNat := (by rw [ez25, vb 1 (by decide)]; rfl); have ya : z64.toInt = bY c p1.toInt.toNat := (by rw [ez64, va 2 (by decide)]; rfl); have yb : z52.toInt = bY c p2.toInt.toNat := (by rw [ez52, vb 2 (by decide)]; rfl); have m0 := (shp_mko ok hs ha).2; have m1 := (shp_mko ok hs hb).2; have o := (shp_ovl hs ha hb).mpr m; rw [show sm Q p0 p1.toInt.toNat = y5 from sm_of ey1 ey5] at m0 o; rw [show sm Q p0 p2.toInt.toNat = y13 from sm_of ey1 ey13] at m1 o; have b := ovl_box m0 m1 o; rw [← xa, ← xb, ← ya, ← yb] at b; unfold bxs at b; first | (have e96 := tq_add (k := z88.toInt) (q := z93.toInt) ez96 rfl rfl (by omega) (by omega); have e126 := tq_add (k := z118.toInt) (q := z123.toInt) ez126 rfl rfl (by omega) (by omega); have e141 := tq_add (k := z132.toInt) (q := z138.toInt) ez141 rfl rfl (by omega) (by omega); have e172 := tq_add (k := z163.toInt) (q := z169.toInt) ez172 rfl rfl (by omega) (by omega); rw [← ez72, ← ez80, ← ez88, ← ez99, ← ez110, ← ez118, ← ez132, ← ez144, ← ez155, ← ez163] at b; omega) | (have e96 := tq_add (k := z88.toInt) (q := z93.toInt) ez96 rfl rfl (by omega) (by omega); have e126 := tq_add (k := z118.toInt) (q := z123.toInt) ez126 rfl rfl (by omega) (by omega); have e141 := tq_add (k := z132.toInt) (q := z138.toInt) ez141 rfl rfl (by omega) (by omega); rw [← ez72, ← ez80, ← ez88, ← ez99, ← ez110, ← ez118, ← ez132, ← ez144] at b; omega) | (have e96 := tq_add (k := z88.toInt) (q := z93.toInt) ez96 rfl rfl (by omega) (by omega); have e126 := tq_add (k := z118.toInt) (q := z123.toInt) ez126 rfl rfl (by omega) (by omega); rw [← ez72, ← ez80, ← ez88, ← ez99, ← ez110, ← ez118] at b; omega) | (have e96 := tq_add (k := z88.toInt) (q := z93.toInt) ez96 rfl rfl (by omega) (by omega); rw [← ez72, ← ez80, ← ez88, ← ez99] at b; omega) | (rw [← ez72, ← ez80] at b; omega) | (rw [← ez72] at b; omega))⟩, trivial⟩, hS.F ht⟩) hS.2.2 dX5_wayPasses_181
            · have t173 := tq_nlt (k := z172.toInt) (q := z160.toInt) c173 rfl rfl
              refine lv_iconst (v := 1) hx hb dX5_wayPasses_176 (by decide +kernel) ?_
              refine lv_goto (tgt := 181) hx hb dX5_wayPasses_177 (by decide) ?_
              subst hR; subst hQz
              exact W.zret (v := 1) hx hb hr (by decide +kernel) (fun t ht hW => ⟨⟨1, (), rfl, ⟨⟨by decide +kernel, by decide +kernel⟩, (fun c ok h hs ha hb bd x y hx hy m => by decide +kernel)⟩, trivial⟩, hS.F ht⟩) hS.2.2 dX5_wayPasses_181

set_option maxHeartbeats 4000000 in
set_option maxRecDepth 100000 in
theorem s_X5_stoppersAhead (l : Launch) (dC : Nat → ClassId) (dI : Nat → Nat → Nat) (cs : Nat → ClassId) (L : List Nat) (K G : Nat → Nat) (Q : Nat → Nat → Option Nat) (hQ : Sv L K G Q) (x0 m0 : Nat) (tx : GT) (tm : GT × Int) (sz : Nat) (I : Nat → Nat → Int32) (J : Nat → Nat → Int64) (hI : Iv L K x0 m0 tx tm I) (p0 : Nat) (hLp0 : p0 ∈ L) (hKp0 : K p0 = 5) (p1 : Int32) (bp1 : (0) ≤ p1.toInt ∧ p1.toInt ≤ 9) (p2 : Int32) (p3 : Int32) : Met l yX5_stoppersAhead (.code yX5_stoppersAhead cX5_stoppersAhead 6 (some .int) :: pw) ({ frames := 3, cells := 0, slots := 0, locals := 82 }) (sP (dC, dI) cs [.ref p0, .int p1, .int p2, .int p3] sz L K I J Q) (va_Qi (fun (r : Int32) (_ : Unit) => (∀ c : Fx, okF c → cxF Q I J (nf Q p0) c → cxS Q I J p0 c → p1.toInt.toNat < (c.1 1).toInt.toNat → ((-2000 ≤ p2.toInt ∧ p2.toInt ≤ 2000) ∧ (-2000 ≤ p3.toInt ∧ p3.toInt ≤ 2000)) → gST c p1.toInt.toNat p2.toInt p3.toInt r (c.1 1).toInt.toNat)) (fun _ _ => True) (fun _ => False)) 0 0 (fun _ => False) := by
  refine Met.ofW (cc := cX5_stoppersAhead) (maxL := 6) (ret := (some .int)) (by decide +kernel) rfl ?_
  intro p e s m args below meth c s₁ B hml hv
  obtain ⟨rfl, hsz, hP, hK, hD0, hN⟩ := hv
  have hx := B.exec
  have hb := B.bytes
  have hr := B.returns
  have hts := fun w (h : w ∈ pw) => atoms_spec (ws := Cond.code yX5_stoppersAhead cX5_stoppersAhead 6 (some .int) :: pw) B.pre w (List.mem_cons_of_mem _ h)
  have hown : s.vm.findClass RX5 = some m.cls := findClass_of_methodNamed B.named
  have hlocks := B.notSynchronized
  subst hsz
  have hBB : 999 ≤ tm.2 ∧ tm.2 ≤ 6000000 := hI.2.2.2.2.1
  have hD := hD0
  obtain ⟨H, hHe⟩ : ∃ H : Heap, H = s.heap := ⟨_, rfl⟩
  have hS : va_S (fun _ => False) s.heap H [] := by rw [hHe]; exact va_S.rf
  rw [← hHe] at hP
  have hl := lv_entry ([.ref p0, .int p1, .int p2, .int p3]) (n := 6) (Nat.le_of_ble_eq_true rfl)
  rw [lg_entry_eq]
  generalize (lg_sl ([.ref p0, .int p1, .int p2, .int p3]) ++ List.replicate (6 - (lg_sl ([.ref p0, .int p1, .int p2, .int p3])).length) Slot.unset).toArray = ls at hl ⊢
  have hl : lv_has ls 6 [(0, .ref p0), (1, .int p1), (2, .int p2), (3, .int p3)] := hl
  rw [← hHe]
  refine namedW (fun R Qz hR hQz => ?_)
  refine lv_iconst (v := 0) hx hb dX5_stoppersAhead_0 (by decide +kernel) ?_
  refine lv_istore (lv' := [(4, .int 0), (0, .ref p0), (1, .int p1), (2, .int p2), (3, .int p3)]) hx hb dX5_stoppersAhead_1 hl (by decide) rfl (fun ls hl => ?_)
  refine lv_iconst (v := 0) hx hb dX5_stoppersAhead_3 (by decide +kernel) ?_
  refine lv_istore (lv' := [(5, .int 0), (4, .int 0), (0, .ref p0), (1, .int p1), (2, .int p2), (3, .int p3)]) hx hb dX5_stoppersAhead_4 hl (by decide) rfl (fun ls hl => ?_)
  have key6 := blocks (fun n => ∀ (v6_4 : Int32) (v6_5 : Int32) (H : Heap) (lo : List Loc) (ls : Array Slot), (11 - v6_5.toInt).toNat = n → ((0) ≤ v6_5.toInt ∧ v6_5.toInt ≤ 10) → (∀ c : Fx, okF c → cxF Q I J (nf Q p0) c → cxS Q I J p0 c → p1.toInt.toNat < (c.1 1).toInt.toNat → ((-2000 ≤ p2.toInt ∧ p2.toInt ≤ 2000) ∧ (-2000 ≤ p3.toInt ∧ p3.toInt ≤ 2000)) → gST c p1.toInt.toNat p2.toInt p3.toInt v6_4 v6_5.toInt.toNat ∧ ∀ i : Nat, v6_5.toInt.toNat ≤ i → hbt v6_4 i = false) → va_P (dC, dI) vwCl (Wd cs L K I J Q) H → va_S (fun _ => False) s.heap H lo → lv_has ls 6 [(0, .ref p0), (1, .int p1), (2, .int p2), (3, .int p3), (4, .int v6_4), (5, .int v6_5)] → W p l e R s m (([.ref p0, .int p1, .int p2, .int p3] : List Value).toArray) below meth c H lo 0 0 Qz (F0 m 6 ls [])) (by
    intro n ih6
    intro v6_4 v6_5 H lo ls hmu6 bv6_5 h6 hP hS hl
    refine lv_iload hx hb dX5_stoppersAhead_6 (lv_at hl 5 rfl) ?_
    refine lv_aload_n hx hb dX5_stoppersAhead_8 rfl (lv_at hl 0 rfl) ?_
    obtain ⟨y9, ey9, hLy9, hKy9, hGy9⟩ := oQ_5_0 (Sv_at hQ hLp0 hKp0)
    refine p_get (v := .ref y9) hx hb hts inX5 hown hK hP hLp0 hKp0 rfl rfl 0 (by decide) (hts _ pq274) (congrArg (fun q => some (va_rf q)) ey9) dX5_stoppersAhead_9 ?_
    refine p_get hx hb hts inX1 hown hK hP hLy9 hKy9 rfl rfl 3 (by decide) (hts _ pq225) rfl dX5_stoppersAhead_12 ?_
    refine lv_topi (fun z12 ez12 => ?_)
    have cgz12 := congrArg Int32.toInt ez12
    have bz12 := oI_1_3 (Iv_at hI hLy9 hKy9)
    rw [← ez12] at bz12
    refine lv_icmp_ge (tgt := 73) hx hb dX5_stoppersAhead_15 (by decide) (fun c15 => ?_) (fun c15 => ?_)
    · have t15 := tq_le (k := z12.toInt) (q := v6_5.toInt) c15 rfl rfl
      refine lv_iload hx hb dX5_stoppersAhead_73 (lv_at hl 4 rfl) ?_
      subst hR; subst hQz
      exact W.iret (v := v6_4) hx hb hr (fun t ht hW => ⟨⟨v6_4, (), rfl, (fun c ok h hs ha bd => by have w := (h6 c ok h hs ha bd).1; have n := h.2.1; rw [nf_of ey9, ← ez12] at n; intro i hi; exact w i (by rw [← n] at hi; omega)), trivial⟩, hS.F ht⟩) hS.2.2 dX5_stoppersAhead_75
    · have t15 := tq_nle (k := z12.toInt) (q := v6_5.toInt) c15 rfl rfl
      refine lv_iload hx hb dX5_stoppersAhead_18 (lv_at hl 5 rfl) ?_
      refine lv_iload_n hx hb dX5_stoppersAhead_20 rfl (lv_at hl 1 rfl) ?_
      have j67 : ∀ (v67_4 : Int32) (H : Heap) (lo : List Loc) (ls : Array Slot), (∀ c : Fx, okF c → cxF Q I J (nf Q p0) c → cxS Q I J p0 c → p1.toInt.toNat < (c.1 1).toInt.toNat → ((-2000 ≤ p2.toInt ∧ p2.toInt ≤ 2000) ∧ (-2000 ≤ p3.toInt ∧ p3.toInt ≤ 2000)) → gST c p1.toInt.toNat p2.toInt p3.toInt v67_4 (v6_5.toInt.toNat + 1) ∧ ∀ i : Nat, v6_5.toInt.toNat + 1 ≤ i → hbt v67_4 i = false) → va_P (dC, dI) vwCl (Wd cs L K I J Q) H → va_S (fun _ => False) s.heap H lo → lv_has ls 6 [(0, .ref p0), (1, .int p1), (2, .int p2), (3, .int p3), (4, .int v67_4), (5, .int v6_5)] → W p l e R s m (([.ref p0, .int p1, .int p2, .int p3] : List Value).toArray) below meth c H lo 0 0 Qz (F0 m 67 ls []) := by
        intro v67_4 H lo ls h67 hP hS hl
        obtain ⟨z67, ez67⟩ : ∃ y : Int32, y = v6_5 + 1 := ⟨_, rfl⟩
        refine lv_iinc (v := z67) (lv' := [(5, .int z67), (0, .ref p0), (1, .int p1), (2, .int p2), (3, .int p3), (4, .int v67_4)]) hx hb dX5_stoppersAhead_67 hl (k := 5) rfl (by rw [ez67]; rfl) (by decide) rfl (fun ls hl => ?_)
        have bz67 := tq_add (k := v6_5.toInt) (q := 1) ez67 rfl (by decide +kernel) (by omega) (by omega)
        refine lv_goto (tgt := 6) hx hb dX5_stoppersAhead_70 (by decide) ?_
        exact ih6 _ (by omega) v67_4 z67 _ _ _ rfl ⟨by omega, by omega⟩ (fun c ok h hs ha bd => by rw [show z67.toInt.toNat = v6_5.toInt.toNat + 1 by omega]; exact h67 c ok h hs ha bd) hP hS (lv_sub hl [1, 2, 3, 4, 5, 0] rfl)
      refine lv_icmp_eq (tgt := 67) hx hb dX5_stoppersAhead_21 (by decide) (fun c21 => ?_) (fun c21 => ?_)
      · have t21 := tq_eq (k := v6_5.toInt) (q := p1.toInt) c21 rfl rfl
        exact j67 v6_4 _ _ _ (fun c ok h hs ha bd => by obtain ⟨g, w⟩ := h6 c ok h hs ha bd; have n := h.2.1; rw [nf_of ey9, ← ez12] at n; have hN : v6_5.toInt.toNat < (c.1 1).toInt.toNat := (by rw [← n]; omega); refine ⟨gST_no g rfl (w _ (by omega)) ?_, fun i hi => w i (by omega)⟩; exact Or.inl (by omega)) hP hS (lv_sub hl [0, 1, 2, 3, 4, 5] rfl)
      · have t21 := tq_ne (k := v6_5.toInt) (q := p1.toInt) c21 rfl rfl
        refine lv_aload_n hx hb dX5_stoppersAhead_24 rfl (lv_at hl 0 rfl) ?_
        refine lv_iload_n hx hb dX5_stoppersAhead_25 rfl (lv_at hl 1 rfl) ?_
        refine lv_iload hx hb dX5_stoppersAhead_26 (lv_at hl 5 rfl) ?_
        refine ro_i (va_runV (As := [.int p1, .int v6_5]) (rest := []) ⟨hx, hb, hml, hown, hts⟩ (s_X5_mayTouch l dC dI cs L K G Q hQ x0 m0 tx tm H.size I J hI p0 hLp0 hKp0 p1 ⟨by omega, by omega⟩ v6_5 ⟨by omega, by omega⟩) (cwV 2 hts (gV pq756 pq757 pq758 pq79 pq759) rfl rfl rfl (by decide +kernel) ⟨(by rw [hR]; exact (Nat.le_of_ble_eq_true rfl)), (by rw [hR]; exact (Nat.le_of_ble_eq_true rfl))⟩) (sP_V hP hD hK hN hLp0 hKp0 rfl rfl) rfl rfl hl.1 rfl (lv_room (Nat.le_of_ble_eq_true rfl)) dX5_stoppersAhead_28 ⟨(by rw [hR]; exact (Nat.le_of_ble_eq_true rfl)), (by rw [hR]; exact (Nat.le_of_ble_eq_true rfl))⟩) hS hP (fun z28 H locs hz28 hP hS => ?_)
        obtain ⟨bz28, xpz28⟩ := hz28
        refine lv_if_eq (tgt := 67) hx hb dX5_stoppersAhead_31 (by decide) (fun c31 => ?_) (fun c31 => ?_)
        · have t31 := tq_eq (k := z28.toInt) (q := (0)) c31 rfl (by decide +kernel)
          exact j67 v6_4 _ _ _ (fun c ok h hs ha bd => by obtain ⟨g, w⟩ := h6 c ok h hs ha bd; have n := h.2.1; rw [nf_of ey9, ← ez12] at n; have hN : v6_5.toInt.toNat < (c.1 1).toInt.toNat := (by rw [← n]; omega); refine ⟨gST_no g rfl (w _ (by omega)) ?_, fun i hi => w i (by omega)⟩; exact Or.inr (Or.inl (fun m => (xpz28 c h ha hN).mpr m t31))) hP hS (lv_sub hl [0, 1, 2, 3, 4, 5] rfl)
        · have t31 := tq_ne (k := z28.toInt) (q := (0)) c31 rfl (by decide +kernel)
          refine lv_aload_n hx hb dX5_stoppersAhead_34 rfl (lv_at hl 0 rfl) ?_
          refine lv_iload_n hx hb dX5_stoppersAhead_35 rfl (lv_at hl 1 rfl) ?_
          refine lv_iload hx hb dX5_stoppersAhead_36 (lv_at hl 5 rfl) ?_
          refine lv_iload_n hx hb dX5_stoppersAhead_38 rfl (lv_at hl 2 rfl) ?_
          refine lv_iload_n hx hb dX5_stoppersAhead_39 rfl (lv_at hl 3 rfl) ?_
          refine ro_i (va_runV (As := [.int p1, .int v6_5, .int p2, .int p3]) (rest := []) ⟨hx, hb, hml, hown, hts⟩ (s_X5_wayPasses l dC dI cs L K G Q hQ x0 m0 tx tm H.size I J hI p0 hLp0 hKp0 p1 ⟨by omega, by omega⟩ v6_5 ⟨by omega, by omega⟩ p2 p3) (cwV 4 hts (gV pq760 pq761 pq762 pq79 pq763) rfl rfl rfl (by decide +kernel) ⟨(by rw [hR]; exact (Nat.le_of_ble_eq_true rfl)), (by rw [hR]; exact (Nat.le_of_ble_eq_true rfl))⟩) (sP_V hP hD hK hN hLp0 hKp0 rfl rfl) rfl rfl hl.1 rfl (lv_room (Nat.le_of_ble_eq_true rfl)) dX5_stoppersAhead_40 ⟨(by rw [hR]; exact (Nat.le_of_ble_eq_true rfl)), (by rw [hR]; exact (Nat.le_of_ble_eq_true rfl))⟩) hS hP (fun z40 H locs hz40 hP hS => ?_)
          obtain ⟨bz40, xpz40⟩ := hz40
          refine lv_if_eq (tgt := 67) hx hb dX5_stoppersAhead_43 (by decide) (fun c43 => ?_) (fun c43 => ?_)
          · have t43 := tq_eq (k := z40.toInt) (q := (0)) c43 rfl (by decide +kernel)
            exact j67 v6_4 _ _ _ (fun c ok h hs ha bd => by obtain ⟨g, w⟩ := h6 c ok h hs ha bd; have n := h.2.1; rw [nf_of ey9, ← ez12] at n; have hN : v6_5.toInt.toNat < (c.1 1).toInt.toNat := (by rw [← n]; omega); refine ⟨gST_no g rfl (w _ (by omega)) ?_, fun i hi => w i (by omega)⟩; exact Or.inr (Or.inr (Or.inr (fun x y hx hy m => xpz40 c ok h hs ha hN (bd20 bd) x y hx hy m t43)))) hP hS (lv_sub hl [0, 1, 2, 3, 4, 5] rfl)
          · have t43 := tq_ne (k := z40.toInt) (q := (0)) c43 rfl (by decide +kernel)
            refine lv_aload_n hx hb dX5_stoppersAhead_46 rfl (lv_at hl 0 rfl) ?_
            refine lv_iload_n hx hb dX5_stoppersAhead_47 rfl (lv_at hl 1 rfl) ?_
            refine lv_iload hx hb dX5_stoppersAhead_48 (lv_at hl 5 rfl) ?_
            refine lv_iconst (v := 0) hx hb dX5_stoppersAhead_50 (by decide +kernel) ?_
            refine lv_iconst (v := 0) hx hb dX5_stoppersAhead_51 (by decide +kernel) ?_
            refine ro_i (va_runV (As := [.int p1, .int v6_5, .int 0, .int 0]) (rest := []) ⟨hx, hb, hml, hown, hts⟩ (s_X5_shareIfMoved l dC dI cs L K G Q hQ x0 m0 tx tm H.size I J hI p0 hLp0 hKp0 p1 ⟨by omega, by omega⟩ v6_5 ⟨by omega, by omega⟩ 0 0) (cwV 4 hts (gV pq766 pq767 pq768 pq79 pq769) rfl rfl rfl (by decide +kernel) ⟨(by rw [hR]; exact (Nat.le_of_ble_eq_true rfl)), (by rw [hR]; exact (Nat.le_of_ble_eq_true rfl))⟩) (sP_V hP hD hK hN hLp0 hKp0 rfl rfl) rfl rfl hl.1 rfl (lv_room (Nat.le_of_ble_eq_true rfl)) dX5_stoppersAhead_52 ⟨(by rw [hR]; exact (Nat.le_of_ble_eq_true rfl)), (by rw [hR]; exact (Nat.le_of_ble_eq_true rfl))⟩) hS hP (fun z52 H locs hz52 hP hS => ?_)
            have cst52_0 : (0 : Int32).toInt = 0 := by decide +kernel
            obtain ⟨bz52, xpz52⟩ := hz52
            try rw [cst52_0] at xpz52
            refine lv_if_ne (tgt := 67) hx hb dX5_stoppersAhead_55 (by decide) (fun c55 => ?_) (fun c55 => ?_)
            · have t55 := tq_ne (k := z52.toInt) (q := (0)) c55 rfl (by decide +kernel)
              exact j67 v6_4 _ _ _ (fun c ok h hs ha bd => by obtain ⟨g, w⟩ := h6 c ok h hs ha bd; have n := h.2.1; rw [nf_of ey9, ← ez12] at n; have hN : v6_5.toInt.toNat < (c.1 1).toInt.toNat := (by rw [← n]; omega); refine ⟨gST_no g rfl (w _ (by omega)) ?_, fun i hi => w i (by omega)⟩; exact Or.inr (Or.inr (Or.inl ((xpz52 c ok h hs ha hN (by decide +kernel)).mp t55)))) hP hS (lv_sub hl [0, 1, 2, 3, 4, 5] rfl)
            · have t55 := tq_eq (k := z52.toInt) (q := (0)) c55 rfl (by decide +kernel)
              refine lv_iload hx hb dX5_stoppersAhead_58 (lv_at hl 4 rfl) ?_
              refine lv_iconst (v := 1) hx hb dX5_stoppersAhead_60 (by decide +kernel) ?_
              refine lv_iload hx hb dX5_stoppersAhead_61 (lv_at hl 5 rfl) ?_
              refine lv_ishl hx hb dX5_stoppersAhead_63 ?_
              refine lv_topi (fun z63 ez63 => ?_)
              refine lv_ior hx hb dX5_stoppersAhead_64 ?_
              refine lv_topi (fun z64 ez64 => ?_)
              refine lv_istore (lv' := [(4, .int z64), (0, .ref p0), (1, .int p1), (2, .int p2), (3, .int p3), (5, .int v6_5)]) hx hb dX5_stoppersAhead_65 hl (by decide) rfl (fun ls hl => ?_)
              exact j67 z64 _ _ _ (fun c ok h hs ha bd => by obtain ⟨g, w⟩ := h6 c ok h hs ha bd; have n := h.2.1; rw [nf_of ey9, ← ez12] at n; have hN : v6_5.toInt.toNat < (c.1 1).toInt.toNat := (by rw [← n]; omega); have b1 := hb_set ez63 ez64 ⟨by omega, by omega⟩; exact ⟨gST_yes g rfl b1 (fun q => t21 (by omega)) ((xpz28 c h ha hN).mp t31) (fun m => ((xpz52 c ok h hs ha hN (by decide +kernel)).mpr m) t55), fun i hi => by rw [b1, w i (by omega), decide_eq_false (by omega)]; rfl⟩) hP hS (lv_sub hl [1, 2, 3, 4, 0, 5] rfl))
  exact key6 _ 0 0 _ _ _ rfl ⟨by decide +kernel, by decide +kernel⟩ (fun c ok h hs ha bd => ⟨by rw [show (0 : Int32).toInt.toNat = 0 from by decide +kernel]; exact gST_0, fun i _ => hb_0 i⟩) hP hS (lv_sub hl [2, 3, 4, 5, 1, 0] rfl)

set_option maxHeartbeats 4000000 in
set_option maxRecDepth 100000 in
theorem s_X5_leastTouched (l : Launch) (dC : Nat → ClassId) (dI : Nat → Nat → Nat) (cs : Nat → ClassId) (L : List Nat) (K G : Nat → Nat) (Q : Nat → Nat → Option Nat) (hQ : Sv L K G Q) (x0 m0 : Nat) (tx : GT) (tm : GT × Int) (sz : Nat) (I : Nat → Nat → Int32) (J : Nat → Nat → Int64) (hI : Iv L K x0 m0 tx tm I) (p0 : Nat) (hLp0 : p0 ∈ L) (hKp0 : K p0 = 5) (p1 : Int32) (bp1 : (0) ≤ p1.toInt ∧ p1.toInt ≤ 9) (p2 : Int32) (p3 : Int32) (p4 : Int32) : Met l yX5_leastTouched (.code yX5_leastTouched cX5_leastTouched 6 (some .int) :: pw) ({ frames := 3, cells := 0, slots := 0, locals := 82 }) (sP (dC, dI) cs [.ref p0, .int p1, .int p2, .int p3, .int p4] sz L K I J Q) (va_Qi (fun (r : Int32) (_ : Unit) => ((-1) ≤ r.toInt ∧ r.toInt ≤ 9) ∧ (∀ c : Fx, okF c → cxF Q I J (nf Q p0) c → cxS Q I J p0 c → p1.toInt.toNat < (c.1 1).toInt.toNat → ((-2000 ≤ p3.toInt ∧ p3.toInt ≤ 2000) ∧ (-2000 ≤ p4.toInt ∧ p4.toInt ≤ 2000)) → lto c p1.toInt.toNat p2 r p3.toInt p4.toInt)) (fun _ _ => True) (fun _ => False)) 0 0 (fun _ => False) := by
  refine Met.ofW (cc := cX5_leastTouched) (maxL := 6) (ret := (some .int)) (by decide +kernel) rfl ?_
  intro p e s m args below meth c s₁ B hml hv
  obtain ⟨rfl, hsz, hP, hK, hD0, hN⟩ := hv
  have hx := B.exec
  have hb := B.bytes
  have hr := B.returns
  have hts := fun w (h : w ∈ pw) => atoms_spec (ws := Cond.code yX5_leastTouched cX5_leastTouched 6 (some .int) :: pw) B.pre w (List.mem_cons_of_mem _ h)
  have hown : s.vm.findClass RX5 = some m.cls := findClass_of_methodNamed B.named
  have hlocks := B.notSynchronized
  subst hsz
  have hBB : 999 ≤ tm.2 ∧ tm.2 ≤ 6000000 := hI.2.2.2.2.1
  have hD := hD0
  obtain ⟨H, hHe⟩ : ∃ H : Heap, H = s.heap := ⟨_, rfl⟩
  have hS : va_S (fun _ => False) s.heap H [] := by rw [hHe]; exact va_S.rf
  rw [← hHe] at hP
  have hl := lv_entry ([.ref p0, .int p1, .int p2, .int p3, .int p4]) (n := 6) (Nat.le_of_ble_eq_true rfl)
  rw [lg_entry_eq]
  generalize (lg_sl ([.ref p0, .int p1, .int p2, .int p3, .int p4]) ++ List.replicate (6 - (lg_sl ([.ref p0, .int p1, .int p2, .int p3, .int p4])).length) Slot.unset).toArray = ls at hl ⊢
  have hl : lv_has ls 6 [(0, .ref p0), (1, .int p1), (2, .int p2), (3, .int p3), (4, .int p4)] := hl
  rw [← hHe]
  refine namedW (fun R Qz hR hQz => ?_)
  refine lv_iconst (v := 0) hx hb dX5_leastTouched_0 (by decide +kernel) ?_
  refine lv_istore (lv' := [(5, .int 0), (0, .ref p0), (1, .int p1), (2, .int p2), (3, .int p3), (4, .int p4)]) hx hb dX5_leastTouched_1 hl (by decide) rfl (fun ls hl => ?_)
  have key3 := blocks (fun n => ∀ (v3_5 : Int32) (H : Heap) (lo : List Loc) (ls : Array Slot), (11 - v3_5.toInt).toNat = n → ((0) ≤ v3_5.toInt ∧ v3_5.toInt ≤ 10) → (∀ c : Fx, okF c → cxF Q I J (nf Q p0) c → cxS Q I J p0 c → p1.toInt.toNat < (c.1 1).toInt.toNat → ((-2000 ≤ p3.toInt ∧ p3.toInt ≤ 2000) ∧ (-2000 ≤ p4.toInt ∧ p4.toInt ≤ 2000)) → ∀ i : Nat, i < v3_5.toInt.toNat → i < (c.1 1).toInt.toNat → hbt p2 i = true → ¬ metM c p1.toInt.toNat i p3.toInt p4.toInt) → va_P (dC, dI) vwCl (Wd cs L K I J Q) H → va_S (fun _ => False) s.heap H lo → lv_has ls 6 [(0, .ref p0), (1, .int p1), (2, .int p2), (3, .int p3), (4, .int p4), (5, .int v3_5)] → W p l e R s m (([.ref p0, .int p1, .int p2, .int p3, .int p4] : List Value).toArray) below meth c H lo 0 0 Qz (F0 m 3 ls [])) (by
    intro n ih3
    intro v3_5 H lo ls hmu3 bv3_5 h3 hP hS hl
    refine lv_iload hx hb dX5_leastTouched_3 (lv_at hl 5 rfl) ?_
    refine lv_aload_n hx hb dX5_leastTouched_5 rfl (lv_at hl 0 rfl) ?_
    obtain ⟨y6, ey6, hLy6, hKy6, hGy6⟩ := oQ_5_0 (Sv_at hQ hLp0 hKp0)
    refine p_get (v := .ref y6) hx hb hts inX5 hown hK hP hLp0 hKp0 rfl rfl 0 (by decide) (hts _ pq274) (congrArg (fun q => some (va_rf q)) ey6) dX5_leastTouched_6 ?_
    refine p_get hx hb hts inX1 hown hK hP hLy6 hKy6 rfl rfl 3 (by decide) (hts _ pq225) rfl dX5_leastTouched_9 ?_
    refine lv_topi (fun z9 ez9 => ?_)
    have cgz9 := congrArg Int32.toInt ez9
    have bz9 := oI_1_3 (Iv_at hI hLy6 hKy6)
    rw [← ez9] at bz9
    refine lv_icmp_ge (tgt := 47) hx hb dX5_leastTouched_12 (by decide) (fun c12 => ?_) (fun c12 => ?_)
    · have t12 := tq_le (k := z9.toInt) (q := v3_5.toInt) c12 rfl rfl
      refine lv_iconst (v := (-1)) hx hb dX5_leastTouched_47 (by decide +kernel) ?_
      subst hR; subst hQz
      exact W.iret (v := (-1)) hx hb hr (fun t ht hW => ⟨⟨(-1), (), rfl, ⟨⟨by decide +kernel, by decide +kernel⟩, (fun c ok h hs ha bd => by have n := h.2.1; rw [nf_of ey6, ← ez9] at n; exact ⟨fun _ i hi => h3 c ok h hs ha bd i (by rw [← n] at hi; omega) hi, fun q => absurd (by decide +kernel) q⟩)⟩, trivial⟩, hS.F ht⟩) hS.2.2 dX5_leastTouched_48
    · have t12 := tq_nle (k := z9.toInt) (q := v3_5.toInt) c12 rfl rfl
      refine lv_iload_n hx hb dX5_leastTouched_15 rfl (lv_at hl 2 rfl) ?_
      refine lv_iload hx hb dX5_leastTouched_16 (lv_at hl 5 rfl) ?_
      refine lv_ishr hx hb dX5_leastTouched_18 ?_
      refine lv_topi (fun z18 ez18 => ?_)
      refine lv_iconst (v := 1) hx hb dX5_leastTouched_19 (by decide +kernel) ?_
      refine lv_iand hx hb dX5_leastTouched_20 ?_
      refine lv_topi (fun z20 ez20 => ?_)
      have bz20 := tq_and 1 ez20 (by decide +kernel) (by decide)
      refine lv_iconst (v := 1) hx hb dX5_leastTouched_21 (by decide +kernel) ?_
      have j41 : ∀ (H : Heap) (lo : List Loc) (ls : Array Slot), (∀ c : Fx, okF c → cxF Q I J (nf Q p0) c → cxS Q I J p0 c → p1.toInt.toNat < (c.1 1).toInt.toNat → ((-2000 ≤ p3.toInt ∧ p3.toInt ≤ 2000) ∧ (-2000 ≤ p4.toInt ∧ p4.toInt ≤ 2000)) → v3_5.toInt.toNat < (c.1 1).toInt.toNat → hbt p2 v3_5.toInt.toNat = true → ¬ metM c p1.toInt.toNat v3_5.toInt.toNat p3.toInt p4.toInt) → va_P (dC, dI) vwCl (Wd cs L K I J Q) H → va_S (fun _ => False) s.heap H lo → lv_has ls 6 [(0, .ref p0), (1, .int p1), (2, .int p2), (3, .int p3), (4, .int p4), (5, .int v3_5)] → W p l e R s m (([.ref p0, .int p1, .int p2, .int p3, .int p4] : List Value).toArray) below meth c H lo 0 0 Qz (F0 m 41 ls []) := by
        intro H lo ls h41 hP hS hl
        obtain ⟨z41, ez41⟩ : ∃ y : Int32, y = v3_5 + 1 := ⟨_, rfl⟩
        refine lv_iinc (v := z41) (lv' := [(5, .int z41), (0, .ref p0), (1, .int p1), (2, .int p2), (3, .int p3), (4, .int p4)]) hx hb dX5_leastTouched_41 hl (k := 5) rfl (by rw [ez41]; rfl) (by decide) rfl (fun ls hl => ?_)
        have bz41 := tq_add (k := v3_5.toInt) (q := 1) ez41 rfl (by decide +kernel) (by omega) (by omega)
        refine lv_goto (tgt := 3) hx hb dX5_leastTouched_44 (by decide) ?_
        exact ih3 _ (by omega) z41 _ _ _ rfl ⟨by omega, by omega⟩ (fun c ok h hs ha bd i hi hN hb m => by (by_cases q : i < v3_5.toInt.toNat); (exact h3 c ok h hs ha bd i q hN hb m); (obtain rfl : i = v3_5.toInt.toNat := (by omega); exact h41 c ok h hs ha bd hN hb m)) hP hS (lv_sub hl [1, 2, 3, 4, 5, 0] rfl)
      refine lv_icmp_ne (tgt := 41) hx hb dX5_leastTouched_22 (by decide) (fun c22 => ?_) (fun c22 => ?_)
      · have t22 := tq_ne (k := z20.toInt) (q := (1)) c22 rfl (by decide +kernel)
        exact j41  _ _ _ (fun c ok h hs ha bd hN hb m => absurd ((hb_shr ez18 ez20 ⟨by omega, by omega⟩).1.mpr hb) (by omega)) hP hS (lv_sub hl [0, 1, 2, 3, 4, 5] rfl)
      · have t22 := tq_eq (k := z20.toInt) (q := (1)) c22 rfl (by decide +kernel)
        refine lv_aload_n hx hb dX5_leastTouched_25 rfl (lv_at hl 0 rfl) ?_
        refine lv_iload_n hx hb dX5_leastTouched_26 rfl (lv_at hl 1 rfl) ?_
        refine lv_iload hx hb dX5_leastTouched_27 (lv_at hl 5 rfl) ?_
        refine lv_iload_n hx hb dX5_leastTouched_29 rfl (lv_at hl 3 rfl) ?_
        refine lv_iload hx hb dX5_leastTouched_30 (lv_at hl 4 rfl) ?_
        refine ro_i (va_runV (As := [.int p1, .int v3_5, .int p3, .int p4]) (rest := []) ⟨hx, hb, hml, hown, hts⟩ (s_X5_shareIfMoved l dC dI cs L K G Q hQ x0 m0 tx tm H.size I J hI p0 hLp0 hKp0 p1 ⟨by omega, by omega⟩ v3_5 ⟨by omega, by omega⟩ p3 p4) (cwV 4 hts (gV pq766 pq767 pq768 pq79 pq769) rfl rfl rfl (by decide +kernel) ⟨(by rw [hR]; exact (Nat.le_of_ble_eq_true rfl)), (by rw [hR]; exact (Nat.le_of_ble_eq_true rfl))⟩) (sP_V hP hD hK hN hLp0 hKp0 rfl rfl) rfl rfl hl.1 rfl (lv_room (Nat.le_of_ble_eq_true rfl)) dX5_leastTouched_32 ⟨(by rw [hR]; exact (Nat.le_of_ble_eq_true rfl)), (by rw [hR]; exact (Nat.le_of_ble_eq_true rfl))⟩) hS hP (fun z32 H locs hz32 hP hS => ?_)
        obtain ⟨bz32, xpz32⟩ := hz32
        refine lv_if_eq (tgt := 41) hx hb dX5_leastTouched_35 (by decide) (fun c35 => ?_) (fun c35 => ?_)
        · have t35 := tq_eq (k := z32.toInt) (q := (0)) c35 rfl (by decide +kernel)
          exact j41  _ _ _ (fun c ok h hs ha bd hN hb m => absurd t35 ((xpz32 c ok h hs ha hN (bd20 bd)).mpr m)) hP hS (lv_sub hl [0, 1, 2, 3, 4, 5] rfl)
        · have t35 := tq_ne (k := z32.toInt) (q := (0)) c35 rfl (by decide +kernel)
          refine lv_iload hx hb dX5_leastTouched_38 (lv_at hl 5 rfl) ?_
          subst hR; subst hQz
          exact W.iret (v := v3_5) hx hb hr (fun t ht hW => ⟨⟨v3_5, (), rfl, ⟨⟨by omega, by omega⟩, (fun c ok h hs ha bd => by have n := h.2.1; rw [nf_of ey6, ← ez9] at n; exact ⟨fun q => absurd q (by omega), fun _ => ⟨by rw [← n]; omega, (hb_shr ez18 ez20 ⟨by omega, by omega⟩).1.mp t22, (xpz32 c ok h hs ha (by rw [← n]; omega) (bd20 bd)).mp t35⟩⟩)⟩, trivial⟩, hS.F ht⟩) hS.2.2 dX5_leastTouched_40)
  exact key3 _ 0 _ _ _ rfl ⟨by decide +kernel, by decide +kernel⟩ (fun c ok h hs ha bd i hi => absurd hi (by rw [show (0 : Int32).toInt.toNat = 0 from by decide +kernel]; omega)) hP hS (lv_sub hl [1, 2, 3, 4, 5, 0] rfl)
