def yX6_replaceBy : MethodName := ⟨RX6, "replaceBy", "(LMaskTouch$Field;)V"⟩
def yX4_readField : MethodName := ⟨RX4, "readField", "(ILMaskTouch$Field;)I"⟩
abbrev cX4_readField : ByteArray := prog_6_method_2_code
def yX1_clear : MethodName := ⟨RX1, "clear", "()V"⟩
abbrev cX1_clear : ByteArray := prog_3_method_2_code
def yX4_isAtEnd : MethodName := ⟨RX4, "isAtEnd", "()Z"⟩
abbrev cX4_isAtEnd : ByteArray := prog_6_method_19_code
def yX4_skipBlanks : MethodName := ⟨RX4, "skipBlanks", "()V"⟩
abbrev cX4_skipBlanks : ByteArray := prog_6_method_20_code
abbrev cX6_replaceBy : ByteArray := prog_1_method_27_code
def yX1_become : MethodName := ⟨RX1, "become", "(LMaskTouch$Field;)V"⟩
abbrev cX1_become : ByteArray := prog_3_method_3_code
def yX5_redraw : MethodName := ⟨RX5, "redraw", "()V"⟩
abbrev cX5_redraw : ByteArray := prog_7_method_2_code
abbrev cX6_keep : ByteArray := prog_1_method_25_code
abbrev cX6_remember : ByteArray := prog_1_method_28_code
abbrev cX6_tell : ByteArray := prog_1_method_5_code
def yX6_keep : MethodName := ⟨RX6, "keep", "(I)I"⟩
def yX6_remember : MethodName := ⟨RX6, "remember", "()V"⟩
def yX6_tell : MethodName := ⟨RX6, "tell", "()I"⟩
theorem dX1_become_0 : decode cX1_become 0 = .ok (.aload_n 0, 1) := by decide +kernel
theorem dX1_become_1 : decode cX1_become 1 = .ok (.aload_n 1, 1) := by decide +kernel
theorem dX1_become_2 : decode cX1_become 2 = .ok (.getfield 23, 3) := by decide +kernel
theorem dX1_become_5 : decode cX1_become 5 = .ok (.putfield 23, 3) := by decide +kernel
theorem dX1_become_8 : decode cX1_become 8 = .ok (.aload_n 0, 1) := by decide +kernel
theorem dX1_become_9 : decode cX1_become 9 = .ok (.aload_n 1, 1) := by decide +kernel
theorem dX1_become_10 : decode cX1_become 10 = .ok (.getfield 27, 3) := by decide +kernel
theorem dX1_become_13 : decode cX1_become 13 = .ok (.putfield 27, 3) := by decide +kernel
theorem dX1_become_16 : decode cX1_become 16 = .ok (.aload_n 0, 1) := by decide +kernel
theorem dX1_become_17 : decode cX1_become 17 = .ok (.aload_n 1, 1) := by decide +kernel
theorem dX1_become_18 : decode cX1_become 18 = .ok (.getfield 30, 3) := by decide +kernel
theorem dX1_become_21 : decode cX1_become 21 = .ok (.putfield 30, 3) := by decide +kernel
theorem dX1_become_24 : decode cX1_become 24 = .ok (.iconst 0, 1) := by decide +kernel
theorem dX1_become_25 : decode cX1_become 25 = .ok (.istore_n 2, 1) := by decide +kernel
theorem dX1_become_26 : decode cX1_become 26 = .ok (.iload_n 2, 1) := by decide +kernel
theorem dX1_become_27 : decode cX1_become 27 = .ok (.aload_n 0, 1) := by decide +kernel
theorem dX1_become_28 : decode cX1_become 28 = .ok (.getfield 23, 3) := by decide +kernel
theorem dX1_become_31 : decode cX1_become 31 = .ok (.if_icmp .ge 24, 3) := by decide +kernel
theorem dX1_become_55 : decode cX1_become 55 = .ok (.iconst 0, 1) := by decide +kernel
theorem dX1_become_56 : decode cX1_become 56 = .ok (.istore_n 2, 1) := by decide +kernel
theorem dX1_become_57 : decode cX1_become 57 = .ok (.iload_n 2, 1) := by decide +kernel
theorem dX1_become_58 : decode cX1_become 58 = .ok (.aload_n 0, 1) := by decide +kernel
theorem dX1_become_59 : decode cX1_become 59 = .ok (.getfield 27, 3) := by decide +kernel
theorem dX1_become_62 : decode cX1_become 62 = .ok (.if_icmp .ge 24, 3) := by decide +kernel
theorem dX1_become_86 : decode cX1_become 86 = .ok (.return_, 1) := by decide +kernel
theorem dX1_clear_0 : decode cX1_clear 0 = .ok (.aload_n 0, 1) := by decide +kernel
theorem dX1_clear_1 : decode cX1_clear 1 = .ok (.iconst 0, 1) := by decide +kernel
theorem dX1_clear_2 : decode cX1_clear 2 = .ok (.putfield 23, 3) := by decide +kernel
theorem dX1_clear_5 : decode cX1_clear 5 = .ok (.aload_n 0, 1) := by decide +kernel
theorem dX1_clear_6 : decode cX1_clear 6 = .ok (.iconst 0, 1) := by decide +kernel
theorem dX1_clear_7 : decode cX1_clear 7 = .ok (.putfield 27, 3) := by decide +kernel
theorem dX1_clear_10 : decode cX1_clear 10 = .ok (.aload_n 0, 1) := by decide +kernel
theorem dX1_clear_11 : decode cX1_clear 11 = .ok (.iconst 0, 1) := by decide +kernel
theorem dX1_clear_12 : decode cX1_clear 12 = .ok (.putfield 30, 3) := by decide +kernel
theorem dX1_clear_15 : decode cX1_clear 15 = .ok (.return_, 1) := by decide +kernel
theorem dX4_isAtEnd_0 : decode cX4_isAtEnd 0 = .ok (.aload_n 0, 1) := by decide +kernel
theorem dX4_isAtEnd_1 : decode cX4_isAtEnd 1 = .ok (.invokevirtual 46, 3) := by decide +kernel
theorem dX4_isAtEnd_4 : decode cX4_isAtEnd 4 = .ok (.aload_n 0, 1) := by decide +kernel
theorem dX4_isAtEnd_5 : decode cX4_isAtEnd 5 = .ok (.getfield 15, 3) := by decide +kernel
theorem dX4_isAtEnd_8 : decode cX4_isAtEnd 8 = .ok (.aload_n 0, 1) := by decide +kernel
theorem dX4_isAtEnd_9 : decode cX4_isAtEnd 9 = .ok (.getfield 9, 3) := by decide +kernel
theorem dX4_isAtEnd_12 : decode cX4_isAtEnd 12 = .ok (.if_icmp .lt 7, 3) := by decide +kernel
theorem dX4_isAtEnd_15 : decode cX4_isAtEnd 15 = .ok (.iconst 1, 1) := by decide +kernel
theorem dX4_isAtEnd_16 : decode cX4_isAtEnd 16 = .ok (.goto 4, 3) := by decide +kernel
theorem dX4_isAtEnd_20 : decode cX4_isAtEnd 20 = .ok (.ireturn, 1) := by decide +kernel
theorem dX4_readField_0 : decode cX4_readField 0 = .ok (.aload_n 0, 1) := by decide +kernel
theorem dX4_readField_1 : decode cX4_readField 1 = .ok (.iload_n 1, 1) := by decide +kernel
theorem dX4_readField_2 : decode cX4_readField 2 = .ok (.aload_n 0, 1) := by decide +kernel
theorem dX4_readField_3 : decode cX4_readField 3 = .ok (.getfield 27, 3) := by decide +kernel
theorem dX4_readField_6 : decode cX4_readField 6 = .ok (.arraylength, 1) := by decide +kernel
theorem dX4_readField_7 : decode cX4_readField 7 = .ok (.invokestatic 31, 3) := by decide +kernel
theorem dX4_readField_10 : decode cX4_readField 10 = .ok (.putfield 9, 3) := by decide +kernel
theorem dX4_readField_13 : decode cX4_readField 13 = .ok (.aload_n 0, 1) := by decide +kernel
theorem dX4_readField_14 : decode cX4_readField 14 = .ok (.iconst 0, 1) := by decide +kernel
theorem dX4_readField_15 : decode cX4_readField 15 = .ok (.putfield 15, 3) := by decide +kernel
theorem dX4_readField_18 : decode cX4_readField 18 = .ok (.aload_n 0, 1) := by decide +kernel
theorem dX4_readField_19 : decode cX4_readField 19 = .ok (.iconst 0, 1) := by decide +kernel
theorem dX4_readField_20 : decode cX4_readField 20 = .ok (.putfield 24, 3) := by decide +kernel
theorem dX4_readField_23 : decode cX4_readField 23 = .ok (.aload_n 2, 1) := by decide +kernel
theorem dX4_readField_24 : decode cX4_readField 24 = .ok (.invokevirtual 37, 3) := by decide +kernel
theorem dX4_readField_27 : decode cX4_readField 27 = .ok (.aload_n 0, 1) := by decide +kernel
theorem dX4_readField_28 : decode cX4_readField 28 = .ok (.invokevirtual 42, 3) := by decide +kernel
theorem dX4_readField_31 : decode cX4_readField 31 = .ok (.ifCond .eq 8, 3) := by decide +kernel
theorem dX4_readField_34 : decode cX4_readField 34 = .ok (.aload_n 0, 1) := by decide +kernel
theorem dX4_readField_35 : decode cX4_readField 35 = .ok (.getfield 24, 3) := by decide +kernel
theorem dX4_readField_38 : decode cX4_readField 38 = .ok (.ireturn, 1) := by decide +kernel
theorem dX4_skipBlanks_0 : decode cX4_skipBlanks 0 = .ok (.aload_n 0, 1) := by decide +kernel
theorem dX4_skipBlanks_1 : decode cX4_skipBlanks 1 = .ok (.getfield 15, 3) := by decide +kernel
theorem dX4_skipBlanks_4 : decode cX4_skipBlanks 4 = .ok (.aload_n 0, 1) := by decide +kernel
theorem dX4_skipBlanks_5 : decode cX4_skipBlanks 5 = .ok (.getfield 9, 3) := by decide +kernel
theorem dX4_skipBlanks_8 : decode cX4_skipBlanks 8 = .ok (.if_icmp .ge 30, 3) := by decide +kernel
theorem dX4_skipBlanks_38 : decode cX4_skipBlanks 38 = .ok (.return_, 1) := by decide +kernel
theorem dX5_redraw_0 : decode cX5_redraw 0 = .ok (.iconst 0, 1) := by decide +kernel
theorem dX5_redraw_1 : decode cX5_redraw 1 = .ok (.istore_n 1, 1) := by decide +kernel
theorem dX5_redraw_2 : decode cX5_redraw 2 = .ok (.iload_n 1, 1) := by decide +kernel
theorem dX5_redraw_3 : decode cX5_redraw 3 = .ok (.aload_n 0, 1) := by decide +kernel
theorem dX5_redraw_4 : decode cX5_redraw 4 = .ok (.getfield 39, 3) := by decide +kernel
theorem dX5_redraw_7 : decode cX5_redraw 7 = .ok (.getfield 44, 3) := by decide +kernel
theorem dX5_redraw_10 : decode cX5_redraw 10 = .ok (.if_icmp .ge 44, 3) := by decide +kernel
theorem dX5_redraw_54 : decode cX5_redraw 54 = .ok (.return_, 1) := by decide +kernel
theorem dX6_keep_0 : decode cX6_keep 0 = .ok (.iload_n 1, 1) := by decide +kernel
theorem dX6_keep_1 : decode cX6_keep 1 = .ok (.iconst 1, 1) := by decide +kernel
theorem dX6_keep_2 : decode cX6_keep 2 = .ok (.invokestatic 109, 3) := by decide +kernel
theorem dX6_keep_5 : decode cX6_keep 5 = .ok (.ifCond .ne 5, 3) := by decide +kernel
theorem dX6_keep_8 : decode cX6_keep 8 = .ok (.iconst (-1), 1) := by decide +kernel
theorem dX6_keep_9 : decode cX6_keep 9 = .ok (.ireturn, 1) := by decide +kernel
theorem dX6_keep_10 : decode cX6_keep 10 = .ok (.aload_n 0, 1) := by decide +kernel
theorem dX6_keep_11 : decode cX6_keep 11 = .ok (.getfield 69, 3) := by decide +kernel
theorem dX6_keep_14 : decode cX6_keep 14 = .ok (.iload_n 1, 1) := by decide +kernel
theorem dX6_keep_15 : decode cX6_keep 15 = .ok (.aaload, 1) := by decide +kernel
theorem dX6_keep_16 : decode cX6_keep 16 = .ok (.astore_n 2, 1) := by decide +kernel
theorem dX6_keep_17 : decode cX6_keep 17 = .ok (.aload_n 2, 1) := by decide +kernel
theorem dX6_keep_18 : decode cX6_keep 18 = .ok (.ifnonnull 18, 3) := by decide +kernel
theorem dX6_keep_21 : decode cX6_keep 21 = .ok (.new 17, 3) := by decide +kernel
theorem dX6_keep_24 : decode cX6_keep 24 = .ok (.dup, 1) := by decide +kernel
theorem dX6_keep_25 : decode cX6_keep 25 = .ok (.invokespecial 19, 3) := by decide +kernel
theorem dX6_keep_28 : decode cX6_keep 28 = .ok (.astore_n 2, 1) := by decide +kernel
theorem dX6_keep_29 : decode cX6_keep 29 = .ok (.aload_n 0, 1) := by decide +kernel
theorem dX6_keep_30 : decode cX6_keep 30 = .ok (.getfield 69, 3) := by decide +kernel
theorem dX6_keep_33 : decode cX6_keep 33 = .ok (.iload_n 1, 1) := by decide +kernel
theorem dX6_keep_34 : decode cX6_keep 34 = .ok (.aload_n 2, 1) := by decide +kernel
theorem dX6_keep_35 : decode cX6_keep 35 = .ok (.aastore, 1) := by decide +kernel
theorem dX6_keep_36 : decode cX6_keep 36 = .ok (.aload_n 2, 1) := by decide +kernel
theorem dX6_keep_37 : decode cX6_keep 37 = .ok (.aload_n 0, 1) := by decide +kernel
theorem dX6_keep_38 : decode cX6_keep 38 = .ok (.getfield 20, 3) := by decide +kernel
theorem dX6_keep_41 : decode cX6_keep 41 = .ok (.invokevirtual 238, 3) := by decide +kernel
theorem dX6_keep_44 : decode cX6_keep 44 = .ok (.aload_n 0, 1) := by decide +kernel
theorem dX6_keep_45 : decode cX6_keep 45 = .ok (.getfield 20, 3) := by decide +kernel
theorem dX6_keep_48 : decode cX6_keep 48 = .ok (.getfield 83, 3) := by decide +kernel
theorem dX6_keep_51 : decode cX6_keep 51 = .ok (.ireturn, 1) := by decide +kernel
theorem dX6_remember_0 : decode cX6_remember 0 = .ok (.aload_n 0, 1) := by decide +kernel
theorem dX6_remember_1 : decode cX6_remember 1 = .ok (.getfield 66, 3) := by decide +kernel
theorem dX6_remember_4 : decode cX6_remember 4 = .ok (.bipush 10, 2) := by decide +kernel
theorem dX6_remember_6 : decode cX6_remember 6 = .ok (.if_icmp .ne 26, 3) := by decide +kernel
theorem dX6_remember_32 : decode cX6_remember 32 = .ok (.aload_n 0, 1) := by decide +kernel
theorem dX6_remember_33 : decode cX6_remember 33 = .ok (.getfield 63, 3) := by decide +kernel
theorem dX6_remember_36 : decode cX6_remember 36 = .ok (.aload_n 0, 1) := by decide +kernel
theorem dX6_remember_37 : decode cX6_remember 37 = .ok (.getfield 66, 3) := by decide +kernel
theorem dX6_remember_40 : decode cX6_remember 40 = .ok (.iadd, 1) := by decide +kernel
theorem dX6_remember_41 : decode cX6_remember 41 = .ok (.bipush 10, 2) := by decide +kernel
theorem dX6_remember_43 : decode cX6_remember 43 = .ok (.irem, 1) := by decide +kernel
theorem dX6_remember_44 : decode cX6_remember 44 = .ok (.istore_n 1, 1) := by decide +kernel
theorem dX6_remember_45 : decode cX6_remember 45 = .ok (.aload_n 0, 1) := by decide +kernel
theorem dX6_remember_46 : decode cX6_remember 46 = .ok (.getfield 59, 3) := by decide +kernel
theorem dX6_remember_49 : decode cX6_remember 49 = .ok (.iload_n 1, 1) := by decide +kernel
theorem dX6_remember_50 : decode cX6_remember 50 = .ok (.aaload, 1) := by decide +kernel
theorem dX6_remember_51 : decode cX6_remember 51 = .ok (.astore_n 2, 1) := by decide +kernel
theorem dX6_remember_52 : decode cX6_remember 52 = .ok (.aload_n 2, 1) := by decide +kernel
theorem dX6_remember_53 : decode cX6_remember 53 = .ok (.ifnonnull 18, 3) := by decide +kernel
theorem dX6_remember_56 : decode cX6_remember 56 = .ok (.new 17, 3) := by decide +kernel
theorem dX6_remember_59 : decode cX6_remember 59 = .ok (.dup, 1) := by decide +kernel
theorem dX6_remember_60 : decode cX6_remember 60 = .ok (.invokespecial 19, 3) := by decide +kernel
theorem dX6_remember_63 : decode cX6_remember 63 = .ok (.astore_n 2, 1) := by decide +kernel
theorem dX6_remember_64 : decode cX6_remember 64 = .ok (.aload_n 0, 1) := by decide +kernel
theorem dX6_remember_65 : decode cX6_remember 65 = .ok (.getfield 59, 3) := by decide +kernel
theorem dX6_remember_68 : decode cX6_remember 68 = .ok (.iload_n 1, 1) := by decide +kernel
theorem dX6_remember_69 : decode cX6_remember 69 = .ok (.aload_n 2, 1) := by decide +kernel
theorem dX6_remember_70 : decode cX6_remember 70 = .ok (.aastore, 1) := by decide +kernel
theorem dX6_remember_71 : decode cX6_remember 71 = .ok (.aload_n 2, 1) := by decide +kernel
theorem dX6_remember_72 : decode cX6_remember 72 = .ok (.aload_n 0, 1) := by decide +kernel
theorem dX6_remember_73 : decode cX6_remember 73 = .ok (.getfield 20, 3) := by decide +kernel
theorem dX6_remember_76 : decode cX6_remember 76 = .ok (.invokevirtual 238, 3) := by decide +kernel
theorem dX6_remember_79 : decode cX6_remember 79 = .ok (.aload_n 0, 1) := by decide +kernel
theorem dX6_remember_80 : decode cX6_remember 80 = .ok (.dup, 1) := by decide +kernel
theorem dX6_remember_81 : decode cX6_remember 81 = .ok (.getfield 66, 3) := by decide +kernel
theorem dX6_remember_84 : decode cX6_remember 84 = .ok (.iconst 1, 1) := by decide +kernel
theorem dX6_remember_85 : decode cX6_remember 85 = .ok (.iadd, 1) := by decide +kernel
theorem dX6_remember_86 : decode cX6_remember 86 = .ok (.putfield 66, 3) := by decide +kernel
theorem dX6_remember_89 : decode cX6_remember 89 = .ok (.return_, 1) := by decide +kernel
theorem dX6_replaceBy_0 : decode cX6_replaceBy 0 = .ok (.aload_n 0, 1) := by decide +kernel
theorem dX6_replaceBy_1 : decode cX6_replaceBy 1 = .ok (.getfield 20, 3) := by decide +kernel
theorem dX6_replaceBy_4 : decode cX6_replaceBy 4 = .ok (.aload_n 1, 1) := by decide +kernel
theorem dX6_replaceBy_5 : decode cX6_replaceBy 5 = .ok (.invokevirtual 238, 3) := by decide +kernel
theorem dX6_replaceBy_8 : decode cX6_replaceBy 8 = .ok (.aload_n 0, 1) := by decide +kernel
theorem dX6_replaceBy_9 : decode cX6_replaceBy 9 = .ok (.getfield 41, 3) := by decide +kernel
theorem dX6_replaceBy_12 : decode cX6_replaceBy 12 = .ok (.invokevirtual 115, 3) := by decide +kernel
theorem dX6_replaceBy_15 : decode cX6_replaceBy 15 = .ok (.aload_n 0, 1) := by decide +kernel
theorem dX6_replaceBy_16 : decode cX6_replaceBy 16 = .ok (.iconst 0, 1) := by decide +kernel
theorem dX6_replaceBy_17 : decode cX6_replaceBy 17 = .ok (.putfield 66, 3) := by decide +kernel
theorem dX6_replaceBy_20 : decode cX6_replaceBy 20 = .ok (.return_, 1) := by decide +kernel
theorem dX6_tell_0 : decode cX6_tell 0 = .ok (.aload_n 0, 1) := by decide +kernel
theorem dX6_tell_1 : decode cX6_tell 1 = .ok (.getfield 32, 3) := by decide +kernel
theorem dX6_tell_4 : decode cX6_tell 4 = .ok (.aload_n 0, 1) := by decide +kernel
theorem dX6_tell_5 : decode cX6_tell 5 = .ok (.getfield 13, 3) := by decide +kernel
theorem dX6_tell_8 : decode cX6_tell 8 = .ok (.aload_n 0, 1) := by decide +kernel
theorem dX6_tell_9 : decode cX6_tell 9 = .ok (.getfield 24, 3) := by decide +kernel
theorem dX6_tell_12 : decode cX6_tell 12 = .ok (.invokevirtual 76, 3) := by decide +kernel
theorem dX6_tell_15 : decode cX6_tell 15 = .ok (.istore_n 1, 1) := by decide +kernel
theorem dX6_tell_16 : decode cX6_tell 16 = .ok (.aload_n 0, 1) := by decide +kernel
theorem dX6_tell_17 : decode cX6_tell 17 = .ok (.iconst 0, 1) := by decide +kernel
theorem dX6_tell_18 : decode cX6_tell 18 = .ok (.putfield 13, 3) := by decide +kernel
theorem dX6_tell_21 : decode cX6_tell 21 = .ok (.iload_n 1, 1) := by decide +kernel
theorem dX6_tell_22 : decode cX6_tell 22 = .ok (.ifCond .eq 8, 3) := by decide +kernel
theorem dX6_tell_30 : decode cX6_tell 30 = .ok (.aload_n 0, 1) := by decide +kernel
theorem dX6_tell_31 : decode cX6_tell 31 = .ok (.aload_n 0, 1) := by decide +kernel
theorem dX6_tell_32 : decode cX6_tell 32 = .ok (.getfield 24, 3) := by decide +kernel
theorem dX6_tell_35 : decode cX6_tell 35 = .ok (.invokevirtual 80, 3) := by decide +kernel
theorem dX6_tell_38 : decode cX6_tell 38 = .ok (.aload_n 0, 1) := by decide +kernel
theorem dX6_tell_39 : decode cX6_tell 39 = .ok (.getfield 20, 3) := by decide +kernel
theorem dX6_tell_42 : decode cX6_tell 42 = .ok (.getfield 83, 3) := by decide +kernel
theorem dX6_tell_45 : decode cX6_tell 45 = .ok (.ireturn, 1) := by decide +kernel
set_option maxRecDepth 100000 in
theorem pq1 : Cond.selects RX6 yX6_replaceBy yX6_replaceBy ∈ pw := pw_mem (i := 1) (by decide +kernel) rfl
set_option maxRecDepth 100000 in
theorem pq82 : Cond.initialized RJ9 ∈ pw := pw_mem (i := 82) (by decide +kernel) rfl
set_option maxRecDepth 100000 in
theorem pq225 : Cond.fieldLink RX5 44 "MaskTouch$Field" "bodyCount" "I" ∈ pw := pw_mem (i := 225) (by decide +kernel) rfl
set_option maxRecDepth 100000 in
theorem pq402 : Cond.methodLink RX6 76 yX4_readField ∈ pw := pw_mem (i := 402) (by decide +kernel) rfl
set_option maxRecDepth 100000 in
theorem pq403 : Cond.instanceMethod yX4_readField ∈ pw := pw_mem (i := 403) (by decide +kernel) rfl
set_option maxRecDepth 100000 in
theorem pq404 : Cond.selects RX4 yX4_readField yX4_readField ∈ pw := pw_mem (i := 404) (by decide +kernel) rfl
set_option maxRecDepth 100000 in
theorem pq405 : Cond.code yX4_readField cX4_readField 5 (some .int) ∈ pw := pw_mem (i := 405) (by rfl) rfl
set_option maxRecDepth 100000 in
theorem pq406 : Cond.methodLink RX4 31 Lib.Math.min.name ∈ pw := pw_mem (i := 406) (by decide +kernel) rfl
set_option maxRecDepth 100000 in
theorem pq407 : Cond.static Lib.Math.min.name ∈ pw := pw_mem (i := 407) (by decide +kernel) rfl
set_option maxRecDepth 100000 in
theorem pq408 : Cond.code Lib.Math.min.name Lib.Math.min.code 2 (some .int) ∈ pw := pw_mem (i := 408) (by rfl) rfl
set_option maxRecDepth 100000 in
theorem pq409 : Cond.methodLink RX4 37 yX1_clear ∈ pw := pw_mem (i := 409) (by decide +kernel) rfl
set_option maxRecDepth 100000 in
theorem pq410 : Cond.instanceMethod yX1_clear ∈ pw := pw_mem (i := 410) (by decide +kernel) rfl
set_option maxRecDepth 100000 in
theorem pq411 : Cond.selects RX1 yX1_clear yX1_clear ∈ pw := pw_mem (i := 411) (by decide +kernel) rfl
set_option maxRecDepth 100000 in
theorem pq412 : Cond.code yX1_clear cX1_clear 1 none ∈ pw := pw_mem (i := 412) (by rfl) rfl
set_option maxRecDepth 100000 in
theorem pq413 : Cond.methodLink RX4 42 yX4_isAtEnd ∈ pw := pw_mem (i := 413) (by decide +kernel) rfl
set_option maxRecDepth 100000 in
theorem pq414 : Cond.instanceMethod yX4_isAtEnd ∈ pw := pw_mem (i := 414) (by decide +kernel) rfl
set_option maxRecDepth 100000 in
theorem pq415 : Cond.selects RX4 yX4_isAtEnd yX4_isAtEnd ∈ pw := pw_mem (i := 415) (by decide +kernel) rfl
set_option maxRecDepth 100000 in
theorem pq416 : Cond.code yX4_isAtEnd cX4_isAtEnd 1 (some .boolean) ∈ pw := pw_mem (i := 416) (by rfl) rfl
set_option maxRecDepth 100000 in
theorem pq417 : Cond.methodLink RX4 46 yX4_skipBlanks ∈ pw := pw_mem (i := 417) (by decide +kernel) rfl
set_option maxRecDepth 100000 in
theorem pq418 : Cond.instanceMethod yX4_skipBlanks ∈ pw := pw_mem (i := 418) (by decide +kernel) rfl
set_option maxRecDepth 100000 in
theorem pq419 : Cond.selects RX4 yX4_skipBlanks yX4_skipBlanks ∈ pw := pw_mem (i := 419) (by decide +kernel) rfl
set_option maxRecDepth 100000 in
theorem pq420 : Cond.code yX4_skipBlanks cX4_skipBlanks 1 none ∈ pw := pw_mem (i := 420) (by rfl) rfl
set_option maxRecDepth 100000 in
theorem pq585 : Cond.methodLink RX6 80 yX6_replaceBy ∈ pw := pw_mem (i := 585) (by decide +kernel) rfl
set_option maxRecDepth 100000 in
theorem pq587 : Cond.instanceMethod yX6_replaceBy ∈ pw := pw_mem (i := 587) (by decide +kernel) rfl
set_option maxRecDepth 100000 in
theorem pq588 : Cond.code yX6_replaceBy cX6_replaceBy 2 none ∈ pw := pw_mem (i := 588) (by rfl) rfl
set_option maxRecDepth 100000 in
theorem pq589 : Cond.methodLink RX6 238 yX1_become ∈ pw := pw_mem (i := 589) (by decide +kernel) rfl
set_option maxRecDepth 100000 in
theorem pq590 : Cond.instanceMethod yX1_become ∈ pw := pw_mem (i := 590) (by decide +kernel) rfl
set_option maxRecDepth 100000 in
theorem pq591 : Cond.selects RX1 yX1_become yX1_become ∈ pw := pw_mem (i := 591) (by decide +kernel) rfl
set_option maxRecDepth 100000 in
theorem pq592 : Cond.code yX1_become cX1_become 3 none ∈ pw := pw_mem (i := 592) (by rfl) rfl
set_option maxRecDepth 100000 in
theorem pq604 : Cond.methodLink RX6 115 yX5_redraw ∈ pw := pw_mem (i := 604) (by decide +kernel) rfl
set_option maxRecDepth 100000 in
theorem pq605 : Cond.instanceMethod yX5_redraw ∈ pw := pw_mem (i := 605) (by decide +kernel) rfl
set_option maxRecDepth 100000 in
theorem pq606 : Cond.selects RX5 yX5_redraw yX5_redraw ∈ pw := pw_mem (i := 606) (by decide +kernel) rfl
set_option maxRecDepth 100000 in
theorem pq607 : Cond.code yX5_redraw cX5_redraw 3 none ∈ pw := pw_mem (i := 607) (by rfl) rfl
set_option maxHeartbeats 4000000 in
set_option maxRecDepth 100000 in
theorem c_X1_clear (l : Launch) (dC : Nat → ClassId) (dI : Nat → Nat → Nat) (h0 am ab : Nat) (sz : Nat) : Met l yX1_clear (.code yX1_clear cX1_clear 1 none :: pw) ({ frames := 0, cells := 0, slots := 0, locals := 0 }) (pc (dC, dI) [.ref h0] sz [(h0, .inr (1, [.ref am, .ref ab, .int 0, .int 0, .int 0]))] []) (va_Qv (fun (_ : Unit) => True) (fun _ t => wB (dC, dI) [(h0, .inr (1, [.ref am, .ref ab, .int 0, .int 0, .int 0]))] [] (va_A [(h0, .inr (1, [.ref am, .ref ab, .int 0, .int 0, .int 0]))] sz) t) (va_A [(h0, .inr (1, [.ref am, .ref ab, .int 0, .int 0, .int 0]))] sz)) 0 0 (va_A [(h0, .inr (1, [.ref am, .ref ab, .int 0, .int 0, .int 0]))] sz) := by
  refine Met.ofW (cc := cX1_clear) (maxL := 1) (ret := none) (by decide +kernel) rfl ?_
  intro p e s m args below meth c s₁ B hml hv
  obtain ⟨rfl, hsz, hP, hK, hD0, hN⟩ := hv
  have hx := B.exec
  have hb := B.bytes
  have hr := B.returns
  have hts := fun w (h : w ∈ pw) => atoms_spec (ws := Cond.code yX1_clear cX1_clear 1 none :: pw) B.pre w (List.mem_cons_of_mem _ h)
  have hown : s.vm.findClass RX1 = some m.cls := findClass_of_methodNamed B.named
  have hlocks := B.notSynchronized
  subst hsz
  have hD := hD0.self (sz := s.heap.size)
  generalize hAe : va_A [(h0, .inr (1, [.ref am, .ref ab, .int 0, .int 0, .int 0]))] s.heap.size = A at hD ⊢
  have hA : ∀ q : Nat, s.heap.size ≤ q → A q := fun q h => by rw [← hAe]; exact Or.inr h
  obtain ⟨H, hHe⟩ : ∃ H : Heap, H = s.heap := ⟨_, rfl⟩
  have hS : va_S A s.heap H [] := by rw [hHe]; exact va_S.rf
  rw [← hHe] at hP
  have hl := lv_entry ([.ref h0]) (n := 1) (Nat.le_of_ble_eq_true rfl)
  rw [lg_entry_eq]
  generalize (lg_sl ([.ref h0]) ++ List.replicate (1 - (lg_sl ([.ref h0])).length) Slot.unset).toArray = ls at hl ⊢
  have hl : lv_has ls 1 [(0, .ref h0)] := hl
  rw [← hHe]
  refine lv_aload_n hx hb dX1_clear_0 rfl (lv_at hl 0 rfl) ?_
  refine lv_iconst (v := 0) hx hb dX1_clear_1 (by decide +kernel) ?_
  refine va_put (D := (dC, dI)) (ci := 1) (v := .int 0) (ty := tyX1 2) (C := RX1) (T := TX1) (N := 5) hx hb hts inX1 tyX1 tyX1_ok nmX1 hown hK hP hD hS 0 rfl rfl 2 (by decide) (hts _ pq221) (fun _ h9 => h9) rfl (by decide +kernel) rfl rfl (Nat.le_of_ble_eq_true rfl) dX1_clear_2 (fun H locs hP hD hS => ?_)
  have hP : va_P (dC, dI) vwCl [(h0, .inr (1, [.ref am, .ref ab, .int 0, .int 0, .int 0]))] H := hP
  have hD : va_D A [(h0, .inr (1, [.ref am, .ref ab, .int 0, .int 0, .int 0]))] := hD
  refine lv_aload_n hx hb dX1_clear_5 rfl (lv_at hl 0 rfl) ?_
  refine lv_iconst (v := 0) hx hb dX1_clear_6 (by decide +kernel) ?_
  refine va_put (D := (dC, dI)) (ci := 1) (v := .int 0) (ty := tyX1 3) (C := RX1) (T := TX1) (N := 5) hx hb hts inX1 tyX1 tyX1_ok nmX1 hown hK hP hD hS 0 rfl rfl 3 (by decide) (hts _ pq224) (fun _ h9 => h9) rfl (by decide +kernel) rfl rfl (Nat.le_of_ble_eq_true rfl) dX1_clear_7 (fun H locs hP hD hS => ?_)
  have hP : va_P (dC, dI) vwCl [(h0, .inr (1, [.ref am, .ref ab, .int 0, .int 0, .int 0]))] H := hP
  have hD : va_D A [(h0, .inr (1, [.ref am, .ref ab, .int 0, .int 0, .int 0]))] := hD
  refine lv_aload_n hx hb dX1_clear_10 rfl (lv_at hl 0 rfl) ?_
  refine lv_iconst (v := 0) hx hb dX1_clear_11 (by decide +kernel) ?_
  refine va_put (D := (dC, dI)) (ci := 1) (v := .int 0) (ty := tyX1 4) (C := RX1) (T := TX1) (N := 5) hx hb hts inX1 tyX1 tyX1_ok nmX1 hown hK hP hD hS 0 rfl rfl 4 (by decide) (hts _ pq228) (fun _ h9 => h9) rfl (by decide +kernel) rfl rfl (Nat.le_of_ble_eq_true rfl) dX1_clear_12 (fun H locs hP hD hS => ?_)
  have hP : va_P (dC, dI) vwCl [(h0, .inr (1, [.ref am, .ref ab, .int 0, .int 0, .int 0]))] H := hP
  have hD : va_D A [(h0, .inr (1, [.ref am, .ref ab, .int 0, .int 0, .int 0]))] := hD
  have hP9 := hP.sub (ws' := [(h0, .inr (1, [.ref am, .ref ab, .int 0, .int 0, .int 0]))]) [0] rfl
  have hD9 := hD.sub (ws' := [(h0, .inr (1, [.ref am, .ref ab, .int 0, .int 0, .int 0]))]) [0] (by decide) rfl
  have hK9 := hK.sub (tys' := []) [] rfl
  exact W.vret hx hb hr (fun t ht hW => ⟨⟨(), rfl, trivial, ⟨by rw [ht]; exact hP9, va_K.moved hW.alike hK9, hD9⟩⟩, hS.F ht⟩) hS.2.2 dX1_clear_15

set_option maxHeartbeats 4000000 in
set_option maxRecDepth 100000 in
theorem c_X1_become (l : Launch) (dC : Nat → ClassId) (dI : Nat → Nat → Nat) (h0 am ab p0 am2 ab2 : Nat) (sz : Nat) : Met l yX1_become (.code yX1_become cX1_become 3 none :: pw) ({ frames := 0, cells := 0, slots := 0, locals := 0 }) (pc (dC, dI) [.ref h0, .ref p0] sz [(h0, .inr (1, [.ref am, .ref ab, .int 0, .int 0, .int 0])), (p0, .inr (1, [.ref am2, .ref ab2, .int 0, .int 0, .int 0]))] []) (va_Qv (fun (_ : Unit) => True) (fun _ t => wB (dC, dI) [(h0, .inr (1, [.ref am, .ref ab, .int 0, .int 0, .int 0])), (p0, .inr (1, [.ref am2, .ref ab2, .int 0, .int 0, .int 0]))] [] (va_A [(h0, .inr (1, [.ref am, .ref ab, .int 0, .int 0, .int 0])), (p0, .inr (1, [.ref am2, .ref ab2, .int 0, .int 0, .int 0]))] sz) t) (va_A [(h0, .inr (1, [.ref am, .ref ab, .int 0, .int 0, .int 0])), (p0, .inr (1, [.ref am2, .ref ab2, .int 0, .int 0, .int 0]))] sz)) 0 0 (va_A [(h0, .inr (1, [.ref am, .ref ab, .int 0, .int 0, .int 0])), (p0, .inr (1, [.ref am2, .ref ab2, .int 0, .int 0, .int 0]))] sz) := by
  refine Met.ofW (cc := cX1_become) (maxL := 3) (ret := none) (by decide +kernel) rfl ?_
  intro p e s m args below meth c s₁ B hml hv
  obtain ⟨rfl, hsz, hP, hK, hD0, hN⟩ := hv
  have hx := B.exec
  have hb := B.bytes
  have hr := B.returns
  have hts := fun w (h : w ∈ pw) => atoms_spec (ws := Cond.code yX1_become cX1_become 3 none :: pw) B.pre w (List.mem_cons_of_mem _ h)
  have hown : s.vm.findClass RX1 = some m.cls := findClass_of_methodNamed B.named
  have hlocks := B.notSynchronized
  subst hsz
  have hD := hD0.self (sz := s.heap.size)
  generalize hAe : va_A [(h0, .inr (1, [.ref am, .ref ab, .int 0, .int 0, .int 0])), (p0, .inr (1, [.ref am2, .ref ab2, .int 0, .int 0, .int 0]))] s.heap.size = A at hD ⊢
  have hA : ∀ q : Nat, s.heap.size ≤ q → A q := fun q h => by rw [← hAe]; exact Or.inr h
  obtain ⟨H, hHe⟩ : ∃ H : Heap, H = s.heap := ⟨_, rfl⟩
  have hS : va_S A s.heap H [] := by rw [hHe]; exact va_S.rf
  rw [← hHe] at hP
  have hl := lv_entry ([.ref h0, .ref p0]) (n := 3) (Nat.le_of_ble_eq_true rfl)
  rw [lg_entry_eq]
  generalize (lg_sl ([.ref h0, .ref p0]) ++ List.replicate (3 - (lg_sl ([.ref h0, .ref p0])).length) Slot.unset).toArray = ls at hl ⊢
  have hl : lv_has ls 3 [(0, .ref h0), (1, .ref p0)] := hl
  rw [← hHe]
  refine lv_aload_n hx hb dX1_become_0 rfl (lv_at hl 0 rfl) ?_
  refine lv_aload_n hx hb dX1_become_1 rfl (lv_at hl 1 rfl) ?_
  refine va_get (D := (dC, dI)) (ci := 1) (v := .int 0) (C := RX1) (T := TX1) (N := 5) hx hb hts inX1 hown hK hP 1 rfl rfl 2 (by decide) (hts _ pq221) (fun _ h9 => h9) rfl dX1_become_2 ?_
  refine va_put (D := (dC, dI)) (ci := 1) (v := .int 0) (ty := tyX1 2) (C := RX1) (T := TX1) (N := 5) hx hb hts inX1 tyX1 tyX1_ok nmX1 hown hK hP hD hS 0 rfl rfl 2 (by decide) (hts _ pq221) (fun _ h9 => h9) rfl (by decide +kernel) rfl rfl (Nat.le_of_ble_eq_true rfl) dX1_become_5 (fun H locs hP hD hS => ?_)
  have hP : va_P (dC, dI) vwCl [(h0, .inr (1, [.ref am, .ref ab, .int 0, .int 0, .int 0])), (p0, .inr (1, [.ref am2, .ref ab2, .int 0, .int 0, .int 0]))] H := hP
  have hD : va_D A [(h0, .inr (1, [.ref am, .ref ab, .int 0, .int 0, .int 0])), (p0, .inr (1, [.ref am2, .ref ab2, .int 0, .int 0, .int 0]))] := hD
  refine lv_aload_n hx hb dX1_become_8 rfl (lv_at hl 0 rfl) ?_
  refine lv_aload_n hx hb dX1_become_9 rfl (lv_at hl 1 rfl) ?_
  refine va_get (D := (dC, dI)) (ci := 1) (v := .int 0) (C := RX1) (T := TX1) (N := 5) hx hb hts inX1 hown hK hP 1 rfl rfl 3 (by decide) (hts _ pq224) (fun _ h9 => h9) rfl dX1_become_10 ?_
  refine va_put (D := (dC, dI)) (ci := 1) (v := .int 0) (ty := tyX1 3) (C := RX1) (T := TX1) (N := 5) hx hb hts inX1 tyX1 tyX1_ok nmX1 hown hK hP hD hS 0 rfl rfl 3 (by decide) (hts _ pq224) (fun _ h9 => h9) rfl (by decide +kernel) rfl rfl (Nat.le_of_ble_eq_true rfl) dX1_become_13 (fun H locs hP hD hS => ?_)
  have hP : va_P (dC, dI) vwCl [(h0, .inr (1, [.ref am, .ref ab, .int 0, .int 0, .int 0])), (p0, .inr (1, [.ref am2, .ref ab2, .int 0, .int 0, .int 0]))] H := hP
  have hD : va_D A [(h0, .inr (1, [.ref am, .ref ab, .int 0, .int 0, .int 0])), (p0, .inr (1, [.ref am2, .ref ab2, .int 0, .int 0, .int 0]))] := hD
  refine lv_aload_n hx hb dX1_become_16 rfl (lv_at hl 0 rfl) ?_
  refine lv_aload_n hx hb dX1_become_17 rfl (lv_at hl 1 rfl) ?_
  refine va_get (D := (dC, dI)) (ci := 1) (v := .int 0) (C := RX1) (T := TX1) (N := 5) hx hb hts inX1 hown hK hP 1 rfl rfl 4 (by decide) (hts _ pq228) (fun _ h9 => h9) rfl dX1_become_18 ?_
  refine va_put (D := (dC, dI)) (ci := 1) (v := .int 0) (ty := tyX1 4) (C := RX1) (T := TX1) (N := 5) hx hb hts inX1 tyX1 tyX1_ok nmX1 hown hK hP hD hS 0 rfl rfl 4 (by decide) (hts _ pq228) (fun _ h9 => h9) rfl (by decide +kernel) rfl rfl (Nat.le_of_ble_eq_true rfl) dX1_become_21 (fun H locs hP hD hS => ?_)
  have hP : va_P (dC, dI) vwCl [(h0, .inr (1, [.ref am, .ref ab, .int 0, .int 0, .int 0])), (p0, .inr (1, [.ref am2, .ref ab2, .int 0, .int 0, .int 0]))] H := hP
  have hD : va_D A [(h0, .inr (1, [.ref am, .ref ab, .int 0, .int 0, .int 0])), (p0, .inr (1, [.ref am2, .ref ab2, .int 0, .int 0, .int 0]))] := hD
  refine lv_iconst (v := 0) hx hb dX1_become_24 (by decide +kernel) ?_
  refine lv_istore_n (lv' := [(2, .int 0), (0, .ref h0), (1, .ref p0)]) hx hb dX1_become_25 rfl hl (by decide) rfl (fun ls hl => ?_)
  refine lv_iload_n hx hb dX1_become_26 rfl (lv_at hl 0 rfl) ?_
  refine lv_aload_n hx hb dX1_become_27 rfl (lv_at hl 1 rfl) ?_
  refine va_get (D := (dC, dI)) (ci := 1) (v := .int 0) (C := RX1) (T := TX1) (N := 5) hx hb hts inX1 hown hK hP 0 rfl rfl 2 (by decide) (hts _ pq221) (fun _ h9 => h9) rfl dX1_become_28 ?_
  refine lv_icmp_ge (tgt := 55) hx hb dX1_become_31 (by decide) (fun c1 => ?_) (fun c1 => absurd (by decide +kernel) c1)
  refine lv_iconst (v := 0) hx hb dX1_become_55 (by decide +kernel) ?_
  refine lv_istore_n (lv' := [(2, .int 0), (0, .ref h0), (1, .ref p0)]) hx hb dX1_become_56 rfl hl (by decide) rfl (fun ls hl => ?_)
  refine lv_iload_n hx hb dX1_become_57 rfl (lv_at hl 0 rfl) ?_
  refine lv_aload_n hx hb dX1_become_58 rfl (lv_at hl 1 rfl) ?_
  refine va_get (D := (dC, dI)) (ci := 1) (v := .int 0) (C := RX1) (T := TX1) (N := 5) hx hb hts inX1 hown hK hP 0 rfl rfl 3 (by decide) (hts _ pq224) (fun _ h9 => h9) rfl dX1_become_59 ?_
  refine lv_icmp_ge (tgt := 86) hx hb dX1_become_62 (by decide) (fun c2 => ?_) (fun c2 => absurd (by decide +kernel) c2)
  have hP9 := hP.sub (ws' := [(h0, .inr (1, [.ref am, .ref ab, .int 0, .int 0, .int 0])), (p0, .inr (1, [.ref am2, .ref ab2, .int 0, .int 0, .int 0]))]) [0, 1] rfl
  have hD9 := hD.sub (ws' := [(h0, .inr (1, [.ref am, .ref ab, .int 0, .int 0, .int 0])), (p0, .inr (1, [.ref am2, .ref ab2, .int 0, .int 0, .int 0]))]) [0, 1] (by decide) rfl
  have hK9 := hK.sub (tys' := []) [] rfl
  exact W.vret hx hb hr (fun t ht hW => ⟨⟨(), rfl, trivial, ⟨by rw [ht]; exact hP9, va_K.moved hW.alike hK9, hD9⟩⟩, hS.F ht⟩) hS.2.2 dX1_become_86

set_option maxHeartbeats 4000000 in
set_option maxRecDepth 100000 in
theorem c_X5_redraw (l : Launch) (dC : Nat → ClassId) (dI : Nat → Nat → Nat) (h0 nw ss nm nb : Nat) (sz : Nat) : Met l yX5_redraw (.code yX5_redraw cX5_redraw 3 none :: pw) ({ frames := 0, cells := 0, slots := 0, locals := 0 }) (pc (dC, dI) [.ref h0] sz [(h0, .inr (5, [.ref nw, .ref ss, .int 0, .int (-1), .int 0, .int 0, .int 0, .int 0, .int 0])), (nw, .inr (1, [.ref nm, .ref nb, .int 0, .int 0, .int 0]))] []) (va_Qv (fun (_ : Unit) => True) (fun _ _ => True) (fun _ => False)) 0 0 (fun _ => False) := by
  refine Met.ofW (cc := cX5_redraw) (maxL := 3) (ret := none) (by decide +kernel) rfl ?_
  intro p e s m args below meth c s₁ B hml hv
  obtain ⟨rfl, hsz, hP, hK, hD0, hN⟩ := hv
  have hx := B.exec
  have hb := B.bytes
  have hr := B.returns
  have hts := fun w (h : w ∈ pw) => atoms_spec (ws := Cond.code yX5_redraw cX5_redraw 3 none :: pw) B.pre w (List.mem_cons_of_mem _ h)
  have hown : s.vm.findClass RX5 = some m.cls := findClass_of_methodNamed B.named
  have hlocks := B.notSynchronized
  subst hsz
  have hD := hD0
  obtain ⟨H, hHe⟩ : ∃ H : Heap, H = s.heap := ⟨_, rfl⟩
  have hS : va_S (fun _ => False) s.heap H [] := by rw [hHe]; exact va_S.rf
  rw [← hHe] at hP
  have hl := lv_entry ([.ref h0]) (n := 3) (Nat.le_of_ble_eq_true rfl)
  rw [lg_entry_eq]
  generalize (lg_sl ([.ref h0]) ++ List.replicate (3 - (lg_sl ([.ref h0])).length) Slot.unset).toArray = ls at hl ⊢
  have hl : lv_has ls 3 [(0, .ref h0)] := hl
  rw [← hHe]
  refine lv_iconst (v := 0) hx hb dX5_redraw_0 (by decide +kernel) ?_
  refine lv_istore_n (lv' := [(1, .int 0), (0, .ref h0)]) hx hb dX5_redraw_1 rfl hl (by decide) rfl (fun ls hl => ?_)
  refine lv_iload_n hx hb dX5_redraw_2 rfl (lv_at hl 0 rfl) ?_
  refine lv_aload_n hx hb dX5_redraw_3 rfl (lv_at hl 1 rfl) ?_
  refine va_get (D := (dC, dI)) (ci := 5) (v := .ref nw) (C := RX5) (T := TX5) (N := 9) hx hb hts inX5 hown hK hP 0 rfl rfl 0 (by decide) (hts _ pq274) (fun _ h9 => h9) rfl dX5_redraw_4 ?_
  refine va_get (D := (dC, dI)) (ci := 1) (v := .int 0) (C := RX1) (T := TX1) (N := 5) hx hb hts inX1 hown hK hP 1 rfl rfl 3 (by decide) (hts _ pq225) (fun _ h9 => h9) rfl dX5_redraw_7 ?_
  refine lv_icmp_ge (tgt := 54) hx hb dX5_redraw_10 (by decide) (fun c1 => ?_) (fun c1 => absurd (by decide +kernel) c1)
  exact W.vret hx hb hr (fun t ht hW => ⟨⟨(), rfl, trivial, trivial⟩, hS.F ht⟩) hS.2.2 dX5_redraw_54

set_option maxHeartbeats 4000000 in
set_option maxRecDepth 100000 in
theorem c_X4_skipBlanks (l : Launch) (dC : Nat → ClassId) (dI : Nat → Nat → Nat) (h0 tp : Nat) (sz : Nat) : Met l yX4_skipBlanks (.code yX4_skipBlanks cX4_skipBlanks 1 none :: pw) ({ frames := 0, cells := 0, slots := 0, locals := 0 }) (pc (dC, dI) [.ref h0] sz [(h0, .inr (4, [.ref tp, .int 0, .int 0, .int 0, .int 0, .int 0]))] []) (va_Qv (fun (_ : Unit) => True) (fun _ _ => True) (fun _ => False)) 0 0 (fun _ => False) := by
  refine Met.ofW (cc := cX4_skipBlanks) (maxL := 1) (ret := none) (by decide +kernel) rfl ?_
  intro p e s m args below meth c s₁ B hml hv
  obtain ⟨rfl, hsz, hP, hK, hD0, hN⟩ := hv
  have hx := B.exec
  have hb := B.bytes
  have hr := B.returns
  have hts := fun w (h : w ∈ pw) => atoms_spec (ws := Cond.code yX4_skipBlanks cX4_skipBlanks 1 none :: pw) B.pre w (List.mem_cons_of_mem _ h)
  have hown : s.vm.findClass RX4 = some m.cls := findClass_of_methodNamed B.named
  have hlocks := B.notSynchronized
  subst hsz
  have hD := hD0
  obtain ⟨H, hHe⟩ : ∃ H : Heap, H = s.heap := ⟨_, rfl⟩
  have hS : va_S (fun _ => False) s.heap H [] := by rw [hHe]; exact va_S.rf
  rw [← hHe] at hP
  have hl := lv_entry ([.ref h0]) (n := 1) (Nat.le_of_ble_eq_true rfl)
  rw [lg_entry_eq]
  generalize (lg_sl ([.ref h0]) ++ List.replicate (1 - (lg_sl ([.ref h0])).length) Slot.unset).toArray = ls at hl ⊢
  have hl : lv_has ls 1 [(0, .ref h0)] := hl
  rw [← hHe]
  refine lv_aload_n hx hb dX4_skipBlanks_0 rfl (lv_at hl 0 rfl) ?_
  refine va_get (D := (dC, dI)) (ci := 4) (v := .int 0) (C := RX4) (T := TX4) (N := 6) hx hb hts inX4 hown hK hP 0 rfl rfl 2 (by decide) (hts _ pq249) (fun _ h9 => h9) rfl dX4_skipBlanks_1 ?_
  refine lv_aload_n hx hb dX4_skipBlanks_4 rfl (lv_at hl 0 rfl) ?_
  refine va_get (D := (dC, dI)) (ci := 4) (v := .int 0) (C := RX4) (T := TX4) (N := 6) hx hb hts inX4 hown hK hP 0 rfl rfl 1 (by decide) (hts _ pq248) (fun _ h9 => h9) rfl dX4_skipBlanks_5 ?_
  refine lv_icmp_ge (tgt := 38) hx hb dX4_skipBlanks_8 (by decide) (fun c1 => ?_) (fun c1 => absurd (by decide +kernel) c1)
  exact W.vret hx hb hr (fun t ht hW => ⟨⟨(), rfl, trivial, trivial⟩, hS.F ht⟩) hS.2.2 dX4_skipBlanks_38

set_option maxHeartbeats 4000000 in
set_option maxRecDepth 100000 in
theorem c_X4_isAtEnd (l : Launch) (dC : Nat → ClassId) (dI : Nat → Nat → Nat) (h0 tp : Nat) (sz : Nat) : Met l yX4_isAtEnd (.code yX4_isAtEnd cX4_isAtEnd 1 (some .boolean) :: pw) ({ frames := 1, cells := 0, slots := 0, locals := 20 }) (pc (dC, dI) [.ref h0] sz [(h0, .inr (4, [.ref tp, .int 0, .int 0, .int 0, .int 0, .int 0]))] []) (va_Qi (fun (r : Int32) (_ : Unit) => r = 1) (fun _ _ => True) (fun _ => False)) 0 0 (fun _ => False) := by
  refine Met.ofW (cc := cX4_isAtEnd) (maxL := 1) (ret := (some .boolean)) (by decide +kernel) rfl ?_
  intro p e s m args below meth c s₁ B hml hv
  obtain ⟨rfl, hsz, hP, hK, hD0, hN⟩ := hv
  have hx := B.exec
  have hb := B.bytes
  have hr := B.returns
  have hts := fun w (h : w ∈ pw) => atoms_spec (ws := Cond.code yX4_isAtEnd cX4_isAtEnd 1 (some .boolean) :: pw) B.pre w (List.mem_cons_of_mem _ h)
  have hown : s.vm.findClass RX4 = some m.cls := findClass_of_methodNamed B.named
  have hlocks := B.notSynchronized
  subst hsz
  have hD := hD0
  obtain ⟨H, hHe⟩ : ∃ H : Heap, H = s.heap := ⟨_, rfl⟩
  have hS : va_S (fun _ => False) s.heap H [] := by rw [hHe]; exact va_S.rf
  rw [← hHe] at hP
  have hl := lv_entry ([.ref h0]) (n := 1) (Nat.le_of_ble_eq_true rfl)
  rw [lg_entry_eq]
  generalize (lg_sl ([.ref h0]) ++ List.replicate (1 - (lg_sl ([.ref h0])).length) Slot.unset).toArray = ls at hl ⊢
  have hl : lv_has ls 1 [(0, .ref h0)] := hl
  rw [← hHe]
  refine lv_aload_n hx hb dX4_isAtEnd_0 rfl (lv_at hl 0 rfl) ?_
  have hPc := hP.sub (ws' := [(h0, .inr (4, [.ref tp, .int 0, .int 0, .int 0, .int 0, .int 0]))]) [0] rfl
  have hDc := hD.sub (ws' := [(h0, .inr (4, [.ref tp, .int 0, .int 0, .int 0, .int 0, .int 0]))]) [0] (by decide) rfl
  have hKc := hK.sub (tys' := []) [] rfl
  refine ro_v (va_runV (As := []) (rest := []) ⟨hx, hb, hml, hown, hts⟩ (c_X4_skipBlanks l dC dI h0 tp H.size  ) (cwV 0 hts (gV pq417 pq418 pq419 pq78 pq420) rfl rfl rfl (by decide +kernel) ⟨(Nat.le_of_ble_eq_true rfl), (Nat.le_of_ble_eq_true rfl)⟩) (pc_V hPc hDc hKc hN (va_recv hK hP (ci := 4) (q0 := 0) rfl rfl)) rfl rfl hl.1 rfl (lv_room (Nat.le_of_ble_eq_true rfl)) dX4_isAtEnd_1 ⟨(Nat.le_of_ble_eq_true rfl), (Nat.le_of_ble_eq_true rfl)⟩) hS hP (fun H locs hP hS => ?_)
  refine lv_aload_n hx hb dX4_isAtEnd_4 rfl (lv_at hl 0 rfl) ?_
  refine va_get (D := (dC, dI)) (ci := 4) (v := .int 0) (C := RX4) (T := TX4) (N := 6) hx hb hts inX4 hown hK hP 0 rfl rfl 2 (by decide) (hts _ pq249) (fun _ h9 => h9) rfl dX4_isAtEnd_5 ?_
  refine lv_aload_n hx hb dX4_isAtEnd_8 rfl (lv_at hl 0 rfl) ?_
  refine va_get (D := (dC, dI)) (ci := 4) (v := .int 0) (C := RX4) (T := TX4) (N := 6) hx hb hts inX4 hown hK hP 0 rfl rfl 1 (by decide) (hts _ pq248) (fun _ h9 => h9) rfl dX4_isAtEnd_9 ?_
  refine lv_icmp_lt (tgt := 19) hx hb dX4_isAtEnd_12 (by decide) (fun c1 => absurd c1 (by decide +kernel)) (fun c1 => ?_)
  refine lv_iconst (v := 1) hx hb dX4_isAtEnd_15 (by decide +kernel) ?_
  refine lv_goto (tgt := 20) hx hb dX4_isAtEnd_16 (by decide) ?_
  exact W.zret (v := 1) hx hb hr (by decide +kernel) (fun t ht hW => ⟨⟨1, (), rfl, rfl, trivial⟩, hS.F ht⟩) hS.2.2 dX4_isAtEnd_20

set_option maxHeartbeats 4000000 in
set_option maxRecDepth 100000 in
theorem c_X4_readField (l : Launch) (dC : Nat → ClassId) (dI : Nat → Nat → Nat) (h0 tp p1 am ab : Nat) (kB : ClassId) (sz : Nat) : Met l yX4_readField (.code yX4_readField cX4_readField 5 (some .int) :: pw) ({ frames := 2, cells := 0, slots := 0, locals := 40 }) (pc (dC, dI) [.ref h0, .int 0, .ref p1] sz [(h0, .inr (4, [.ref tp, .int 0, .int 0, .int 0, .int 0, .int 0])), (tp, .inl (kB, 400, .inl (fun _ => 0))), (p1, .inr (1, [.ref am, .ref ab, .int 0, .int 0, .int 0]))] [(kB, .byte)]) (va_Qi (fun (r : Int32) (_ : Unit) => r = 0) (fun _ t => wB (dC, dI) [(h0, .inr (4, [.ref tp, .int 0, .int 0, .int 0, .int 0, .int 0])), (p1, .inr (1, [.ref am, .ref ab, .int 0, .int 0, .int 0]))] [] (va_A [(h0, .inr (4, [.ref tp, .int 0, .int 0, .int 0, .int 0, .int 0])), (tp, .inl (kB, 400, .inl (fun _ => 0))), (p1, .inr (1, [.ref am, .ref ab, .int 0, .int 0, .int 0]))] sz) t) (va_A [(h0, .inr (4, [.ref tp, .int 0, .int 0, .int 0, .int 0, .int 0])), (tp, .inl (kB, 400, .inl (fun _ => 0))), (p1, .inr (1, [.ref am, .ref ab, .int 0, .int 0, .int 0]))] sz)) 0 0 (va_A [(h0, .inr (4, [.ref tp, .int 0, .int 0, .int 0, .int 0, .int 0])), (tp, .inl (kB, 400, .inl (fun _ => 0))), (p1, .inr (1, [.ref am, .ref ab, .int 0, .int 0, .int 0]))] sz) := by
  refine Met.ofW (cc := cX4_readField) (maxL := 5) (ret := (some .int)) (by decide +kernel) rfl ?_
  intro p e s m args below meth c s₁ B hml hv
  obtain ⟨rfl, hsz, hP, hK, hD0, hN⟩ := hv
  have hx := B.exec
  have hb := B.bytes
  have hr := B.returns
  have hts := fun w (h : w ∈ pw) => atoms_spec (ws := Cond.code yX4_readField cX4_readField 5 (some .int) :: pw) B.pre w (List.mem_cons_of_mem _ h)
  have hown : s.vm.findClass RX4 = some m.cls := findClass_of_methodNamed B.named
  have hlocks := B.notSynchronized
  subst hsz
  have hD := hD0.self (sz := s.heap.size)
  generalize hAe : va_A [(h0, .inr (4, [.ref tp, .int 0, .int 0, .int 0, .int 0, .int 0])), (tp, .inl (kB, 400, .inl (fun _ => 0))), (p1, .inr (1, [.ref am, .ref ab, .int 0, .int 0, .int 0]))] s.heap.size = A at hD ⊢
  have hA : ∀ q : Nat, s.heap.size ≤ q → A q := fun q h => by rw [← hAe]; exact Or.inr h
  obtain ⟨H, hHe⟩ : ∃ H : Heap, H = s.heap := ⟨_, rfl⟩
  have hS : va_S A s.heap H [] := by rw [hHe]; exact va_S.rf
  rw [← hHe] at hP
  have hl := lv_entry ([.ref h0, .int 0, .ref p1]) (n := 5) (Nat.le_of_ble_eq_true rfl)
  rw [lg_entry_eq]
  generalize (lg_sl ([.ref h0, .int 0, .ref p1]) ++ List.replicate (5 - (lg_sl ([.ref h0, .int 0, .ref p1])).length) Slot.unset).toArray = ls at hl ⊢
  have hl : lv_has ls 5 [(0, .ref h0), (1, .int 0), (2, .ref p1)] := hl
  rw [← hHe]
  refine lv_aload_n hx hb dX4_readField_0 rfl (lv_at hl 0 rfl) ?_
  refine lv_iload_n hx hb dX4_readField_1 rfl (lv_at hl 1 rfl) ?_
  refine lv_aload_n hx hb dX4_readField_2 rfl (lv_at hl 0 rfl) ?_
  refine va_get (D := (dC, dI)) (ci := 4) (v := .ref tp) (C := RX4) (T := TX4) (N := 6) hx hb hts inX4 hown hK hP 0 rfl rfl 0 (by decide) (hts _ pq247) (fun _ h9 => h9) rfl dX4_readField_3 ?_
  refine va_alen (v := 400) hx hb hK hP 1 0 rfl rfl (by decide +kernel) dX4_readField_6 ?_
  refine va_mmin hx hb (hml.trans hl.1.symm) hown (hts _ pq406) (hts _ pq407) (hts _ pq82) (hts _ pq408) (Nat.le_of_ble_eq_true rfl) (Nat.le_of_ble_eq_true rfl) (Nat.le_of_ble_eq_true rfl) (Nat.le_of_ble_eq_true rfl) dX4_readField_7 ?_
  refine lv_topi (fun z1 ez1 => ?_)
  obtain rfl : z1 = 0 := ez1.trans (by decide +kernel)
  refine va_put (D := (dC, dI)) (ci := 4) (v := .int 0) (ty := tyX4 1) (C := RX4) (T := TX4) (N := 6) hx hb hts inX4 tyX4 tyX4_ok nmX4 hown hK hP hD hS 0 rfl rfl 1 (by decide) (hts _ pq248) (fun _ h9 => h9) rfl (by decide +kernel) rfl rfl (Nat.le_of_ble_eq_true rfl) dX4_readField_10 (fun H locs hP hD hS => ?_)
  have hP : va_P (dC, dI) vwCl [(h0, .inr (4, [.ref tp, .int 0, .int 0, .int 0, .int 0, .int 0])), (tp, .inl (kB, 400, .inl (fun _ => 0))), (p1, .inr (1, [.ref am, .ref ab, .int 0, .int 0, .int 0]))] H := hP
  have hD : va_D A [(h0, .inr (4, [.ref tp, .int 0, .int 0, .int 0, .int 0, .int 0])), (tp, .inl (kB, 400, .inl (fun _ => 0))), (p1, .inr (1, [.ref am, .ref ab, .int 0, .int 0, .int 0]))] := hD
  refine lv_aload_n hx hb dX4_readField_13 rfl (lv_at hl 0 rfl) ?_
  refine lv_iconst (v := 0) hx hb dX4_readField_14 (by decide +kernel) ?_
  refine va_put (D := (dC, dI)) (ci := 4) (v := .int 0) (ty := tyX4 2) (C := RX4) (T := TX4) (N := 6) hx hb hts inX4 tyX4 tyX4_ok nmX4 hown hK hP hD hS 0 rfl rfl 2 (by decide) (hts _ pq249) (fun _ h9 => h9) rfl (by decide +kernel) rfl rfl (Nat.le_of_ble_eq_true rfl) dX4_readField_15 (fun H locs hP hD hS => ?_)
  have hP : va_P (dC, dI) vwCl [(h0, .inr (4, [.ref tp, .int 0, .int 0, .int 0, .int 0, .int 0])), (tp, .inl (kB, 400, .inl (fun _ => 0))), (p1, .inr (1, [.ref am, .ref ab, .int 0, .int 0, .int 0]))] H := hP
  have hD : va_D A [(h0, .inr (4, [.ref tp, .int 0, .int 0, .int 0, .int 0, .int 0])), (tp, .inl (kB, 400, .inl (fun _ => 0))), (p1, .inr (1, [.ref am, .ref ab, .int 0, .int 0, .int 0]))] := hD
  refine lv_aload_n hx hb dX4_readField_18 rfl (lv_at hl 0 rfl) ?_
  refine lv_iconst (v := 0) hx hb dX4_readField_19 (by decide +kernel) ?_
  refine va_put (D := (dC, dI)) (ci := 4) (v := .int 0) (ty := tyX4 5) (C := RX4) (T := TX4) (N := 6) hx hb hts inX4 tyX4 tyX4_ok nmX4 hown hK hP hD hS 0 rfl rfl 5 (by decide) (hts _ pq252) (fun _ h9 => h9) rfl (by decide +kernel) rfl rfl (Nat.le_of_ble_eq_true rfl) dX4_readField_20 (fun H locs hP hD hS => ?_)
  have hP : va_P (dC, dI) vwCl [(h0, .inr (4, [.ref tp, .int 0, .int 0, .int 0, .int 0, .int 0])), (tp, .inl (kB, 400, .inl (fun _ => 0))), (p1, .inr (1, [.ref am, .ref ab, .int 0, .int 0, .int 0]))] H := hP
  have hD : va_D A [(h0, .inr (4, [.ref tp, .int 0, .int 0, .int 0, .int 0, .int 0])), (tp, .inl (kB, 400, .inl (fun _ => 0))), (p1, .inr (1, [.ref am, .ref ab, .int 0, .int 0, .int 0]))] := hD
  refine lv_aload_n hx hb dX4_readField_23 rfl (lv_at hl 2 rfl) ?_
  have hPc := hP.sub (ws' := [(p1, .inr (1, [.ref am, .ref ab, .int 0, .int 0, .int 0]))]) [2] rfl
  have hDc := hD.sub (ws' := [(p1, .inr (1, [.ref am, .ref ab, .int 0, .int 0, .int 0]))]) [2] (by decide) rfl
  have hKc := hK.sub (tys' := []) [] rfl
  have hFc := va_free (wc := [(p1, .inr (1, [.ref am, .ref ab, .int 0, .int 0, .int 0]))]) hD hS hA [2] rfl
  refine va_callv (va_runV (As := []) (rest := []) ⟨hx, hb, hml, hown, hts⟩ (c_X1_clear l dC dI p1 am ab H.size  ) (cwV 0 hts (gV pq409 pq410 pq411 pq75 pq412) rfl rfl rfl (by decide +kernel) ⟨(Nat.le_of_ble_eq_true rfl), (Nat.le_of_ble_eq_true rfl)⟩) (pc_V hPc hDc hKc hN (va_recv hK hP (ci := 1) (q0 := 2) rfl rfl)) rfl rfl hl.1 rfl (lv_room (Nat.le_of_ble_eq_true rfl)) dX4_readField_24 ⟨(Nat.le_of_ble_eq_true rfl), (Nat.le_of_ble_eq_true rfl)⟩) hS (fun q _ h => hFc q h) hFc (fun u t H1 locs ht hvm hw hB hz1 hk1 hS => ?_)
  obtain ⟨hP1, hK1, hD1⟩ := hB
  rw [ht] at hP1
  have hK1 := va_K.moved hvm.symm hK1
  obtain ⟨hP, hD⟩ := va_join (wr := [(h0, .inr (4, [.ref tp, .int 0, .int 0, .int 0, .int 0, .int 0])), (tp, .inl (kB, 400, .inl (fun _ => 0)))]) (w1 := [(p1, .inr (1, [.ref am, .ref ab, .int 0, .int 0, .int 0]))]) hP hD [2] [0, 1] rfl rfl (by decide) (by decide) hk1 hFc hP1 hD1
  generalize H1 = H at hP hS ⊢
  have hP : va_P (dC, dI) vwCl [(h0, .inr (4, [.ref tp, .int 0, .int 0, .int 0, .int 0, .int 0])), (tp, .inl (kB, 400, .inl (fun _ => 0))), (p1, .inr (1, [.ref am, .ref ab, .int 0, .int 0, .int 0]))] H := hP
  have hD : va_D A [(h0, .inr (4, [.ref tp, .int 0, .int 0, .int 0, .int 0, .int 0])), (tp, .inl (kB, 400, .inl (fun _ => 0))), (p1, .inr (1, [.ref am, .ref ab, .int 0, .int 0, .int 0]))] := hD
  refine lv_aload_n hx hb dX4_readField_27 rfl (lv_at hl 0 rfl) ?_
  have hPc := hP.sub (ws' := [(h0, .inr (4, [.ref tp, .int 0, .int 0, .int 0, .int 0, .int 0]))]) [0] rfl
  have hDc := hD.sub (ws' := [(h0, .inr (4, [.ref tp, .int 0, .int 0, .int 0, .int 0, .int 0]))]) [0] (by decide) rfl
  have hKc := hK.sub (tys' := []) [] rfl
  refine ro_i (va_runV (As := []) (rest := []) ⟨hx, hb, hml, hown, hts⟩ (c_X4_isAtEnd l dC dI h0 tp H.size  ) (cwV 0 hts (gV pq413 pq414 pq415 pq78 pq416) rfl rfl rfl (by decide +kernel) ⟨(Nat.le_of_ble_eq_true rfl), (Nat.le_of_ble_eq_true rfl)⟩) (pc_V hPc hDc hKc hN (va_recv hK hP (ci := 4) (q0 := 0) rfl rfl)) rfl rfl hl.1 rfl (lv_room (Nat.le_of_ble_eq_true rfl)) dX4_readField_28 ⟨(Nat.le_of_ble_eq_true rfl), (Nat.le_of_ble_eq_true rfl)⟩) hS hP (fun r2 H locs hr2 hP hS => ?_)
  subst hr2
  refine lv_if_eq (tgt := 39) hx hb dX4_readField_31 (by decide) (fun c3 => absurd c3 (by decide +kernel)) (fun c3 => ?_)
  refine lv_aload_n hx hb dX4_readField_34 rfl (lv_at hl 0 rfl) ?_
  refine va_get (D := (dC, dI)) (ci := 4) (v := .int 0) (C := RX4) (T := TX4) (N := 6) hx hb hts inX4 hown hK hP 0 rfl rfl 5 (by decide) (hts _ pq252) (fun _ h9 => h9) rfl dX4_readField_35 ?_
  have hP9 := hP.sub (ws' := [(h0, .inr (4, [.ref tp, .int 0, .int 0, .int 0, .int 0, .int 0])), (p1, .inr (1, [.ref am, .ref ab, .int 0, .int 0, .int 0]))]) [0, 2] rfl
  have hD9 := hD.sub (ws' := [(h0, .inr (4, [.ref tp, .int 0, .int 0, .int 0, .int 0, .int 0])), (p1, .inr (1, [.ref am, .ref ab, .int 0, .int 0, .int 0]))]) [0, 2] (by decide) rfl
  have hK9 := hK.sub (tys' := []) [] rfl
  exact W.iret (v := 0) hx hb hr (fun t ht hW => ⟨⟨0, (), rfl, rfl, ⟨by rw [ht]; exact hP9, va_K.moved hW.alike hK9, hD9⟩⟩, hS.F ht⟩) hS.2.2 dX4_readField_38

set_option maxHeartbeats 4000000 in
set_option maxRecDepth 100000 in
theorem c_X6_replaceBy (l : Launch) (dC : Nat → ClassId) (dI : Nat → Nat → Nat) (h0 tp nw dr rd sc sk fl ps sh nm nb p0 dm db ss : Nat) (sz : Nat) : Met l yX6_replaceBy (.code yX6_replaceBy cX6_replaceBy 2 none :: pw) ({ frames := 1, cells := 0, slots := 0, locals := 22 }) (pc (dC, dI) [.ref h0, .ref p0] sz [(h0, .inr (6, [.ref tp, .int 0, .ref nw, .ref dr, .ref rd, .ref sc, .ref sk, .ref fl, .ref ps, .int 0, .int 0, .ref sh])), (nw, .inr (1, [.ref nm, .ref nb, .int 0, .int 0, .int 0])), (p0, .inr (1, [.ref dm, .ref db, .int 0, .int 0, .int 0])), (sc, .inr (5, [.ref nw, .ref ss, .int 0, .int (-1), .int 0, .int 0, .int 0, .int 0, .int 0]))] []) (va_Qv (fun (_ : Unit) => True) (fun _ t => wB (dC, dI) [(h0, .inr (6, [.ref tp, .int 0, .ref nw, .ref dr, .ref rd, .ref sc, .ref sk, .ref fl, .ref ps, .int 0, .int 0, .ref sh])), (nw, .inr (1, [.ref nm, .ref nb, .int 0, .int 0, .int 0]))] [] (va_A [(h0, .inr (6, [.ref tp, .int 0, .ref nw, .ref dr, .ref rd, .ref sc, .ref sk, .ref fl, .ref ps, .int 0, .int 0, .ref sh])), (nw, .inr (1, [.ref nm, .ref nb, .int 0, .int 0, .int 0])), (p0, .inr (1, [.ref dm, .ref db, .int 0, .int 0, .int 0])), (sc, .inr (5, [.ref nw, .ref ss, .int 0, .int (-1), .int 0, .int 0, .int 0, .int 0, .int 0]))] sz) t) (va_A [(h0, .inr (6, [.ref tp, .int 0, .ref nw, .ref dr, .ref rd, .ref sc, .ref sk, .ref fl, .ref ps, .int 0, .int 0, .ref sh])), (nw, .inr (1, [.ref nm, .ref nb, .int 0, .int 0, .int 0])), (p0, .inr (1, [.ref dm, .ref db, .int 0, .int 0, .int 0])), (sc, .inr (5, [.ref nw, .ref ss, .int 0, .int (-1), .int 0, .int 0, .int 0, .int 0, .int 0]))] sz)) 0 0 (va_A [(h0, .inr (6, [.ref tp, .int 0, .ref nw, .ref dr, .ref rd, .ref sc, .ref sk, .ref fl, .ref ps, .int 0, .int 0, .ref sh])), (nw, .inr (1, [.ref nm, .ref nb, .int 0, .int 0, .int 0])), (p0, .inr (1, [.ref dm, .ref db, .int 0, .int 0, .int 0])), (sc, .inr (5, [.ref nw, .ref ss, .int 0, .int (-1), .int 0, .int 0, .int 0, .int 0, .int 0]))] sz) := by
  refine Met.ofW (cc := cX6_replaceBy) (maxL := 2) (ret := none) (by decide +kernel) rfl ?_
  intro p e s m args below meth c s₁ B hml hv
  obtain ⟨rfl, hsz, hP, hK, hD0, hN⟩ := hv
  have hx := B.exec
  have hb := B.bytes
  have hr := B.returns
  have hts := fun w (h : w ∈ pw) => atoms_spec (ws := Cond.code yX6_replaceBy cX6_replaceBy 2 none :: pw) B.pre w (List.mem_cons_of_mem _ h)
  have hown : s.vm.findClass RX6 = some m.cls := findClass_of_methodNamed B.named
  have hlocks := B.notSynchronized
  subst hsz
  have hD := hD0.self (sz := s.heap.size)
  generalize hAe : va_A [(h0, .inr (6, [.ref tp, .int 0, .ref nw, .ref dr, .ref rd, .ref sc, .ref sk, .ref fl, .ref ps, .int 0, .int 0, .ref sh])), (nw, .inr (1, [.ref nm, .ref nb, .int 0, .int 0, .int 0])), (p0, .inr (1, [.ref dm, .ref db, .int 0, .int 0, .int 0])), (sc, .inr (5, [.ref nw, .ref ss, .int 0, .int (-1), .int 0, .int 0, .int 0, .int 0, .int 0]))] s.heap.size = A at hD ⊢
  have hA : ∀ q : Nat, s.heap.size ≤ q → A q := fun q h => by rw [← hAe]; exact Or.inr h
  obtain ⟨H, hHe⟩ : ∃ H : Heap, H = s.heap := ⟨_, rfl⟩
  have hS : va_S A s.heap H [] := by rw [hHe]; exact va_S.rf
  rw [← hHe] at hP
  have hl := lv_entry ([.ref h0, .ref p0]) (n := 2) (Nat.le_of_ble_eq_true rfl)
  rw [lg_entry_eq]
  generalize (lg_sl ([.ref h0, .ref p0]) ++ List.replicate (2 - (lg_sl ([.ref h0, .ref p0])).length) Slot.unset).toArray = ls at hl ⊢
  have hl : lv_has ls 2 [(0, .ref h0), (1, .ref p0)] := hl
  rw [← hHe]
  refine lv_aload_n hx hb dX6_replaceBy_0 rfl (lv_at hl 0 rfl) ?_
  refine va_get (D := (dC, dI)) (ci := 6) (v := .ref nw) (C := RX6) (T := TX6) (N := 12) hx hb hts inX6 hown hK hP 0 rfl rfl 2 (by decide) (hts _ pq351) (fun _ h9 => h9) rfl dX6_replaceBy_1 ?_
  refine lv_aload_n hx hb dX6_replaceBy_4 rfl (lv_at hl 1 rfl) ?_
  have hPc := hP.sub (ws' := [(nw, .inr (1, [.ref nm, .ref nb, .int 0, .int 0, .int 0])), (p0, .inr (1, [.ref dm, .ref db, .int 0, .int 0, .int 0]))]) [1, 2] rfl
  have hDc := hD.sub (ws' := [(nw, .inr (1, [.ref nm, .ref nb, .int 0, .int 0, .int 0])), (p0, .inr (1, [.ref dm, .ref db, .int 0, .int 0, .int 0]))]) [1, 2] (by decide) rfl
  have hKc := hK.sub (tys' := []) [] rfl
  have hFc := va_free (wc := [(nw, .inr (1, [.ref nm, .ref nb, .int 0, .int 0, .int 0])), (p0, .inr (1, [.ref dm, .ref db, .int 0, .int 0, .int 0]))]) hD hS hA [1, 2] rfl
  refine va_callv (va_runV (As := [.ref p0]) (rest := []) ⟨hx, hb, hml, hown, hts⟩ (c_X1_become l dC dI nw nm nb p0 dm db H.size  ) (cwV 1 hts (gV pq589 pq590 pq591 pq75 pq592) rfl rfl rfl (by decide +kernel) ⟨(Nat.le_of_ble_eq_true rfl), (Nat.le_of_ble_eq_true rfl)⟩) (pc_V hPc hDc hKc hN (va_recv hK hP (ci := 1) (q0 := 1) rfl rfl)) rfl rfl hl.1 rfl (lv_room (Nat.le_of_ble_eq_true rfl)) dX6_replaceBy_5 ⟨(Nat.le_of_ble_eq_true rfl), (Nat.le_of_ble_eq_true rfl)⟩) hS (fun q _ h => hFc q h) hFc (fun u t H1 locs ht hvm hw hB hz1 hk1 hS => ?_)
  obtain ⟨hP1, hK1, hD1⟩ := hB
  rw [ht] at hP1
  have hK1 := va_K.moved hvm.symm hK1
  obtain ⟨hP, hD⟩ := va_join (wr := [(h0, .inr (6, [.ref tp, .int 0, .ref nw, .ref dr, .ref rd, .ref sc, .ref sk, .ref fl, .ref ps, .int 0, .int 0, .ref sh])), (sc, .inr (5, [.ref nw, .ref ss, .int 0, .int (-1), .int 0, .int 0, .int 0, .int 0, .int 0]))]) (w1 := [(nw, .inr (1, [.ref nm, .ref nb, .int 0, .int 0, .int 0])), (p0, .inr (1, [.ref dm, .ref db, .int 0, .int 0, .int 0]))]) hP hD [1, 2] [0, 3] rfl rfl (by decide) (by decide) hk1 hFc hP1 hD1
  generalize H1 = H at hP hS ⊢
  have hP : va_P (dC, dI) vwCl [(h0, .inr (6, [.ref tp, .int 0, .ref nw, .ref dr, .ref rd, .ref sc, .ref sk, .ref fl, .ref ps, .int 0, .int 0, .ref sh])), (sc, .inr (5, [.ref nw, .ref ss, .int 0, .int (-1), .int 0, .int 0, .int 0, .int 0, .int 0])), (nw, .inr (1, [.ref nm, .ref nb, .int 0, .int 0, .int 0])), (p0, .inr (1, [.ref dm, .ref db, .int 0, .int 0, .int 0]))] H := hP
  have hD : va_D A [(h0, .inr (6, [.ref tp, .int 0, .ref nw, .ref dr, .ref rd, .ref sc, .ref sk, .ref fl, .ref ps, .int 0, .int 0, .ref sh])), (sc, .inr (5, [.ref nw, .ref ss, .int 0, .int (-1), .int 0, .int 0, .int 0, .int 0, .int 0])), (nw, .inr (1, [.ref nm, .ref nb, .int 0, .int 0, .int 0])), (p0, .inr (1, [.ref dm, .ref db, .int 0, .int 0, .int 0]))] := hD
  refine lv_aload_n hx hb dX6_replaceBy_8 rfl (lv_at hl 0 rfl) ?_
  refine va_get (D := (dC, dI)) (ci := 6) (v := .ref sc) (C := RX6) (T := TX6) (N := 12) hx hb hts inX6 hown hK hP 0 rfl rfl 5 (by decide) (hts _ pq354) (fun _ h9 => h9) rfl dX6_replaceBy_9 ?_
  have hPc := hP.sub (ws' := [(sc, .inr (5, [.ref nw, .ref ss, .int 0, .int (-1), .int 0, .int 0, .int 0, .int 0, .int 0])), (nw, .inr (1, [.ref nm, .ref nb, .int 0, .int 0, .int 0]))]) [1, 2] rfl
  have hDc := hD.sub (ws' := [(sc, .inr (5, [.ref nw, .ref ss, .int 0, .int (-1), .int 0, .int 0, .int 0, .int 0, .int 0])), (nw, .inr (1, [.ref nm, .ref nb, .int 0, .int 0, .int 0]))]) [1, 2] (by decide) rfl
  have hKc := hK.sub (tys' := []) [] rfl
  refine ro_v (va_runV (As := []) (rest := []) ⟨hx, hb, hml, hown, hts⟩ (c_X5_redraw l dC dI sc nw ss nm nb H.size  ) (cwV 0 hts (gV pq604 pq605 pq606 pq79 pq607) rfl rfl rfl (by decide +kernel) ⟨(Nat.le_of_ble_eq_true rfl), (Nat.le_of_ble_eq_true rfl)⟩) (pc_V hPc hDc hKc hN (va_recv hK hP (ci := 5) (q0 := 1) rfl rfl)) rfl rfl hl.1 rfl (lv_room (Nat.le_of_ble_eq_true rfl)) dX6_replaceBy_12 ⟨(Nat.le_of_ble_eq_true rfl), (Nat.le_of_ble_eq_true rfl)⟩) hS hP (fun H locs hP hS => ?_)
  refine lv_aload_n hx hb dX6_replaceBy_15 rfl (lv_at hl 0 rfl) ?_
  refine lv_iconst (v := 0) hx hb dX6_replaceBy_16 (by decide +kernel) ?_
  refine va_put (D := (dC, dI)) (ci := 6) (v := .int 0) (ty := tyX6 10) (C := RX6) (T := TX6) (N := 12) hx hb hts inX6 tyX6 tyX6_ok nmX6 hown hK hP hD hS 0 rfl rfl 10 (by decide) (hts _ pq359) (fun _ h9 => h9) rfl (by decide +kernel) rfl rfl (Nat.le_of_ble_eq_true rfl) dX6_replaceBy_17 (fun H locs hP hD hS => ?_)
  have hP : va_P (dC, dI) vwCl [(h0, .inr (6, [.ref tp, .int 0, .ref nw, .ref dr, .ref rd, .ref sc, .ref sk, .ref fl, .ref ps, .int 0, .int 0, .ref sh])), (sc, .inr (5, [.ref nw, .ref ss, .int 0, .int (-1), .int 0, .int 0, .int 0, .int 0, .int 0])), (nw, .inr (1, [.ref nm, .ref nb, .int 0, .int 0, .int 0])), (p0, .inr (1, [.ref dm, .ref db, .int 0, .int 0, .int 0]))] H := hP
  have hD : va_D A [(h0, .inr (6, [.ref tp, .int 0, .ref nw, .ref dr, .ref rd, .ref sc, .ref sk, .ref fl, .ref ps, .int 0, .int 0, .ref sh])), (sc, .inr (5, [.ref nw, .ref ss, .int 0, .int (-1), .int 0, .int 0, .int 0, .int 0, .int 0])), (nw, .inr (1, [.ref nm, .ref nb, .int 0, .int 0, .int 0])), (p0, .inr (1, [.ref dm, .ref db, .int 0, .int 0, .int 0]))] := hD
  have hP9 := hP.sub (ws' := [(h0, .inr (6, [.ref tp, .int 0, .ref nw, .ref dr, .ref rd, .ref sc, .ref sk, .ref fl, .ref ps, .int 0, .int 0, .ref sh])), (nw, .inr (1, [.ref nm, .ref nb, .int 0, .int 0, .int 0]))]) [0, 2] rfl
  have hD9 := hD.sub (ws' := [(h0, .inr (6, [.ref tp, .int 0, .ref nw, .ref dr, .ref rd, .ref sc, .ref sk, .ref fl, .ref ps, .int 0, .int 0, .ref sh])), (nw, .inr (1, [.ref nm, .ref nb, .int 0, .int 0, .int 0]))]) [0, 2] (by decide) rfl
  have hK9 := hK.sub (tys' := []) [] rfl
  exact W.vret hx hb hr (fun t ht hW => ⟨⟨(), rfl, trivial, ⟨by rw [ht]; exact hP9, va_K.moved hW.alike hK9, hD9⟩⟩, hS.F ht⟩) hS.2.2 dX6_replaceBy_20

set_option maxHeartbeats 4000000 in
set_option maxRecDepth 100000 in
theorem c_X6_tell (l : Launch) (dC : Nat → ClassId) (dI : Nat → Nat → Nat) (h0 tp nw dr rd sc sk fl ps sh nm nb dm db ss : Nat) (kB : ClassId) (sz : Nat) : Met l yX6_tell (.code yX6_tell cX6_tell 2 (some .int) :: pw) ({ frames := 3, cells := 0, slots := 0, locals := 64 }) (pc (dC, dI) [.ref h0] sz [(h0, .inr (6, [.ref tp, .int 0, .ref nw, .ref dr, .ref rd, .ref sc, .ref sk, .ref fl, .ref ps, .int 0, .int 0, .ref sh])), (tp, .inl (kB, 400, .inl (fun _ => 0))), (nw, .inr (1, [.ref nm, .ref nb, .int 0, .int 0, .int 0])), (dr, .inr (1, [.ref dm, .ref db, .int 0, .int 0, .int 0])), (rd, .inr (4, [.ref tp, .int 0, .int 0, .int 0, .int 0, .int 0])), (sc, .inr (5, [.ref nw, .ref ss, .int 0, .int (-1), .int 0, .int 0, .int 0, .int 0, .int 0]))] [(kB, .byte)]) (va_Qi (fun (r : Int32) (_ : Unit) => r = 0) (fun _ _ => True) (va_A [(h0, .inr (6, [.ref tp, .int 0, .ref nw, .ref dr, .ref rd, .ref sc, .ref sk, .ref fl, .ref ps, .int 0, .int 0, .ref sh])), (tp, .inl (kB, 400, .inl (fun _ => 0))), (nw, .inr (1, [.ref nm, .ref nb, .int 0, .int 0, .int 0])), (dr, .inr (1, [.ref dm, .ref db, .int 0, .int 0, .int 0])), (rd, .inr (4, [.ref tp, .int 0, .int 0, .int 0, .int 0, .int 0])), (sc, .inr (5, [.ref nw, .ref ss, .int 0, .int (-1), .int 0, .int 0, .int 0, .int 0, .int 0]))] sz)) 0 0 (va_A [(h0, .inr (6, [.ref tp, .int 0, .ref nw, .ref dr, .ref rd, .ref sc, .ref sk, .ref fl, .ref ps, .int 0, .int 0, .ref sh])), (tp, .inl (kB, 400, .inl (fun _ => 0))), (nw, .inr (1, [.ref nm, .ref nb, .int 0, .int 0, .int 0])), (dr, .inr (1, [.ref dm, .ref db, .int 0, .int 0, .int 0])), (rd, .inr (4, [.ref tp, .int 0, .int 0, .int 0, .int 0, .int 0])), (sc, .inr (5, [.ref nw, .ref ss, .int 0, .int (-1), .int 0, .int 0, .int 0, .int 0, .int 0]))] sz) := by
  refine Met.ofW (cc := cX6_tell) (maxL := 2) (ret := (some .int)) (by decide +kernel) rfl ?_
  intro p e s m args below meth c s₁ B hml hv
  obtain ⟨rfl, hsz, hP, hK, hD0, hN⟩ := hv
  have hx := B.exec
  have hb := B.bytes
  have hr := B.returns
  have hts := fun w (h : w ∈ pw) => atoms_spec (ws := Cond.code yX6_tell cX6_tell 2 (some .int) :: pw) B.pre w (List.mem_cons_of_mem _ h)
  have hown : s.vm.findClass RX6 = some m.cls := findClass_of_methodNamed B.named
  have hlocks := B.notSynchronized
  subst hsz
  have hD := hD0.self (sz := s.heap.size)
  generalize hAe : va_A [(h0, .inr (6, [.ref tp, .int 0, .ref nw, .ref dr, .ref rd, .ref sc, .ref sk, .ref fl, .ref ps, .int 0, .int 0, .ref sh])), (tp, .inl (kB, 400, .inl (fun _ => 0))), (nw, .inr (1, [.ref nm, .ref nb, .int 0, .int 0, .int 0])), (dr, .inr (1, [.ref dm, .ref db, .int 0, .int 0, .int 0])), (rd, .inr (4, [.ref tp, .int 0, .int 0, .int 0, .int 0, .int 0])), (sc, .inr (5, [.ref nw, .ref ss, .int 0, .int (-1), .int 0, .int 0, .int 0, .int 0, .int 0]))] s.heap.size = A at hD ⊢
  have hA : ∀ q : Nat, s.heap.size ≤ q → A q := fun q h => by rw [← hAe]; exact Or.inr h
  obtain ⟨H, hHe⟩ : ∃ H : Heap, H = s.heap := ⟨_, rfl⟩
  have hS : va_S A s.heap H [] := by rw [hHe]; exact va_S.rf
  rw [← hHe] at hP
  have hl := lv_entry ([.ref h0]) (n := 2) (Nat.le_of_ble_eq_true rfl)
  rw [lg_entry_eq]
  generalize (lg_sl ([.ref h0]) ++ List.replicate (2 - (lg_sl ([.ref h0])).length) Slot.unset).toArray = ls at hl ⊢
  have hl : lv_has ls 2 [(0, .ref h0)] := hl
  rw [← hHe]
  refine lv_aload_n hx hb dX6_tell_0 rfl (lv_at hl 0 rfl) ?_
  refine va_get (D := (dC, dI)) (ci := 6) (v := .ref rd) (C := RX6) (T := TX6) (N := 12) hx hb hts inX6 hown hK hP 0 rfl rfl 4 (by decide) (hts _ pq353) (fun _ h9 => h9) rfl dX6_tell_1 ?_
  refine lv_aload_n hx hb dX6_tell_4 rfl (lv_at hl 0 rfl) ?_
  refine va_get (D := (dC, dI)) (ci := 6) (v := .int 0) (C := RX6) (T := TX6) (N := 12) hx hb hts inX6 hown hK hP 0 rfl rfl 1 (by decide) (hts _ pq350) (fun _ h9 => h9) rfl dX6_tell_5 ?_
  refine lv_aload_n hx hb dX6_tell_8 rfl (lv_at hl 0 rfl) ?_
  refine va_get (D := (dC, dI)) (ci := 6) (v := .ref dr) (C := RX6) (T := TX6) (N := 12) hx hb hts inX6 hown hK hP 0 rfl rfl 3 (by decide) (hts _ pq352) (fun _ h9 => h9) rfl dX6_tell_9 ?_
  have hPc := hP.sub (ws' := [(rd, .inr (4, [.ref tp, .int 0, .int 0, .int 0, .int 0, .int 0])), (tp, .inl (kB, 400, .inl (fun _ => 0))), (dr, .inr (1, [.ref dm, .ref db, .int 0, .int 0, .int 0]))]) [4, 1, 3] rfl
  have hDc := hD.sub (ws' := [(rd, .inr (4, [.ref tp, .int 0, .int 0, .int 0, .int 0, .int 0])), (tp, .inl (kB, 400, .inl (fun _ => 0))), (dr, .inr (1, [.ref dm, .ref db, .int 0, .int 0, .int 0]))]) [4, 1, 3] (by decide) rfl
  have hKc := hK.sub (tys' := [(kB, .byte)]) [0] rfl
  have hFc := va_free (wc := [(rd, .inr (4, [.ref tp, .int 0, .int 0, .int 0, .int 0, .int 0])), (tp, .inl (kB, 400, .inl (fun _ => 0))), (dr, .inr (1, [.ref dm, .ref db, .int 0, .int 0, .int 0]))]) hD hS hA [4, 1, 3] rfl
  refine va_calli (va_runV (As := [.int 0, .ref dr]) (rest := []) ⟨hx, hb, hml, hown, hts⟩ (c_X4_readField l dC dI rd tp dr dm db kB H.size  ) (cwV 2 hts (gV pq402 pq403 pq404 pq78 pq405) rfl rfl rfl (by decide +kernel) ⟨(Nat.le_of_ble_eq_true rfl), (Nat.le_of_ble_eq_true rfl)⟩) (pc_V hPc hDc hKc hN (va_recv hK hP (ci := 4) (q0 := 4) rfl rfl)) rfl rfl hl.1 rfl (lv_room (Nat.le_of_ble_eq_true rfl)) dX6_tell_12 ⟨(Nat.le_of_ble_eq_true rfl), (Nat.le_of_ble_eq_true rfl)⟩) hS (fun q _ h => hFc q h) hFc (fun r1 u t H1 locs ht hvm hr1 hB hz1 hk1 hS => ?_)
  obtain ⟨hP1, hK1, hD1⟩ := hB
  rw [ht] at hP1
  have hK1 := va_K.moved hvm.symm hK1
  obtain ⟨hP, hD⟩ := va_join (wr := [(h0, .inr (6, [.ref tp, .int 0, .ref nw, .ref dr, .ref rd, .ref sc, .ref sk, .ref fl, .ref ps, .int 0, .int 0, .ref sh])), (nw, .inr (1, [.ref nm, .ref nb, .int 0, .int 0, .int 0])), (sc, .inr (5, [.ref nw, .ref ss, .int 0, .int (-1), .int 0, .int 0, .int 0, .int 0, .int 0]))]) (w1 := [(rd, .inr (4, [.ref tp, .int 0, .int 0, .int 0, .int 0, .int 0])), (dr, .inr (1, [.ref dm, .ref db, .int 0, .int 0, .int 0]))]) hP hD [4, 1, 3] [0, 2, 5] rfl rfl (by decide) (by decide) hk1 hFc hP1 hD1
  generalize H1 = H at hP hS ⊢
  have hP : va_P (dC, dI) vwCl [(h0, .inr (6, [.ref tp, .int 0, .ref nw, .ref dr, .ref rd, .ref sc, .ref sk, .ref fl, .ref ps, .int 0, .int 0, .ref sh])), (nw, .inr (1, [.ref nm, .ref nb, .int 0, .int 0, .int 0])), (sc, .inr (5, [.ref nw, .ref ss, .int 0, .int (-1), .int 0, .int 0, .int 0, .int 0, .int 0])), (rd, .inr (4, [.ref tp, .int 0, .int 0, .int 0, .int 0, .int 0])), (dr, .inr (1, [.ref dm, .ref db, .int 0, .int 0, .int 0]))] H := hP
  have hD : va_D A [(h0, .inr (6, [.ref tp, .int 0, .ref nw, .ref dr, .ref rd, .ref sc, .ref sk, .ref fl, .ref ps, .int 0, .int 0, .ref sh])), (nw, .inr (1, [.ref nm, .ref nb, .int 0, .int 0, .int 0])), (sc, .inr (5, [.ref nw, .ref ss, .int 0, .int (-1), .int 0, .int 0, .int 0, .int 0, .int 0])), (rd, .inr (4, [.ref tp, .int 0, .int 0, .int 0, .int 0, .int 0])), (dr, .inr (1, [.ref dm, .ref db, .int 0, .int 0, .int 0]))] := hD
  subst hr1
  refine lv_istore_n (lv' := [(1, .int 0), (0, .ref h0)]) hx hb dX6_tell_15 rfl hl (by decide) rfl (fun ls hl => ?_)
  refine lv_aload_n hx hb dX6_tell_16 rfl (lv_at hl 1 rfl) ?_
  refine lv_iconst (v := 0) hx hb dX6_tell_17 (by decide +kernel) ?_
  refine va_put (D := (dC, dI)) (ci := 6) (v := .int 0) (ty := tyX6 1) (C := RX6) (T := TX6) (N := 12) hx hb hts inX6 tyX6 tyX6_ok nmX6 hown hK hP hD hS 0 rfl rfl 1 (by decide) (hts _ pq350) (fun _ h9 => h9) rfl (by decide +kernel) rfl rfl (Nat.le_of_ble_eq_true rfl) dX6_tell_18 (fun H locs hP hD hS => ?_)
  have hP : va_P (dC, dI) vwCl [(h0, .inr (6, [.ref tp, .int 0, .ref nw, .ref dr, .ref rd, .ref sc, .ref sk, .ref fl, .ref ps, .int 0, .int 0, .ref sh])), (nw, .inr (1, [.ref nm, .ref nb, .int 0, .int 0, .int 0])), (sc, .inr (5, [.ref nw, .ref ss, .int 0, .int (-1), .int 0, .int 0, .int 0, .int 0, .int 0])), (rd, .inr (4, [.ref tp, .int 0, .int 0, .int 0, .int 0, .int 0])), (dr, .inr (1, [.ref dm, .ref db, .int 0, .int 0, .int 0]))] H := hP
  have hD : va_D A [(h0, .inr (6, [.ref tp, .int 0, .ref nw, .ref dr, .ref rd, .ref sc, .ref sk, .ref fl, .ref ps, .int 0, .int 0, .ref sh])), (nw, .inr (1, [.ref nm, .ref nb, .int 0, .int 0, .int 0])), (sc, .inr (5, [.ref nw, .ref ss, .int 0, .int (-1), .int 0, .int 0, .int 0, .int 0, .int 0])), (rd, .inr (4, [.ref tp, .int 0, .int 0, .int 0, .int 0, .int 0])), (dr, .inr (1, [.ref dm, .ref db, .int 0, .int 0, .int 0]))] := hD
  refine lv_iload_n hx hb dX6_tell_21 rfl (lv_at hl 0 rfl) ?_
  refine lv_if_eq (tgt := 30) hx hb dX6_tell_22 (by decide) (fun c2 => ?_) (fun c2 => absurd (by decide +kernel) c2)
  refine lv_aload_n hx hb dX6_tell_30 rfl (lv_at hl 1 rfl) ?_
  refine lv_aload_n hx hb dX6_tell_31 rfl (lv_at hl 1 rfl) ?_
  refine va_get (D := (dC, dI)) (ci := 6) (v := .ref dr) (C := RX6) (T := TX6) (N := 12) hx hb hts inX6 hown hK hP 0 rfl rfl 3 (by decide) (hts _ pq352) (fun _ h9 => h9) rfl dX6_tell_32 ?_
  have hPc := hP.sub (ws' := [(h0, .inr (6, [.ref tp, .int 0, .ref nw, .ref dr, .ref rd, .ref sc, .ref sk, .ref fl, .ref ps, .int 0, .int 0, .ref sh])), (nw, .inr (1, [.ref nm, .ref nb, .int 0, .int 0, .int 0])), (dr, .inr (1, [.ref dm, .ref db, .int 0, .int 0, .int 0])), (sc, .inr (5, [.ref nw, .ref ss, .int 0, .int (-1), .int 0, .int 0, .int 0, .int 0, .int 0]))]) [0, 1, 4, 2] rfl
  have hDc := hD.sub (ws' := [(h0, .inr (6, [.ref tp, .int 0, .ref nw, .ref dr, .ref rd, .ref sc, .ref sk, .ref fl, .ref ps, .int 0, .int 0, .ref sh])), (nw, .inr (1, [.ref nm, .ref nb, .int 0, .int 0, .int 0])), (dr, .inr (1, [.ref dm, .ref db, .int 0, .int 0, .int 0])), (sc, .inr (5, [.ref nw, .ref ss, .int 0, .int (-1), .int 0, .int 0, .int 0, .int 0, .int 0]))]) [0, 1, 4, 2] (by decide) rfl
  have hKc := hK.sub (tys' := []) [] rfl
  have hFc := va_free (wc := [(h0, .inr (6, [.ref tp, .int 0, .ref nw, .ref dr, .ref rd, .ref sc, .ref sk, .ref fl, .ref ps, .int 0, .int 0, .ref sh])), (nw, .inr (1, [.ref nm, .ref nb, .int 0, .int 0, .int 0])), (dr, .inr (1, [.ref dm, .ref db, .int 0, .int 0, .int 0])), (sc, .inr (5, [.ref nw, .ref ss, .int 0, .int (-1), .int 0, .int 0, .int 0, .int 0, .int 0]))]) hD hS hA [0, 1, 4, 2] rfl
  refine va_callv (va_runV (As := [.ref dr]) (rest := []) ⟨hx, hb, hml, hown, hts⟩ (c_X6_replaceBy l dC dI h0 tp nw dr rd sc sk fl ps sh nm nb dr dm db ss H.size  ) (cwV 1 hts (gV pq585 pq587 pq1 pq74 pq588) rfl rfl rfl (by decide +kernel) ⟨(Nat.le_of_ble_eq_true rfl), (Nat.le_of_ble_eq_true rfl)⟩) (pc_V hPc hDc hKc hN (va_recv hK hP (ci := 6) (q0 := 0) rfl rfl)) rfl rfl hl.1 rfl (lv_room (Nat.le_of_ble_eq_true rfl)) dX6_tell_35 ⟨(Nat.le_of_ble_eq_true rfl), (Nat.le_of_ble_eq_true rfl)⟩) hS (fun q _ h => hFc q h) hFc (fun u t H1 locs ht hvm hw hB hz1 hk1 hS => ?_)
  obtain ⟨hP1, hK1, hD1⟩ := hB
  rw [ht] at hP1
  have hK1 := va_K.moved hvm.symm hK1
  obtain ⟨hP, hD⟩ := va_join (wr := [(rd, .inr (4, [.ref tp, .int 0, .int 0, .int 0, .int 0, .int 0]))]) (w1 := [(h0, .inr (6, [.ref tp, .int 0, .ref nw, .ref dr, .ref rd, .ref sc, .ref sk, .ref fl, .ref ps, .int 0, .int 0, .ref sh])), (nw, .inr (1, [.ref nm, .ref nb, .int 0, .int 0, .int 0]))]) hP hD [0, 1, 4, 2] [3] rfl rfl (by decide) (by decide) hk1 hFc hP1 hD1
  generalize H1 = H at hP hS ⊢
  have hP : va_P (dC, dI) vwCl [(rd, .inr (4, [.ref tp, .int 0, .int 0, .int 0, .int 0, .int 0])), (h0, .inr (6, [.ref tp, .int 0, .ref nw, .ref dr, .ref rd, .ref sc, .ref sk, .ref fl, .ref ps, .int 0, .int 0, .ref sh])), (nw, .inr (1, [.ref nm, .ref nb, .int 0, .int 0, .int 0]))] H := hP
  have hD : va_D A [(rd, .inr (4, [.ref tp, .int 0, .int 0, .int 0, .int 0, .int 0])), (h0, .inr (6, [.ref tp, .int 0, .ref nw, .ref dr, .ref rd, .ref sc, .ref sk, .ref fl, .ref ps, .int 0, .int 0, .ref sh])), (nw, .inr (1, [.ref nm, .ref nb, .int 0, .int 0, .int 0]))] := hD
  refine lv_aload_n hx hb dX6_tell_38 rfl (lv_at hl 1 rfl) ?_
  refine va_get (D := (dC, dI)) (ci := 6) (v := .ref nw) (C := RX6) (T := TX6) (N := 12) hx hb hts inX6 hown hK hP 1 rfl rfl 2 (by decide) (hts _ pq351) (fun _ h9 => h9) rfl dX6_tell_39 ?_
  refine va_get (D := (dC, dI)) (ci := 1) (v := .int 0) (C := RX1) (T := TX1) (N := 5) hx hb hts inX1 hown hK hP 2 rfl rfl 3 (by decide) (hts _ pq226) (fun _ h9 => h9) rfl dX6_tell_42 ?_
  exact W.iret (v := 0) hx hb hr (fun t ht hW => ⟨⟨0, (), rfl, rfl, trivial⟩, hS.F ht⟩) hS.2.2 dX6_tell_45

set_option maxHeartbeats 4000000 in
set_option maxRecDepth 100000 in
theorem c_X6_keep (l : Launch) (dC : Nat → ClassId) (dI : Nat → Nat → Nat) (h0 tp nw dr rd sc sk fl ps sh nm nb : Nat) (kG : ClassId) (sz : Nat) (p0 : Int32) : Met l yX6_keep (.code yX6_keep cX6_keep 3 (some .int) :: pw) ({ frames := 3, cells := 29, slots := 807, locals := 53 }) (pc (dC, dI) [.ref h0, .int p0] sz [(h0, .inr (6, [.ref tp, .int 0, .ref nw, .ref dr, .ref rd, .ref sc, .ref sk, .ref fl, .ref ps, .int 0, .int 0, .ref sh])), (nw, .inr (1, [.ref nm, .ref nb, .int 0, .int 0, .int 0])), (sh, .inl (kG, 2, .inr (.inr (.inr (.inr (fun _ => none))))))] [(kG, .object RX1)]) (va_Qi (fun (r : Int32) (_ : Unit) => r = if p0 < 0 ∨ 1 < p0 then (-1) else 0) (fun _ _ => True) (va_A [(h0, .inr (6, [.ref tp, .int 0, .ref nw, .ref dr, .ref rd, .ref sc, .ref sk, .ref fl, .ref ps, .int 0, .int 0, .ref sh])), (nw, .inr (1, [.ref nm, .ref nb, .int 0, .int 0, .int 0])), (sh, .inl (kG, 2, .inr (.inr (.inr (.inr (fun _ => none))))))] sz)) 29 807 (va_A [(h0, .inr (6, [.ref tp, .int 0, .ref nw, .ref dr, .ref rd, .ref sc, .ref sk, .ref fl, .ref ps, .int 0, .int 0, .ref sh])), (nw, .inr (1, [.ref nm, .ref nb, .int 0, .int 0, .int 0])), (sh, .inl (kG, 2, .inr (.inr (.inr (.inr (fun _ => none))))))] sz) := by
  refine Met.ofW (cc := cX6_keep) (maxL := 3) (ret := (some .int)) (by decide +kernel) rfl ?_
  intro p e s m args below meth c s₁ B hml hv
  obtain ⟨rfl, hsz, hP, hK, hD0, hN⟩ := hv
  have hx := B.exec
  have hb := B.bytes
  have hr := B.returns
  have hts := fun w (h : w ∈ pw) => atoms_spec (ws := Cond.code yX6_keep cX6_keep 3 (some .int) :: pw) B.pre w (List.mem_cons_of_mem _ h)
  have hown : s.vm.findClass RX6 = some m.cls := findClass_of_methodNamed B.named
  have hlocks := B.notSynchronized
  subst hsz
  have hD := hD0.self (sz := s.heap.size)
  generalize hAe : va_A [(h0, .inr (6, [.ref tp, .int 0, .ref nw, .ref dr, .ref rd, .ref sc, .ref sk, .ref fl, .ref ps, .int 0, .int 0, .ref sh])), (nw, .inr (1, [.ref nm, .ref nb, .int 0, .int 0, .int 0])), (sh, .inl (kG, 2, .inr (.inr (.inr (.inr (fun _ => none))))))] s.heap.size = A at hD ⊢
  have hA : ∀ q : Nat, s.heap.size ≤ q → A q := fun q h => by rw [← hAe]; exact Or.inr h
  obtain ⟨H, hHe⟩ : ∃ H : Heap, H = s.heap := ⟨_, rfl⟩
  have hS : va_S A s.heap H [] := by rw [hHe]; exact va_S.rf
  rw [← hHe] at hP
  have hl := lv_entry ([.ref h0, .int p0]) (n := 3) (Nat.le_of_ble_eq_true rfl)
  rw [lg_entry_eq]
  generalize (lg_sl ([.ref h0, .int p0]) ++ List.replicate (3 - (lg_sl ([.ref h0, .int p0])).length) Slot.unset).toArray = ls at hl ⊢
  have hl : lv_has ls 3 [(0, .ref h0), (1, .int p0)] := hl
  rw [← hHe]
  refine lv_iload_n hx hb dX6_keep_0 rfl (lv_at hl 1 rfl) ?_
  refine lv_iconst (v := 1) hx hb dX6_keep_1 (by decide +kernel) ?_
  have hPc := hP.sub (ws' := []) [] rfl
  have hDc := hD.sub (ws' := []) [] (by decide) rfl
  have hKc := hK.sub (tys' := []) [] rfl
  refine ro_i (va_runS (As := [.int p0, .int 1]) (rest := []) ⟨hx, hb, hml, hown, hts⟩ (c_X6_isFrom0To l dC dI  H.size p0 1 ) (va_cwS 2 hts (gS pq651 pq652 pq74 pq653) rfl rfl rfl (by decide +kernel) ⟨(Nat.le_of_ble_eq_true rfl), (Nat.le_of_ble_eq_true rfl)⟩) (pc_S hPc hDc hKc hN) rfl rfl hl.1 rfl (lv_room (Nat.le_of_ble_eq_true rfl)) dX6_keep_2 ⟨(Nat.le_of_ble_eq_true rfl), (Nat.le_of_ble_eq_true rfl)⟩) hS hP (fun r1 H locs hr1 hP hS => ?_)
  refine lv_if_ne (tgt := 10) hx hb dX6_keep_5 (by decide) (fun c2 => ?_) (fun c2 => ?_)
  · refine lv_aload_n hx hb dX6_keep_10 rfl (lv_at hl 0 rfl) ?_
    refine va_get (D := (dC, dI)) (ci := 6) (v := .ref sh) (C := RX6) (T := TX6) (N := 12) hx hb hts inX6 hown hK hP 0 rfl rfl 11 (by decide) (hts _ pq360) (fun _ h9 => h9) rfl dX6_keep_11 ?_
    refine lv_iload_n hx hb dX6_keep_14 rfl (lv_at hl 1 rfl) ?_
    refine va_aldq hx hb hK hP 2 0 rfl rfl (in2 (rng_n hr1 c2)) dX6_keep_15 ?_
    refine W.eq (g2 := F0 m 16 ls [.null]) rfl ?_
    refine lv_astore_nN (lv' := [(2, .null), (0, .ref h0), (1, .int p0)]) hx hb dX6_keep_16 rfl hl (by decide) rfl (fun ls hl => ?_)
    refine lv_aload_nN hx hb dX6_keep_17 rfl (lv_at hl 0 rfl) ?_
    refine lv_ifnonnullN hx hb dX6_keep_18 ?_
    refine va_new (ci := 1) (fs := [.null, .null, .int 0, .int 0, .int 0]) (C := RX1) (T := TX1) (N := 5) hx hb hts inX1 tyX1 tyX1_ok hown (hts _ pq101) (hts _ pq102) (hts _ pq75) hK hP hD hS hA rfl dfX1 (Nat.le_of_ble_eq_true rfl) (Nat.le_of_ble_eq_true rfl) dX6_keep_21 (fun q3 H hP hD hS => ?_)
    have hP : va_P (dC, dI) vwCl [(h0, .inr (6, [.ref tp, .int 0, .ref nw, .ref dr, .ref rd, .ref sc, .ref sk, .ref fl, .ref ps, .int 0, .int 0, .ref sh])), (nw, .inr (1, [.ref nm, .ref nb, .int 0, .int 0, .int 0])), (sh, .inl (kG, 2, .inr (.inr (.inr (.inr (fun _ => none)))))), (q3, .inr (1, [.null, .null, .int 0, .int 0, .int 0]))] H := hP
    have hD : va_D A [(h0, .inr (6, [.ref tp, .int 0, .ref nw, .ref dr, .ref rd, .ref sc, .ref sk, .ref fl, .ref ps, .int 0, .int 0, .ref sh])), (nw, .inr (1, [.ref nm, .ref nb, .int 0, .int 0, .int 0])), (sh, .inl (kG, 2, .inr (.inr (.inr (.inr (fun _ => none)))))), (q3, .inr (1, [.null, .null, .int 0, .int 0, .int 0]))] := hD
    refine W.widen (k := 1) (n := 5) (Nat.le_of_ble_eq_true rfl) (Nat.le_of_ble_eq_true rfl) ?_
    refine lv_dup hx hb dX6_keep_24 rfl ?_
    have hPc := hP.sub (ws' := [(q3, .inr (1, [.null, .null, .int 0, .int 0, .int 0]))]) [3] rfl
    have hDc := hD.sub (ws' := [(q3, .inr (1, [.null, .null, .int 0, .int 0, .int 0]))]) [3] (by decide) rfl
    have hKc := hK.sub (tys' := []) [] rfl
    have hFc := va_free (wc := [(q3, .inr (1, [.null, .null, .int 0, .int 0, .int 0]))]) hD hS hA [3] rfl
    refine va_callv (va_runI (As := []) (rest := [.ref q3]) ⟨hx, hb, hml, hown, hts⟩ (c_X1_init l dC dI q3 H.size  ) (cwI 0 hts (gI pq105) rfl rfl rfl (hts _ pq75) (hts _ pq103) (hts _ pq104) rfl (by decide +kernel) ⟨(Nat.le_of_ble_eq_true rfl), (Nat.le_of_ble_eq_true rfl)⟩) (pc_S hPc hDc hKc hN) rfl rfl hl.1 rfl (lv_room (Nat.le_of_ble_eq_true rfl)) dX6_keep_25 ⟨(Nat.le_of_ble_eq_true rfl), (Nat.le_of_ble_eq_true rfl)⟩) hS (fun q _ h => hFc q h) hFc (fun u t H1 locs ht hvm hw hB hz1 hk1 hS => ?_)
    obtain ⟨q4, q5, hP1, hK1, hD1⟩ := hB
    rw [ht] at hP1
    have hK1 := va_K.moved hvm.symm hK1
    obtain ⟨hP, hD⟩ := va_join (wr := [(h0, .inr (6, [.ref tp, .int 0, .ref nw, .ref dr, .ref rd, .ref sc, .ref sk, .ref fl, .ref ps, .int 0, .int 0, .ref sh])), (nw, .inr (1, [.ref nm, .ref nb, .int 0, .int 0, .int 0])), (sh, .inl (kG, 2, .inr (.inr (.inr (.inr (fun _ => none))))))]) (w1 := [(q3, .inr (1, [.ref q4, .ref q5, .int 0, .int 0, .int 0]))]) hP hD [3] [0, 1, 2] rfl rfl (by decide) (by decide) hk1 hFc hP1 hD1
    generalize H1 = H at hP hS ⊢
    have hP : va_P (dC, dI) vwCl [(h0, .inr (6, [.ref tp, .int 0, .ref nw, .ref dr, .ref rd, .ref sc, .ref sk, .ref fl, .ref ps, .int 0, .int 0, .ref sh])), (nw, .inr (1, [.ref nm, .ref nb, .int 0, .int 0, .int 0])), (sh, .inl (kG, 2, .inr (.inr (.inr (.inr (fun _ => none)))))), (q3, .inr (1, [.ref q4, .ref q5, .int 0, .int 0, .int 0]))] H := hP
    have hD : va_D A [(h0, .inr (6, [.ref tp, .int 0, .ref nw, .ref dr, .ref rd, .ref sc, .ref sk, .ref fl, .ref ps, .int 0, .int 0, .ref sh])), (nw, .inr (1, [.ref nm, .ref nb, .int 0, .int 0, .int 0])), (sh, .inl (kG, 2, .inr (.inr (.inr (.inr (fun _ => none)))))), (q3, .inr (1, [.ref q4, .ref q5, .int 0, .int 0, .int 0]))] := hD
    refine W.widen (k := 29) (n := 807) (Nat.le_of_ble_eq_true rfl) (Nat.le_of_ble_eq_true rfl) ?_
    refine lv_astore_n (lv' := [(2, .ref q3), (0, .ref h0), (1, .int p0)]) hx hb dX6_keep_28 rfl hl (by decide) rfl (fun ls hl => ?_)
    refine lv_aload_n hx hb dX6_keep_29 rfl (lv_at hl 1 rfl) ?_
    refine va_get (D := (dC, dI)) (ci := 6) (v := .ref sh) (C := RX6) (T := TX6) (N := 12) hx hb hts inX6 hown hK hP 0 rfl rfl 11 (by decide) (hts _ pq360) (fun _ h9 => h9) rfl dX6_keep_30 ?_
    refine lv_iload_n hx hb dX6_keep_33 rfl (lv_at hl 2 rfl) ?_
    refine lv_aload_n hx hb dX6_keep_34 rfl (lv_at hl 0 rfl) ?_
    refine va_astq hx hb hK hP hD hS 2 0 3 1 rfl rfl rfl rfl (in2 (rng_n hr1 c2)) dX6_keep_35 (fun H locs hP hD hS => ?_)
    obtain ⟨f6, hP, hD⟩ : ∃ f6 : Nat → Option Nat, va_P (dC, dI) vwCl [(h0, .inr (6, [.ref tp, .int 0, .ref nw, .ref dr, .ref rd, .ref sc, .ref sk, .ref fl, .ref ps, .int 0, .int 0, .ref sh])), (nw, .inr (1, [.ref nm, .ref nb, .int 0, .int 0, .int 0])), (sh, .inl (kG, 2, .inr (.inr (.inr (.inr f6))))), (q3, .inr (1, [.ref q4, .ref q5, .int 0, .int 0, .int 0]))] H ∧ va_D A [(h0, .inr (6, [.ref tp, .int 0, .ref nw, .ref dr, .ref rd, .ref sc, .ref sk, .ref fl, .ref ps, .int 0, .int 0, .ref sh])), (nw, .inr (1, [.ref nm, .ref nb, .int 0, .int 0, .int 0])), (sh, .inl (kG, 2, .inr (.inr (.inr (.inr f6))))), (q3, .inr (1, [.ref q4, .ref q5, .int 0, .int 0, .int 0]))] := ⟨_, hP, hD⟩
    refine lv_aload_n hx hb dX6_keep_36 rfl (lv_at hl 0 rfl) ?_
    refine lv_aload_n hx hb dX6_keep_37 rfl (lv_at hl 1 rfl) ?_
    refine va_get (D := (dC, dI)) (ci := 6) (v := .ref nw) (C := RX6) (T := TX6) (N := 12) hx hb hts inX6 hown hK hP 0 rfl rfl 2 (by decide) (hts _ pq351) (fun _ h9 => h9) rfl dX6_keep_38 ?_
    have hPc := hP.sub (ws' := [(q3, .inr (1, [.ref q4, .ref q5, .int 0, .int 0, .int 0])), (nw, .inr (1, [.ref nm, .ref nb, .int 0, .int 0, .int 0]))]) [3, 1] rfl
    have hDc := hD.sub (ws' := [(q3, .inr (1, [.ref q4, .ref q5, .int 0, .int 0, .int 0])), (nw, .inr (1, [.ref nm, .ref nb, .int 0, .int 0, .int 0]))]) [3, 1] (by decide) rfl
    have hKc := hK.sub (tys' := []) [] rfl
    have hFc := va_free (wc := [(q3, .inr (1, [.ref q4, .ref q5, .int 0, .int 0, .int 0])), (nw, .inr (1, [.ref nm, .ref nb, .int 0, .int 0, .int 0]))]) hD hS hA [3, 1] rfl
    refine va_callv (va_runV (As := [.ref nw]) (rest := []) ⟨hx, hb, hml, hown, hts⟩ (c_X1_become l dC dI q3 q4 q5 nw nm nb H.size  ) (cwV 1 hts (gV pq589 pq590 pq591 pq75 pq592) rfl rfl rfl (by decide +kernel) ⟨(Nat.le_of_ble_eq_true rfl), (Nat.le_of_ble_eq_true rfl)⟩) (pc_V hPc hDc hKc hN (va_recv hK hP (ci := 1) (q0 := 3) rfl rfl)) rfl rfl hl.1 rfl (lv_room (Nat.le_of_ble_eq_true rfl)) dX6_keep_41 ⟨(Nat.le_of_ble_eq_true rfl), (Nat.le_of_ble_eq_true rfl)⟩) hS (fun q _ h => hFc q h) hFc (fun u t H1 locs ht hvm hw hB hz1 hk1 hS => ?_)
    obtain ⟨hP1, hK1, hD1⟩ := hB
    rw [ht] at hP1
    have hK1 := va_K.moved hvm.symm hK1
    obtain ⟨hP, hD⟩ := va_join (wr := [(h0, .inr (6, [.ref tp, .int 0, .ref nw, .ref dr, .ref rd, .ref sc, .ref sk, .ref fl, .ref ps, .int 0, .int 0, .ref sh])), (sh, .inl (kG, 2, .inr (.inr (.inr (.inr f6)))))]) (w1 := [(q3, .inr (1, [.ref q4, .ref q5, .int 0, .int 0, .int 0])), (nw, .inr (1, [.ref nm, .ref nb, .int 0, .int 0, .int 0]))]) hP hD [3, 1] [0, 2] rfl rfl (by decide) (by decide) hk1 hFc hP1 hD1
    generalize H1 = H at hP hS ⊢
    have hP : va_P (dC, dI) vwCl [(h0, .inr (6, [.ref tp, .int 0, .ref nw, .ref dr, .ref rd, .ref sc, .ref sk, .ref fl, .ref ps, .int 0, .int 0, .ref sh])), (sh, .inl (kG, 2, .inr (.inr (.inr (.inr f6))))), (q3, .inr (1, [.ref q4, .ref q5, .int 0, .int 0, .int 0])), (nw, .inr (1, [.ref nm, .ref nb, .int 0, .int 0, .int 0]))] H := hP
    have hD : va_D A [(h0, .inr (6, [.ref tp, .int 0, .ref nw, .ref dr, .ref rd, .ref sc, .ref sk, .ref fl, .ref ps, .int 0, .int 0, .ref sh])), (sh, .inl (kG, 2, .inr (.inr (.inr (.inr f6))))), (q3, .inr (1, [.ref q4, .ref q5, .int 0, .int 0, .int 0])), (nw, .inr (1, [.ref nm, .ref nb, .int 0, .int 0, .int 0]))] := hD
    refine lv_aload_n hx hb dX6_keep_44 rfl (lv_at hl 1 rfl) ?_
    refine va_get (D := (dC, dI)) (ci := 6) (v := .ref nw) (C := RX6) (T := TX6) (N := 12) hx hb hts inX6 hown hK hP 0 rfl rfl 2 (by decide) (hts _ pq351) (fun _ h9 => h9) rfl dX6_keep_45 ?_
    refine va_get (D := (dC, dI)) (ci := 1) (v := .int 0) (C := RX1) (T := TX1) (N := 5) hx hb hts inX1 hown hK hP 3 rfl rfl 3 (by decide) (hts _ pq226) (fun _ h9 => h9) rfl dX6_keep_48 ?_
    exact W.iret (v := 0) hx hb hr (fun t ht hW => ⟨⟨0, (), rfl, (rng_f hr1 c2), trivial⟩, hS.F ht⟩) hS.2.2 dX6_keep_51
  · refine lv_iconst (v := (-1)) hx hb dX6_keep_8 (by decide +kernel) ?_
    refine W.widen (k := 29) (n := 807) (Nat.le_of_ble_eq_true rfl) (Nat.le_of_ble_eq_true rfl) ?_
    exact W.iret (v := (-1)) hx hb hr (fun t ht hW => ⟨⟨(-1), (), rfl, (rng_t hr1 c2), trivial⟩, hS.F ht⟩) hS.2.2 dX6_keep_9

set_option maxHeartbeats 4000000 in
set_option maxRecDepth 100000 in
theorem c_X6_remember (l : Launch) (dC : Nat → ClassId) (dI : Nat → Nat → Nat) (h0 tp nw dr rd sc sk fl ps sh nm nb : Nat) (kF : ClassId) (sz : Nat) : Met l yX6_remember (.code yX6_remember cX6_remember 3 none :: pw) ({ frames := 3, cells := 29, slots := 807, locals := 53 }) (pc (dC, dI) [.ref h0] sz [(h0, .inr (6, [.ref tp, .int 0, .ref nw, .ref dr, .ref rd, .ref sc, .ref sk, .ref fl, .ref ps, .int 0, .int 0, .ref sh])), (nw, .inr (1, [.ref nm, .ref nb, .int 0, .int 0, .int 0])), (ps, .inl (kF, 10, .inr (.inr (.inr (.inr (fun _ => none))))))] [(kF, .object RX1)]) (va_Qv (fun (_ : Unit) => True) (fun _ t => wB (dC, dI) [(h0, .inr (6, [.ref tp, .int 0, .ref nw, .ref dr, .ref rd, .ref sc, .ref sk, .ref fl, .ref ps, .int 0, .int 1, .ref sh])), (nw, .inr (1, [.ref nm, .ref nb, .int 0, .int 0, .int 0]))] [] (va_A [(h0, .inr (6, [.ref tp, .int 0, .ref nw, .ref dr, .ref rd, .ref sc, .ref sk, .ref fl, .ref ps, .int 0, .int 0, .ref sh])), (nw, .inr (1, [.ref nm, .ref nb, .int 0, .int 0, .int 0])), (ps, .inl (kF, 10, .inr (.inr (.inr (.inr (fun _ => none))))))] sz) t) (va_A [(h0, .inr (6, [.ref tp, .int 0, .ref nw, .ref dr, .ref rd, .ref sc, .ref sk, .ref fl, .ref ps, .int 0, .int 0, .ref sh])), (nw, .inr (1, [.ref nm, .ref nb, .int 0, .int 0, .int 0])), (ps, .inl (kF, 10, .inr (.inr (.inr (.inr (fun _ => none))))))] sz)) 29 807 (va_A [(h0, .inr (6, [.ref tp, .int 0, .ref nw, .ref dr, .ref rd, .ref sc, .ref sk, .ref fl, .ref ps, .int 0, .int 0, .ref sh])), (nw, .inr (1, [.ref nm, .ref nb, .int 0, .int 0, .int 0])), (ps, .inl (kF, 10, .inr (.inr (.inr (.inr (fun _ => none))))))] sz) := by
  refine Met.ofW (cc := cX6_remember) (maxL := 3) (ret := none) (by decide +kernel) rfl ?_
  intro p e s m args below meth c s₁ B hml hv
  obtain ⟨rfl, hsz, hP, hK, hD0, hN⟩ := hv
  have hx := B.exec
  have hb := B.bytes
  have hr := B.returns
  have hts := fun w (h : w ∈ pw) => atoms_spec (ws := Cond.code yX6_remember cX6_remember 3 none :: pw) B.pre w (List.mem_cons_of_mem _ h)
  have hown : s.vm.findClass RX6 = some m.cls := findClass_of_methodNamed B.named
  have hlocks := B.notSynchronized
  subst hsz
  have hD := hD0.self (sz := s.heap.size)
  generalize hAe : va_A [(h0, .inr (6, [.ref tp, .int 0, .ref nw, .ref dr, .ref rd, .ref sc, .ref sk, .ref fl, .ref ps, .int 0, .int 0, .ref sh])), (nw, .inr (1, [.ref nm, .ref nb, .int 0, .int 0, .int 0])), (ps, .inl (kF, 10, .inr (.inr (.inr (.inr (fun _ => none))))))] s.heap.size = A at hD ⊢
  have hA : ∀ q : Nat, s.heap.size ≤ q → A q := fun q h => by rw [← hAe]; exact Or.inr h
  obtain ⟨H, hHe⟩ : ∃ H : Heap, H = s.heap := ⟨_, rfl⟩
  have hS : va_S A s.heap H [] := by rw [hHe]; exact va_S.rf
  rw [← hHe] at hP
  have hl := lv_entry ([.ref h0]) (n := 3) (Nat.le_of_ble_eq_true rfl)
  rw [lg_entry_eq]
  generalize (lg_sl ([.ref h0]) ++ List.replicate (3 - (lg_sl ([.ref h0])).length) Slot.unset).toArray = ls at hl ⊢
  have hl : lv_has ls 3 [(0, .ref h0)] := hl
  rw [← hHe]
  refine lv_aload_n hx hb dX6_remember_0 rfl (lv_at hl 0 rfl) ?_
  refine va_get (D := (dC, dI)) (ci := 6) (v := .int 0) (C := RX6) (T := TX6) (N := 12) hx hb hts inX6 hown hK hP 0 rfl rfl 10 (by decide) (hts _ pq359) (fun _ h9 => h9) rfl dX6_remember_1 ?_
  refine lv_bipush (v := 10) hx hb dX6_remember_4 (by decide +kernel) ?_
  refine lv_icmp_ne (tgt := 32) hx hb dX6_remember_6 (by decide) (fun c1 => ?_) (fun c1 => absurd c1 (by decide +kernel))
  refine lv_aload_n hx hb dX6_remember_32 rfl (lv_at hl 0 rfl) ?_
  refine va_get (D := (dC, dI)) (ci := 6) (v := .int 0) (C := RX6) (T := TX6) (N := 12) hx hb hts inX6 hown hK hP 0 rfl rfl 9 (by decide) (hts _ pq358) (fun _ h9 => h9) rfl dX6_remember_33 ?_
  refine lv_aload_n hx hb dX6_remember_36 rfl (lv_at hl 0 rfl) ?_
  refine va_get (D := (dC, dI)) (ci := 6) (v := .int 0) (C := RX6) (T := TX6) (N := 12) hx hb hts inX6 hown hK hP 0 rfl rfl 10 (by decide) (hts _ pq359) (fun _ h9 => h9) rfl dX6_remember_37 ?_
  refine lv_iadd hx hb dX6_remember_40 ?_
  refine lv_topi (fun z2 ez2 => ?_)
  obtain rfl : z2 = 0 := ez2.trans (by decide +kernel)
  refine lv_bipush (v := 10) hx hb dX6_remember_41 (by decide +kernel) ?_
  refine lv_irem hx hb dX6_remember_43 (by decide +kernel) ?_
  refine lv_topi (fun z3 ez3 => ?_)
  obtain rfl : z3 = 0 := ez3.trans (by decide +kernel)
  refine lv_istore_n (lv' := [(1, .int 0), (0, .ref h0)]) hx hb dX6_remember_44 rfl hl (by decide) rfl (fun ls hl => ?_)
  refine lv_aload_n hx hb dX6_remember_45 rfl (lv_at hl 1 rfl) ?_
  refine va_get (D := (dC, dI)) (ci := 6) (v := .ref ps) (C := RX6) (T := TX6) (N := 12) hx hb hts inX6 hown hK hP 0 rfl rfl 8 (by decide) (hts _ pq357) (fun _ h9 => h9) rfl dX6_remember_46 ?_
  refine lv_iload_n hx hb dX6_remember_49 rfl (lv_at hl 0 rfl) ?_
  refine va_aldq hx hb hK hP 2 0 rfl rfl (in_d (by decide +kernel)) dX6_remember_50 ?_
  refine W.eq (g2 := F0 m 51 ls [.null]) rfl ?_
  refine lv_astore_nN (lv' := [(2, .null), (1, .int 0), (0, .ref h0)]) hx hb dX6_remember_51 rfl hl (by decide) rfl (fun ls hl => ?_)
  refine lv_aload_nN hx hb dX6_remember_52 rfl (lv_at hl 0 rfl) ?_
  refine lv_ifnonnullN hx hb dX6_remember_53 ?_
  refine va_new (ci := 1) (fs := [.null, .null, .int 0, .int 0, .int 0]) (C := RX1) (T := TX1) (N := 5) hx hb hts inX1 tyX1 tyX1_ok hown (hts _ pq101) (hts _ pq102) (hts _ pq75) hK hP hD hS hA rfl dfX1 (Nat.le_of_ble_eq_true rfl) (Nat.le_of_ble_eq_true rfl) dX6_remember_56 (fun q4 H hP hD hS => ?_)
  have hP : va_P (dC, dI) vwCl [(h0, .inr (6, [.ref tp, .int 0, .ref nw, .ref dr, .ref rd, .ref sc, .ref sk, .ref fl, .ref ps, .int 0, .int 0, .ref sh])), (nw, .inr (1, [.ref nm, .ref nb, .int 0, .int 0, .int 0])), (ps, .inl (kF, 10, .inr (.inr (.inr (.inr (fun _ => none)))))), (q4, .inr (1, [.null, .null, .int 0, .int 0, .int 0]))] H := hP
  have hD : va_D A [(h0, .inr (6, [.ref tp, .int 0, .ref nw, .ref dr, .ref rd, .ref sc, .ref sk, .ref fl, .ref ps, .int 0, .int 0, .ref sh])), (nw, .inr (1, [.ref nm, .ref nb, .int 0, .int 0, .int 0])), (ps, .inl (kF, 10, .inr (.inr (.inr (.inr (fun _ => none)))))), (q4, .inr (1, [.null, .null, .int 0, .int 0, .int 0]))] := hD
  refine W.widen (k := 1) (n := 5) (Nat.le_of_ble_eq_true rfl) (Nat.le_of_ble_eq_true rfl) ?_
  refine lv_dup hx hb dX6_remember_59 rfl ?_
  have hPc := hP.sub (ws' := [(q4, .inr (1, [.null, .null, .int 0, .int 0, .int 0]))]) [3] rfl
  have hDc := hD.sub (ws' := [(q4, .inr (1, [.null, .null, .int 0, .int 0, .int 0]))]) [3] (by decide) rfl
  have hKc := hK.sub (tys' := []) [] rfl
  have hFc := va_free (wc := [(q4, .inr (1, [.null, .null, .int 0, .int 0, .int 0]))]) hD hS hA [3] rfl
  refine va_callv (va_runI (As := []) (rest := [.ref q4]) ⟨hx, hb, hml, hown, hts⟩ (c_X1_init l dC dI q4 H.size  ) (cwI 0 hts (gI pq105) rfl rfl rfl (hts _ pq75) (hts _ pq103) (hts _ pq104) rfl (by decide +kernel) ⟨(Nat.le_of_ble_eq_true rfl), (Nat.le_of_ble_eq_true rfl)⟩) (pc_S hPc hDc hKc hN) rfl rfl hl.1 rfl (lv_room (Nat.le_of_ble_eq_true rfl)) dX6_remember_60 ⟨(Nat.le_of_ble_eq_true rfl), (Nat.le_of_ble_eq_true rfl)⟩) hS (fun q _ h => hFc q h) hFc (fun u t H1 locs ht hvm hw hB hz1 hk1 hS => ?_)
  obtain ⟨q5, q6, hP1, hK1, hD1⟩ := hB
  rw [ht] at hP1
  have hK1 := va_K.moved hvm.symm hK1
  obtain ⟨hP, hD⟩ := va_join (wr := [(h0, .inr (6, [.ref tp, .int 0, .ref nw, .ref dr, .ref rd, .ref sc, .ref sk, .ref fl, .ref ps, .int 0, .int 0, .ref sh])), (nw, .inr (1, [.ref nm, .ref nb, .int 0, .int 0, .int 0])), (ps, .inl (kF, 10, .inr (.inr (.inr (.inr (fun _ => none))))))]) (w1 := [(q4, .inr (1, [.ref q5, .ref q6, .int 0, .int 0, .int 0]))]) hP hD [3] [0, 1, 2] rfl rfl (by decide) (by decide) hk1 hFc hP1 hD1
  generalize H1 = H at hP hS ⊢
  have hP : va_P (dC, dI) vwCl [(h0, .inr (6, [.ref tp, .int 0, .ref nw, .ref dr, .ref rd, .ref sc, .ref sk, .ref fl, .ref ps, .int 0, .int 0, .ref sh])), (nw, .inr (1, [.ref nm, .ref nb, .int 0, .int 0, .int 0])), (ps, .inl (kF, 10, .inr (.inr (.inr (.inr (fun _ => none)))))), (q4, .inr (1, [.ref q5, .ref q6, .int 0, .int 0, .int 0]))] H := hP
  have hD : va_D A [(h0, .inr (6, [.ref tp, .int 0, .ref nw, .ref dr, .ref rd, .ref sc, .ref sk, .ref fl, .ref ps, .int 0, .int 0, .ref sh])), (nw, .inr (1, [.ref nm, .ref nb, .int 0, .int 0, .int 0])), (ps, .inl (kF, 10, .inr (.inr (.inr (.inr (fun _ => none)))))), (q4, .inr (1, [.ref q5, .ref q6, .int 0, .int 0, .int 0]))] := hD
  refine W.widen (k := 29) (n := 807) (Nat.le_of_ble_eq_true rfl) (Nat.le_of_ble_eq_true rfl) ?_
  refine lv_astore_n (lv' := [(2, .ref q4), (1, .int 0), (0, .ref h0)]) hx hb dX6_remember_63 rfl hl (by decide) rfl (fun ls hl => ?_)
  refine lv_aload_n hx hb dX6_remember_64 rfl (lv_at hl 2 rfl) ?_
  refine va_get (D := (dC, dI)) (ci := 6) (v := .ref ps) (C := RX6) (T := TX6) (N := 12) hx hb hts inX6 hown hK hP 0 rfl rfl 8 (by decide) (hts _ pq357) (fun _ h9 => h9) rfl dX6_remember_65 ?_
  refine lv_iload_n hx hb dX6_remember_68 rfl (lv_at hl 1 rfl) ?_
  refine lv_aload_n hx hb dX6_remember_69 rfl (lv_at hl 0 rfl) ?_
  refine va_astq hx hb hK hP hD hS 2 0 3 1 rfl rfl rfl rfl (in_d (by decide +kernel)) dX6_remember_70 (fun H locs hP hD hS => ?_)
  obtain ⟨f7, hP, hD⟩ : ∃ f7 : Nat → Option Nat, va_P (dC, dI) vwCl [(h0, .inr (6, [.ref tp, .int 0, .ref nw, .ref dr, .ref rd, .ref sc, .ref sk, .ref fl, .ref ps, .int 0, .int 0, .ref sh])), (nw, .inr (1, [.ref nm, .ref nb, .int 0, .int 0, .int 0])), (ps, .inl (kF, 10, .inr (.inr (.inr (.inr f7))))), (q4, .inr (1, [.ref q5, .ref q6, .int 0, .int 0, .int 0]))] H ∧ va_D A [(h0, .inr (6, [.ref tp, .int 0, .ref nw, .ref dr, .ref rd, .ref sc, .ref sk, .ref fl, .ref ps, .int 0, .int 0, .ref sh])), (nw, .inr (1, [.ref nm, .ref nb, .int 0, .int 0, .int 0])), (ps, .inl (kF, 10, .inr (.inr (.inr (.inr f7))))), (q4, .inr (1, [.ref q5, .ref q6, .int 0, .int 0, .int 0]))] := ⟨_, hP, hD⟩
  refine lv_aload_n hx hb dX6_remember_71 rfl (lv_at hl 0 rfl) ?_
  refine lv_aload_n hx hb dX6_remember_72 rfl (lv_at hl 2 rfl) ?_
  refine va_get (D := (dC, dI)) (ci := 6) (v := .ref nw) (C := RX6) (T := TX6) (N := 12) hx hb hts inX6 hown hK hP 0 rfl rfl 2 (by decide) (hts _ pq351) (fun _ h9 => h9) rfl dX6_remember_73 ?_
  have hPc := hP.sub (ws' := [(q4, .inr (1, [.ref q5, .ref q6, .int 0, .int 0, .int 0])), (nw, .inr (1, [.ref nm, .ref nb, .int 0, .int 0, .int 0]))]) [3, 1] rfl
  have hDc := hD.sub (ws' := [(q4, .inr (1, [.ref q5, .ref q6, .int 0, .int 0, .int 0])), (nw, .inr (1, [.ref nm, .ref nb, .int 0, .int 0, .int 0]))]) [3, 1] (by decide) rfl
  have hKc := hK.sub (tys' := []) [] rfl
  have hFc := va_free (wc := [(q4, .inr (1, [.ref q5, .ref q6, .int 0, .int 0, .int 0])), (nw, .inr (1, [.ref nm, .ref nb, .int 0, .int 0, .int 0]))]) hD hS hA [3, 1] rfl
  refine va_callv (va_runV (As := [.ref nw]) (rest := []) ⟨hx, hb, hml, hown, hts⟩ (c_X1_become l dC dI q4 q5 q6 nw nm nb H.size  ) (cwV 1 hts (gV pq589 pq590 pq591 pq75 pq592) rfl rfl rfl (by decide +kernel) ⟨(Nat.le_of_ble_eq_true rfl), (Nat.le_of_ble_eq_true rfl)⟩) (pc_V hPc hDc hKc hN (va_recv hK hP (ci := 1) (q0 := 3) rfl rfl)) rfl rfl hl.1 rfl (lv_room (Nat.le_of_ble_eq_true rfl)) dX6_remember_76 ⟨(Nat.le_of_ble_eq_true rfl), (Nat.le_of_ble_eq_true rfl)⟩) hS (fun q _ h => hFc q h) hFc (fun u t H1 locs ht hvm hw hB hz1 hk1 hS => ?_)
  obtain ⟨hP1, hK1, hD1⟩ := hB
  rw [ht] at hP1
  have hK1 := va_K.moved hvm.symm hK1
  obtain ⟨hP, hD⟩ := va_join (wr := [(h0, .inr (6, [.ref tp, .int 0, .ref nw, .ref dr, .ref rd, .ref sc, .ref sk, .ref fl, .ref ps, .int 0, .int 0, .ref sh])), (ps, .inl (kF, 10, .inr (.inr (.inr (.inr f7)))))]) (w1 := [(q4, .inr (1, [.ref q5, .ref q6, .int 0, .int 0, .int 0])), (nw, .inr (1, [.ref nm, .ref nb, .int 0, .int 0, .int 0]))]) hP hD [3, 1] [0, 2] rfl rfl (by decide) (by decide) hk1 hFc hP1 hD1
  generalize H1 = H at hP hS ⊢
  have hP : va_P (dC, dI) vwCl [(h0, .inr (6, [.ref tp, .int 0, .ref nw, .ref dr, .ref rd, .ref sc, .ref sk, .ref fl, .ref ps, .int 0, .int 0, .ref sh])), (ps, .inl (kF, 10, .inr (.inr (.inr (.inr f7))))), (q4, .inr (1, [.ref q5, .ref q6, .int 0, .int 0, .int 0])), (nw, .inr (1, [.ref nm, .ref nb, .int 0, .int 0, .int 0]))] H := hP
  have hD : va_D A [(h0, .inr (6, [.ref tp, .int 0, .ref nw, .ref dr, .ref rd, .ref sc, .ref sk, .ref fl, .ref ps, .int 0, .int 0, .ref sh])), (ps, .inl (kF, 10, .inr (.inr (.inr (.inr f7))))), (q4, .inr (1, [.ref q5, .ref q6, .int 0, .int 0, .int 0])), (nw, .inr (1, [.ref nm, .ref nb, .int 0, .int 0, .int 0]))] := hD
  refine lv_aload_n hx hb dX6_remember_79 rfl (lv_at hl 2 rfl) ?_
  refine lv_dup hx hb dX6_remember_80 rfl ?_
  refine va_get (D := (dC, dI)) (ci := 6) (v := .int 0) (C := RX6) (T := TX6) (N := 12) hx hb hts inX6 hown hK hP 0 rfl rfl 10 (by decide) (hts _ pq359) (fun _ h9 => h9) rfl dX6_remember_81 ?_
  refine lv_iconst (v := 1) hx hb dX6_remember_84 (by decide +kernel) ?_
  refine lv_iadd hx hb dX6_remember_85 ?_
  refine lv_topi (fun z8 ez8 => ?_)
  obtain rfl : z8 = 1 := ez8.trans (by decide +kernel)
  refine va_put (D := (dC, dI)) (ci := 6) (v := .int 1) (ty := tyX6 10) (C := RX6) (T := TX6) (N := 12) hx hb hts inX6 tyX6 tyX6_ok nmX6 hown hK hP hD hS 0 rfl rfl 10 (by decide) (hts _ pq359) (fun _ h9 => h9) rfl (by decide +kernel) rfl rfl (Nat.le_of_ble_eq_true rfl) dX6_remember_86 (fun H locs hP hD hS => ?_)
  have hP : va_P (dC, dI) vwCl [(h0, .inr (6, [.ref tp, .int 0, .ref nw, .ref dr, .ref rd, .ref sc, .ref sk, .ref fl, .ref ps, .int 0, .int 1, .ref sh])), (ps, .inl (kF, 10, .inr (.inr (.inr (.inr f7))))), (q4, .inr (1, [.ref q5, .ref q6, .int 0, .int 0, .int 0])), (nw, .inr (1, [.ref nm, .ref nb, .int 0, .int 0, .int 0]))] H := hP
  have hD : va_D A [(h0, .inr (6, [.ref tp, .int 0, .ref nw, .ref dr, .ref rd, .ref sc, .ref sk, .ref fl, .ref ps, .int 0, .int 1, .ref sh])), (ps, .inl (kF, 10, .inr (.inr (.inr (.inr f7))))), (q4, .inr (1, [.ref q5, .ref q6, .int 0, .int 0, .int 0])), (nw, .inr (1, [.ref nm, .ref nb, .int 0, .int 0, .int 0]))] := hD
  have hP9 := hP.sub (ws' := [(h0, .inr (6, [.ref tp, .int 0, .ref nw, .ref dr, .ref rd, .ref sc, .ref sk, .ref fl, .ref ps, .int 0, .int 1, .ref sh])), (nw, .inr (1, [.ref nm, .ref nb, .int 0, .int 0, .int 0]))]) [0, 3] rfl
  have hD9 := hD.sub (ws' := [(h0, .inr (6, [.ref tp, .int 0, .ref nw, .ref dr, .ref rd, .ref sc, .ref sk, .ref fl, .ref ps, .int 0, .int 1, .ref sh])), (nw, .inr (1, [.ref nm, .ref nb, .int 0, .int 0, .int 0]))]) [0, 3] (by decide) rfl
  have hK9 := hK.sub (tys' := []) [] rfl
  exact W.vret hx hb hr (fun t ht hW => ⟨⟨(), rfl, trivial, ⟨by rw [ht]; exact hP9, va_K.moved hW.alike hK9, hD9⟩⟩, hS.F ht⟩) hS.2.2 dX6_remember_89
