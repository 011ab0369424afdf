def yX7_isBody : MethodName := ⟨RX7, "isBody", "(I)Z"⟩
def yX7_isMask : MethodName := ⟨RX7, "isMask", "(I)Z"⟩
def yX7_changes : MethodName := ⟨RX7, "changes", "(IZ)I"⟩
def yX7_areTwo : MethodName := ⟨RX7, "areTwo", "(II)Z"⟩
def yX7_in : MethodName := ⟨RX7, "in", "(JJJ)Z"⟩
abbrev cX7_in : ByteArray := prog_9_method_2_code
abbrev cX7_isBody : ByteArray := prog_9_method_32_code
abbrev cX7_isMask : ByteArray := prog_9_method_31_code
abbrev cX7_changes : ByteArray := prog_9_method_66_code
abbrev cX7_areTwo : ByteArray := prog_9_method_33_code
abbrev cX7_body : ByteArray := prog_9_method_92_code
abbrev cX7_common : ByteArray := prog_9_method_93_code
abbrev cX7_crop : ByteArray := prog_9_method_78_code
abbrev cX7_dot : ByteArray := prog_9_method_90_code
abbrev cX7_flip : ByteArray := prog_9_method_57_code
abbrev cX7_grow : ByteArray := prog_9_method_67_code
abbrev cX7_join : ByteArray := prog_9_method_69_code
abbrev cX7_layers : ByteArray := prog_9_method_59_code
abbrev cX7_mask : ByteArray := prog_9_method_89_code
abbrev cX7_meet : ByteArray := prog_9_method_94_code
abbrev cX7_place : ByteArray := prog_9_method_56_code
abbrev cX7_push : ByteArray := prog_9_method_75_code
abbrev cX7_quarter : ByteArray := prog_9_method_81_code
abbrev cX7_row : ByteArray := prog_9_method_91_code
abbrev cX7_slide : ByteArray := prog_9_method_71_code
abbrev cX7_speed : ByteArray := prog_9_method_60_code
abbrev cX7_thin : ByteArray := prog_9_method_68_code
abbrev cX7_turn : ByteArray := prog_9_method_61_code
def yX7_body : MethodName := ⟨RX7, "body", "(II)I"⟩
def yX7_common : MethodName := ⟨RX7, "common", "(II)I"⟩
def yX7_crop : MethodName := ⟨RX7, "crop", "(I)I"⟩
def yX7_dot : MethodName := ⟨RX7, "dot", "(III)I"⟩
def yX7_flip : MethodName := ⟨RX7, "flip", "(II)I"⟩
def yX7_grow : MethodName := ⟨RX7, "grow", "(I)I"⟩
def yX7_join : MethodName := ⟨RX7, "join", "(IIIII)I"⟩
def yX7_layers : MethodName := ⟨RX7, "layers", "(III)I"⟩
def yX7_mask : MethodName := ⟨RX7, "mask", "(II)I"⟩
def yX7_meet : MethodName := ⟨RX7, "meet", "(III)I"⟩
def yX7_place : MethodName := ⟨RX7, "place", "(III)I"⟩
def yX7_push : MethodName := ⟨RX7, "push", "(III)I"⟩
def yX7_quarter : MethodName := ⟨RX7, "quarter", "(I)I"⟩
def yX7_row : MethodName := ⟨RX7, "row", "(III)J"⟩
def yX7_slide : MethodName := ⟨RX7, "slide", "(III)I"⟩
def yX7_speed : MethodName := ⟨RX7, "speed", "(III)I"⟩
def yX7_thin : MethodName := ⟨RX7, "thin", "(I)I"⟩
def yX7_turn : MethodName := ⟨RX7, "turn", "(III)I"⟩
theorem dX7_areTwo_0 : decode cX7_areTwo 0 = .ok (.aload_n 0, 1) := by decide +kernel
theorem dX7_areTwo_1 : decode cX7_areTwo 1 = .ok (.iload_n 1, 1) := by decide +kernel
theorem dX7_areTwo_2 : decode cX7_areTwo 2 = .ok (.invokevirtual 196, 3) := by decide +kernel
theorem dX7_areTwo_5 : decode cX7_areTwo 5 = .ok (.ifCond .eq 20, 3) := by decide +kernel
theorem dX7_areTwo_25 : decode cX7_areTwo 25 = .ok (.iconst 0, 1) := by decide +kernel
theorem dX7_areTwo_26 : decode cX7_areTwo 26 = .ok (.ireturn, 1) := by decide +kernel
theorem dX7_body_0 : decode cX7_body 0 = .ok (.aload_n 0, 1) := by decide +kernel
theorem dX7_body_1 : decode cX7_body 1 = .ok (.iload_n 1, 1) := by decide +kernel
theorem dX7_body_2 : decode cX7_body 2 = .ok (.invokevirtual 196, 3) := by decide +kernel
theorem dX7_body_5 : decode cX7_body 5 = .ok (.ifCond .eq 24, 3) := by decide +kernel
theorem dX7_body_29 : decode cX7_body 29 = .ok (.sipush (-2000), 3) := by decide +kernel
theorem dX7_body_32 : decode cX7_body 32 = .ok (.ireturn, 1) := by decide +kernel
theorem dX7_changes_0 : decode cX7_changes 0 = .ok (.aload_n 0, 1) := by decide +kernel
theorem dX7_changes_1 : decode cX7_changes 1 = .ok (.iload_n 1, 1) := by decide +kernel
theorem dX7_changes_2 : decode cX7_changes 2 = .ok (.invokevirtual 301, 3) := by decide +kernel
theorem dX7_changes_5 : decode cX7_changes 5 = .ok (.ifCond .ne 5, 3) := by decide +kernel
theorem dX7_changes_8 : decode cX7_changes 8 = .ok (.iconst (-1), 1) := by decide +kernel
theorem dX7_changes_9 : decode cX7_changes 9 = .ok (.ireturn, 1) := by decide +kernel
theorem dX7_common_0 : decode cX7_common 0 = .ok (.aload_n 0, 1) := by decide +kernel
theorem dX7_common_1 : decode cX7_common 1 = .ok (.iload_n 1, 1) := by decide +kernel
theorem dX7_common_2 : decode cX7_common 2 = .ok (.iload_n 2, 1) := by decide +kernel
theorem dX7_common_3 : decode cX7_common 3 = .ok (.invokevirtual 382, 3) := by decide +kernel
theorem dX7_common_6 : decode cX7_common 6 = .ok (.ifCond .ne 5, 3) := by decide +kernel
theorem dX7_common_9 : decode cX7_common 9 = .ok (.iconst (-1), 1) := by decide +kernel
theorem dX7_common_10 : decode cX7_common 10 = .ok (.ireturn, 1) := by decide +kernel
theorem dX7_crop_0 : decode cX7_crop 0 = .ok (.aload_n 0, 1) := by decide +kernel
theorem dX7_crop_1 : decode cX7_crop 1 = .ok (.iload_n 1, 1) := by decide +kernel
theorem dX7_crop_2 : decode cX7_crop 2 = .ok (.invokevirtual 301, 3) := by decide +kernel
theorem dX7_crop_5 : decode cX7_crop 5 = .ok (.ifCond .ne 5, 3) := by decide +kernel
theorem dX7_crop_8 : decode cX7_crop 8 = .ok (.iconst (-1), 1) := by decide +kernel
theorem dX7_crop_9 : decode cX7_crop 9 = .ok (.ireturn, 1) := by decide +kernel
theorem dX7_dot_0 : decode cX7_dot 0 = .ok (.aload_n 0, 1) := by decide +kernel
theorem dX7_dot_1 : decode cX7_dot 1 = .ok (.iload_n 1, 1) := by decide +kernel
theorem dX7_dot_2 : decode cX7_dot 2 = .ok (.invokevirtual 301, 3) := by decide +kernel
theorem dX7_dot_5 : decode cX7_dot 5 = .ok (.ifCond .eq 16, 3) := by decide +kernel
theorem dX7_dot_21 : decode cX7_dot 21 = .ok (.iconst (-1), 1) := by decide +kernel
theorem dX7_dot_22 : decode cX7_dot 22 = .ok (.ireturn, 1) := by decide +kernel
theorem dX7_flip_0 : decode cX7_flip 0 = .ok (.aload_n 0, 1) := by decide +kernel
theorem dX7_flip_1 : decode cX7_flip 1 = .ok (.iload_n 1, 1) := by decide +kernel
theorem dX7_flip_2 : decode cX7_flip 2 = .ok (.invokevirtual 196, 3) := by decide +kernel
theorem dX7_flip_5 : decode cX7_flip 5 = .ok (.ifCond .eq 15, 3) := by decide +kernel
theorem dX7_flip_20 : decode cX7_flip 20 = .ok (.iconst (-1), 1) := by decide +kernel
theorem dX7_flip_21 : decode cX7_flip 21 = .ok (.ireturn, 1) := by decide +kernel
theorem dX7_grow_0 : decode cX7_grow 0 = .ok (.aload_n 0, 1) := by decide +kernel
theorem dX7_grow_1 : decode cX7_grow 1 = .ok (.iload_n 1, 1) := by decide +kernel
theorem dX7_grow_2 : decode cX7_grow 2 = .ok (.iconst 1, 1) := by decide +kernel
theorem dX7_grow_3 : decode cX7_grow 3 = .ok (.invokevirtual 313, 3) := by decide +kernel
theorem dX7_grow_6 : decode cX7_grow 6 = .ok (.ireturn, 1) := by decide +kernel
theorem dX7_in_0 : decode cX7_in 0 = .ok (.lload_n 0, 1) := by decide +kernel
theorem dX7_in_1 : decode cX7_in 1 = .ok (.lload_n 2, 1) := by decide +kernel
theorem dX7_in_2 : decode cX7_in 2 = .ok (.lcmp, 1) := by decide +kernel
theorem dX7_in_3 : decode cX7_in 3 = .ok (.ifCond .lt 14, 3) := by decide +kernel
theorem dX7_in_6 : decode cX7_in 6 = .ok (.lload_n 0, 1) := by decide +kernel
theorem dX7_in_7 : decode cX7_in 7 = .ok (.lload 4, 2) := by decide +kernel
theorem dX7_in_9 : decode cX7_in 9 = .ok (.lcmp, 1) := by decide +kernel
theorem dX7_in_10 : decode cX7_in 10 = .ok (.ifCond .gt 7, 3) := by decide +kernel
theorem dX7_in_13 : decode cX7_in 13 = .ok (.iconst 1, 1) := by decide +kernel
theorem dX7_in_14 : decode cX7_in 14 = .ok (.goto 4, 3) := by decide +kernel
theorem dX7_in_17 : decode cX7_in 17 = .ok (.iconst 0, 1) := by decide +kernel
theorem dX7_in_18 : decode cX7_in 18 = .ok (.ireturn, 1) := by decide +kernel
theorem dX7_isBody_0 : decode cX7_isBody 0 = .ok (.iload_n 1, 1) := by decide +kernel
theorem dX7_isBody_1 : decode cX7_isBody 1 = .ok (.i2l, 1) := by decide +kernel
theorem dX7_isBody_2 : decode cX7_isBody 2 = .ok (.lconst 0, 1) := by decide +kernel
theorem dX7_isBody_3 : decode cX7_isBody 3 = .ok (.aload_n 0, 1) := by decide +kernel
theorem dX7_isBody_4 : decode cX7_isBody 4 = .ok (.getfield 9, 3) := by decide +kernel
theorem dX7_isBody_7 : decode cX7_isBody 7 = .ok (.iconst 1, 1) := by decide +kernel
theorem dX7_isBody_8 : decode cX7_isBody 8 = .ok (.iaload, 1) := by decide +kernel
theorem dX7_isBody_9 : decode cX7_isBody 9 = .ok (.iconst 1, 1) := by decide +kernel
theorem dX7_isBody_10 : decode cX7_isBody 10 = .ok (.isub, 1) := by decide +kernel
theorem dX7_isBody_11 : decode cX7_isBody 11 = .ok (.i2l, 1) := by decide +kernel
theorem dX7_isBody_12 : decode cX7_isBody 12 = .ok (.invokestatic 96, 3) := by decide +kernel
theorem dX7_isBody_15 : decode cX7_isBody 15 = .ok (.ireturn, 1) := by decide +kernel
theorem dX7_isMask_0 : decode cX7_isMask 0 = .ok (.iload_n 1, 1) := by decide +kernel
theorem dX7_isMask_1 : decode cX7_isMask 1 = .ok (.i2l, 1) := by decide +kernel
theorem dX7_isMask_2 : decode cX7_isMask 2 = .ok (.lconst 0, 1) := by decide +kernel
theorem dX7_isMask_3 : decode cX7_isMask 3 = .ok (.aload_n 0, 1) := by decide +kernel
theorem dX7_isMask_4 : decode cX7_isMask 4 = .ok (.getfield 9, 3) := by decide +kernel
theorem dX7_isMask_7 : decode cX7_isMask 7 = .ok (.iconst 0, 1) := by decide +kernel
theorem dX7_isMask_8 : decode cX7_isMask 8 = .ok (.iaload, 1) := by decide +kernel
theorem dX7_isMask_9 : decode cX7_isMask 9 = .ok (.iconst 1, 1) := by decide +kernel
theorem dX7_isMask_10 : decode cX7_isMask 10 = .ok (.isub, 1) := by decide +kernel
theorem dX7_isMask_11 : decode cX7_isMask 11 = .ok (.i2l, 1) := by decide +kernel
theorem dX7_isMask_12 : decode cX7_isMask 12 = .ok (.invokestatic 96, 3) := by decide +kernel
theorem dX7_isMask_15 : decode cX7_isMask 15 = .ok (.ireturn, 1) := by decide +kernel
theorem dX7_join_0 : decode cX7_join 0 = .ok (.aload_n 0, 1) := by decide +kernel
theorem dX7_join_1 : decode cX7_join 1 = .ok (.iload_n 1, 1) := by decide +kernel
theorem dX7_join_2 : decode cX7_join 2 = .ok (.invokevirtual 301, 3) := by decide +kernel
theorem dX7_join_5 : decode cX7_join 5 = .ok (.ifCond .eq 53, 3) := by decide +kernel
theorem dX7_join_58 : decode cX7_join 58 = .ok (.iconst (-1), 1) := by decide +kernel
theorem dX7_join_59 : decode cX7_join 59 = .ok (.ireturn, 1) := by decide +kernel
theorem dX7_layers_0 : decode cX7_layers 0 = .ok (.aload_n 0, 1) := by decide +kernel
theorem dX7_layers_1 : decode cX7_layers 1 = .ok (.iload_n 1, 1) := by decide +kernel
theorem dX7_layers_2 : decode cX7_layers 2 = .ok (.invokevirtual 196, 3) := by decide +kernel
theorem dX7_layers_5 : decode cX7_layers 5 = .ok (.ifCond .eq 38, 3) := by decide +kernel
theorem dX7_layers_43 : decode cX7_layers 43 = .ok (.iconst (-1), 1) := by decide +kernel
theorem dX7_layers_44 : decode cX7_layers 44 = .ok (.ireturn, 1) := by decide +kernel
theorem dX7_mask_0 : decode cX7_mask 0 = .ok (.aload_n 0, 1) := by decide +kernel
theorem dX7_mask_1 : decode cX7_mask 1 = .ok (.iload_n 1, 1) := by decide +kernel
theorem dX7_mask_2 : decode cX7_mask 2 = .ok (.invokevirtual 301, 3) := by decide +kernel
theorem dX7_mask_5 : decode cX7_mask 5 = .ok (.ifCond .ne 5, 3) := by decide +kernel
theorem dX7_mask_8 : decode cX7_mask 8 = .ok (.iconst (-1), 1) := by decide +kernel
theorem dX7_mask_9 : decode cX7_mask 9 = .ok (.ireturn, 1) := by decide +kernel
theorem dX7_meet_0 : decode cX7_meet 0 = .ok (.aload_n 0, 1) := by decide +kernel
theorem dX7_meet_1 : decode cX7_meet 1 = .ok (.iload_n 1, 1) := by decide +kernel
theorem dX7_meet_2 : decode cX7_meet 2 = .ok (.iload_n 2, 1) := by decide +kernel
theorem dX7_meet_3 : decode cX7_meet 3 = .ok (.invokevirtual 382, 3) := by decide +kernel
theorem dX7_meet_6 : decode cX7_meet 6 = .ok (.ifCond .eq 13, 3) := by decide +kernel
theorem dX7_meet_19 : decode cX7_meet 19 = .ok (.sipush (-2000), 3) := by decide +kernel
theorem dX7_meet_22 : decode cX7_meet 22 = .ok (.ireturn, 1) := by decide +kernel
theorem dX7_place_0 : decode cX7_place 0 = .ok (.aload_n 0, 1) := by decide +kernel
theorem dX7_place_1 : decode cX7_place 1 = .ok (.iload_n 1, 1) := by decide +kernel
theorem dX7_place_2 : decode cX7_place 2 = .ok (.invokevirtual 196, 3) := by decide +kernel
theorem dX7_place_5 : decode cX7_place 5 = .ok (.ifCond .eq 12, 3) := by decide +kernel
theorem dX7_place_17 : decode cX7_place 17 = .ok (.iconst (-1), 1) := by decide +kernel
theorem dX7_place_18 : decode cX7_place 18 = .ok (.ireturn, 1) := by decide +kernel
theorem dX7_push_0 : decode cX7_push 0 = .ok (.aload_n 0, 1) := by decide +kernel
theorem dX7_push_1 : decode cX7_push 1 = .ok (.iload_n 1, 1) := by decide +kernel
theorem dX7_push_2 : decode cX7_push 2 = .ok (.invokevirtual 196, 3) := by decide +kernel
theorem dX7_push_5 : decode cX7_push 5 = .ok (.ifCond .eq 11, 3) := by decide +kernel
theorem dX7_push_16 : decode cX7_push 16 = .ok (.iconst (-1), 1) := by decide +kernel
theorem dX7_push_17 : decode cX7_push 17 = .ok (.ireturn, 1) := by decide +kernel
theorem dX7_quarter_0 : decode cX7_quarter 0 = .ok (.aload_n 0, 1) := by decide +kernel
theorem dX7_quarter_1 : decode cX7_quarter 1 = .ok (.iload_n 1, 1) := by decide +kernel
theorem dX7_quarter_2 : decode cX7_quarter 2 = .ok (.invokevirtual 301, 3) := by decide +kernel
theorem dX7_quarter_5 : decode cX7_quarter 5 = .ok (.ifCond .ne 5, 3) := by decide +kernel
theorem dX7_quarter_8 : decode cX7_quarter 8 = .ok (.iconst (-1), 1) := by decide +kernel
theorem dX7_quarter_9 : decode cX7_quarter 9 = .ok (.ireturn, 1) := by decide +kernel
theorem dX7_row_0 : decode cX7_row 0 = .ok (.aload_n 0, 1) := by decide +kernel
theorem dX7_row_1 : decode cX7_row 1 = .ok (.iload_n 1, 1) := by decide +kernel
theorem dX7_row_2 : decode cX7_row 2 = .ok (.invokevirtual 301, 3) := by decide +kernel
theorem dX7_row_5 : decode cX7_row 5 = .ok (.ifCond .eq 48, 3) := by decide +kernel
theorem dX7_row_53 : decode cX7_row 53 = .ok (.lconst 0, 1) := by decide +kernel
theorem dX7_row_54 : decode cX7_row 54 = .ok (.lreturn, 1) := by decide +kernel
theorem dX7_slide_0 : decode cX7_slide 0 = .ok (.aload_n 0, 1) := by decide +kernel
theorem dX7_slide_1 : decode cX7_slide 1 = .ok (.iload_n 1, 1) := by decide +kernel
theorem dX7_slide_2 : decode cX7_slide 2 = .ok (.invokevirtual 196, 3) := by decide +kernel
theorem dX7_slide_5 : decode cX7_slide 5 = .ok (.ifCond .eq 11, 3) := by decide +kernel
theorem dX7_slide_16 : decode cX7_slide 16 = .ok (.iconst (-1), 1) := by decide +kernel
theorem dX7_slide_17 : decode cX7_slide 17 = .ok (.ireturn, 1) := by decide +kernel
theorem dX7_speed_0 : decode cX7_speed 0 = .ok (.aload_n 0, 1) := by decide +kernel
theorem dX7_speed_1 : decode cX7_speed 1 = .ok (.iload_n 1, 1) := by decide +kernel
theorem dX7_speed_2 : decode cX7_speed 2 = .ok (.invokevirtual 196, 3) := by decide +kernel
theorem dX7_speed_5 : decode cX7_speed 5 = .ok (.ifCond .eq 43, 3) := by decide +kernel
theorem dX7_speed_48 : decode cX7_speed 48 = .ok (.iconst (-1), 1) := by decide +kernel
theorem dX7_speed_49 : decode cX7_speed 49 = .ok (.ireturn, 1) := by decide +kernel
theorem dX7_thin_0 : decode cX7_thin 0 = .ok (.aload_n 0, 1) := by decide +kernel
theorem dX7_thin_1 : decode cX7_thin 1 = .ok (.iload_n 1, 1) := by decide +kernel
theorem dX7_thin_2 : decode cX7_thin 2 = .ok (.iconst 0, 1) := by decide +kernel
theorem dX7_thin_3 : decode cX7_thin 3 = .ok (.invokevirtual 313, 3) := by decide +kernel
theorem dX7_thin_6 : decode cX7_thin 6 = .ok (.ireturn, 1) := by decide +kernel
theorem dX7_turn_0 : decode cX7_turn 0 = .ok (.aload_n 0, 1) := by decide +kernel
theorem dX7_turn_1 : decode cX7_turn 1 = .ok (.iload_n 1, 1) := by decide +kernel
theorem dX7_turn_2 : decode cX7_turn 2 = .ok (.invokevirtual 301, 3) := by decide +kernel
theorem dX7_turn_5 : decode cX7_turn 5 = .ok (.ifCond .eq 37, 3) := by decide +kernel
theorem dX7_turn_42 : decode cX7_turn 42 = .ok (.iconst (-1), 1) := by decide +kernel
theorem dX7_turn_43 : decode cX7_turn 43 = .ok (.ireturn, 1) := by decide +kernel
set_option maxRecDepth 100000 in
theorem pq23 : Cond.selects RX7 yX7_isBody yX7_isBody ∈ pw := pw_mem (i := 23) (by decide +kernel) rfl
set_option maxRecDepth 100000 in
theorem pq31 : Cond.selects RX7 yX7_isMask yX7_isMask ∈ pw := pw_mem (i := 31) (by decide +kernel) rfl
set_option maxRecDepth 100000 in
theorem pq35 : Cond.selects RX7 yX7_changes yX7_changes ∈ pw := pw_mem (i := 35) (by decide +kernel) rfl
set_option maxRecDepth 100000 in
theorem pq62 : Cond.selects RX7 yX7_areTwo yX7_areTwo ∈ pw := pw_mem (i := 62) (by decide +kernel) rfl
set_option maxRecDepth 100000 in
theorem pq81 : Cond.initialized RX7 ∈ pw := pw_mem (i := 81) (by decide +kernel) rfl
set_option maxRecDepth 100000 in
theorem pq1234 : Cond.methodLink RX7 96 yX7_in ∈ pw := pw_mem (i := 1234) (by decide +kernel) rfl
set_option maxRecDepth 100000 in
theorem pq1235 : Cond.static yX7_in ∈ pw := pw_mem (i := 1235) (by decide +kernel) rfl
set_option maxRecDepth 100000 in
theorem pq1236 : Cond.code yX7_in cX7_in 6 (some .boolean) ∈ pw := pw_mem (i := 1236) (by rfl) rfl
set_option maxRecDepth 100000 in
theorem pq1310 : Cond.methodLink RX7 196 yX7_isBody ∈ pw := pw_mem (i := 1310) (by decide +kernel) rfl
set_option maxRecDepth 100000 in
theorem pq1312 : Cond.instanceMethod yX7_isBody ∈ pw := pw_mem (i := 1312) (by decide +kernel) rfl
set_option maxRecDepth 100000 in
theorem pq1313 : Cond.code yX7_isBody cX7_isBody 2 (some .boolean) ∈ pw := pw_mem (i := 1313) (by rfl) rfl
set_option maxRecDepth 100000 in
theorem pq1364 : Cond.methodLink RX7 301 yX7_isMask ∈ pw := pw_mem (i := 1364) (by decide +kernel) rfl
set_option maxRecDepth 100000 in
theorem pq1366 : Cond.instanceMethod yX7_isMask ∈ pw := pw_mem (i := 1366) (by decide +kernel) rfl
set_option maxRecDepth 100000 in
theorem pq1367 : Cond.code yX7_isMask cX7_isMask 2 (some .boolean) ∈ pw := pw_mem (i := 1367) (by rfl) rfl
set_option maxRecDepth 100000 in
theorem pq1387 : Cond.methodLink RX7 313 yX7_changes ∈ pw := pw_mem (i := 1387) (by decide +kernel) rfl
set_option maxRecDepth 100000 in
theorem pq1389 : Cond.instanceMethod yX7_changes ∈ pw := pw_mem (i := 1389) (by decide +kernel) rfl
set_option maxRecDepth 100000 in
theorem pq1390 : Cond.code yX7_changes cX7_changes 8 (some .int) ∈ pw := pw_mem (i := 1390) (by rfl) rfl
set_option maxRecDepth 100000 in
theorem pq1571 : Cond.methodLink RX7 382 yX7_areTwo ∈ pw := pw_mem (i := 1571) (by decide +kernel) rfl
set_option maxRecDepth 100000 in
theorem pq1573 : Cond.instanceMethod yX7_areTwo ∈ pw := pw_mem (i := 1573) (by decide +kernel) rfl
set_option maxRecDepth 100000 in
theorem pq1574 : Cond.code yX7_areTwo cX7_areTwo 3 (some .boolean) ∈ pw := pw_mem (i := 1574) (by rfl) rfl
theorem in_neg (x : Int64) : x < 0 ∨ (-1) < x := by
  rcases Int64.lt_or_le x 0 with h | h
  · exact Or.inl h
  · exact Or.inr (Int64.lt_of_lt_of_le (by decide +kernel) h)

set_option maxHeartbeats 4000000 in
set_option maxRecDepth 100000 in
theorem c_X7_in (l : Launch) (dC : Nat → ClassId) (dI : Nat → Nat → Nat) (sz : Nat) (p0 : Int64) (p1 : Int64) (p2 : Int64) : Met l yX7_in (.code yX7_in cX7_in 6 (some .boolean) :: pw) ({ frames := 0, cells := 0, slots := 0, locals := 0 }) (pc (dC, dI) [.long p0, .long p1, .long p2] sz [] []) (va_Qi (fun (r : Int32) (_ : Unit) => r = if p0 < p1 ∨ p2 < p0 then 0 else 1) (fun _ _ => True) (fun _ => False)) 0 0 (fun _ => False) := by
  refine Met.ofW (cc := cX7_in) (maxL := 6) (ret := (some .boolean)) (by decide +kernel) rfl ?_
  intro p e s m args below meth c s₁ B hml hv
  obtain ⟨rfl, hsz, hP, hK, hD0, hN⟩ := hv
  have hx := B.exec
  have hb := B.bytes
  have hr := B.returns
  have hts := fun w (h : w ∈ pw) => atoms_spec (ws := Cond.code yX7_in cX7_in 6 (some .boolean) :: pw) B.pre w (List.mem_cons_of_mem _ h)
  have hown : s.vm.findClass RX7 = some m.cls := findClass_of_methodNamed B.named
  have hlocks := B.notSynchronized
  subst hsz
  have hD := hD0
  obtain ⟨H, hHe⟩ : ∃ H : Heap, H = s.heap := ⟨_, rfl⟩
  have hS : va_S (fun _ => False) s.heap H [] := by rw [hHe]; exact va_S.rf
  rw [← hHe] at hP
  have hl := lv_entry ([.long p0, .long p1, .long p2]) (n := 6) (Nat.le_of_ble_eq_true rfl)
  rw [lg_entry_eq]
  generalize (lg_sl ([.long p0, .long p1, .long p2]) ++ List.replicate (6 - (lg_sl ([.long p0, .long p1, .long p2])).length) Slot.unset).toArray = ls at hl ⊢
  have hl : lv_has ls 6 [(0, .long p0), (2, .long p1), (4, .long p2)] := hl
  rw [← hHe]
  refine lv_lload_n hx hb dX7_in_0 rfl (lv_at hl 0 rfl) ?_
  refine lv_lload_n hx hb dX7_in_1 rfl (lv_at hl 1 rfl) ?_
  refine W.lcmp hx hb dX7_in_2 ?_
  refine lv_topi (fun z1 ez1 => ?_)
  refine lv_if_lt (tgt := 17) hx hb dX7_in_3 (by decide) (fun c2 => ?_) (fun c2 => ?_)
  · refine lv_iconst (v := 0) hx hb dX7_in_17 (by decide +kernel) ?_
    have c2x := (lg_cmp_lt _ _).mp (ez1 ▸ c2)
    exact W.zret (v := 0) hx hb hr (by decide +kernel) (fun t ht hW => ⟨⟨0, (), rfl, (if_pos (Or.inl c2x)).symm, trivial⟩, hS.F ht⟩) hS.2.2 dX7_in_18
  · refine lv_lload_n hx hb dX7_in_6 rfl (lv_at hl 0 rfl) ?_
    refine lv_lload hx hb dX7_in_7 (lv_at hl 2 rfl) ?_
    refine W.lcmp hx hb dX7_in_9 ?_
    refine lv_topi (fun z3 ez3 => ?_)
    refine lv_if_gt (tgt := 17) hx hb dX7_in_10 (by decide) (fun c4 => ?_) (fun c4 => ?_)
    · refine lv_iconst (v := 0) hx hb dX7_in_17 (by decide +kernel) ?_
      have c2x := fun h => c2 (by rw [ez1]; exact (lg_cmp_lt _ _).mpr h)
      have c4x := (lg_cmp_gt _ _).mp (ez3 ▸ c4)
      exact W.zret (v := 0) hx hb hr (by decide +kernel) (fun t ht hW => ⟨⟨0, (), rfl, (if_pos (Or.inr c4x)).symm, trivial⟩, hS.F ht⟩) hS.2.2 dX7_in_18
    · refine lv_iconst (v := 1) hx hb dX7_in_13 (by decide +kernel) ?_
      refine lv_goto (tgt := 18) hx hb dX7_in_14 (by decide) ?_
      have c2x := fun h => c2 (by rw [ez1]; exact (lg_cmp_lt _ _).mpr h)
      have c4x := fun h => c4 (by rw [ez3]; exact (lg_cmp_gt _ _).mpr h)
      exact W.zret (v := 1) hx hb hr (by decide +kernel) (fun t ht hW => ⟨⟨1, (), rfl, (if_neg (fun h => h.elim c2x c4x)).symm, trivial⟩, hS.F ht⟩) hS.2.2 dX7_in_18

set_option maxHeartbeats 4000000 in
set_option maxRecDepth 100000 in
theorem c_X7_isMask (l : Launch) (dC : Nat → ClassId) (dI : Nat → Nat → Nat) (h0 mnw mhd mas mps msf mdt mhdd masd mpsd msfd mkp mtp mld mmd men mil mqu mbx : Nat) (kI : ClassId) (sz : Nat) (p0 : Int32) : Met l yX7_isMask (.code yX7_isMask cX7_isMask 2 (some .boolean) :: pw) ({ frames := 1, cells := 0, slots := 0, locals := 25 }) (pc (dC, dI) [.ref h0, .int p0] sz [(h0, .inr (7, [.ref mnw, .ref mhd, .ref mas, .ref mps, .ref msf, .ref mdt, .ref mhdd, .ref masd, .ref mpsd, .ref msfd, .ref mkp, .int 0, .ref mtp, .int 0, .int 0, .int 0, .int 0, .ref mld, .int 0, .ref mmd, .ref men, .ref mil, .ref mqu, .int 0, .int 0, .ref mbx])), (mnw, .inl (kI, 99, .inl (fun _ => 0)))] [(kI, .int)]) (va_Qi (fun (r : Int32) (_ : Unit) => r = 0) (fun _ _ => True) (fun _ => False)) 0 0 (fun _ => False) := by
  refine Met.ofW (cc := cX7_isMask) (maxL := 2) (ret := (some .boolean)) (by decide +kernel) rfl ?_
  intro p e s m args below meth c s₁ B hml hv
  obtain ⟨rfl, hsz, hP, hK, hD0, hN⟩ := hv
  have hx := B.exec
  have hb := B.bytes
  have hr := B.returns
  have hts := fun w (h : w ∈ pw) => atoms_spec (ws := Cond.code yX7_isMask cX7_isMask 2 (some .boolean) :: pw) B.pre w (List.mem_cons_of_mem _ h)
  have hown : s.vm.findClass RX7 = some m.cls := findClass_of_methodNamed B.named
  have hlocks := B.notSynchronized
  subst hsz
  have hD := hD0
  obtain ⟨H, hHe⟩ : ∃ H : Heap, H = s.heap := ⟨_, rfl⟩
  have hS : va_S (fun _ => False) s.heap H [] := by rw [hHe]; exact va_S.rf
  rw [← hHe] at hP
  have hl := lv_entry ([.ref h0, .int p0]) (n := 2) (Nat.le_of_ble_eq_true rfl)
  rw [lg_entry_eq]
  generalize (lg_sl ([.ref h0, .int p0]) ++ List.replicate (2 - (lg_sl ([.ref h0, .int p0])).length) Slot.unset).toArray = ls at hl ⊢
  have hl : lv_has ls 2 [(0, .ref h0), (1, .int p0)] := hl
  rw [← hHe]
  refine lv_iload_n hx hb dX7_isMask_0 rfl (lv_at hl 1 rfl) ?_
  refine lv_i2l (v := p0.toInt64) hx hb dX7_isMask_1 rfl ?_
  refine lv_lconst (v := 0) hx hb dX7_isMask_2 (by decide +kernel) ?_
  refine lv_aload_n hx hb dX7_isMask_3 rfl (lv_at hl 0 rfl) ?_
  refine va_get (D := (dC, dI)) (ci := 7) (v := .ref mnw) (C := RX7) (T := TX7) (N := 26) hx hb hts inX7 hown hK hP 0 rfl rfl 0 (by decide) (hts _ pq1115) (fun _ h9 => h9) rfl dX7_isMask_4 ?_
  refine lv_iconst (v := 0) hx hb dX7_isMask_7 (by decide +kernel) ?_
  refine va_iald hx hb hK hP 1 0 rfl rfl (in_d (by decide +kernel)) dX7_isMask_8 ?_
  refine lv_topi (fun z1 ez1 => ?_)
  obtain rfl : z1 = 0 := ez1.trans (by decide +kernel)
  refine lv_iconst (v := 1) hx hb dX7_isMask_9 (by decide +kernel) ?_
  refine lv_isub hx hb dX7_isMask_10 ?_
  refine lv_topi (fun z2 ez2 => ?_)
  obtain rfl : z2 = (-1) := ez2.trans (by decide +kernel)
  refine lv_i2l (v := (-1)) hx hb dX7_isMask_11 (by decide +kernel) ?_
  have hPc := hP.sub (ws' := []) [] rfl
  have hDc := hD.sub (ws' := []) [] (by decide) rfl
  have hKc := hK.sub (tys' := []) [] rfl
  refine ro_i (va_runS (As := [.long p0.toInt64, .long 0, .long (-1)]) (rest := []) ⟨hx, hb, hml, hown, hts⟩ (c_X7_in l dC dI  H.size p0.toInt64 0 (-1) ) (va_cwS 3 hts (gS pq1234 pq1235 pq81 pq1236) rfl rfl rfl (by decide +kernel) ⟨(Nat.le_of_ble_eq_true rfl), (Nat.le_of_ble_eq_true rfl)⟩) (pc_S hPc hDc hKc hN) rfl rfl hl.1 rfl (lv_room (Nat.le_of_ble_eq_true rfl)) dX7_isMask_12 ⟨(Nat.le_of_ble_eq_true rfl), (Nat.le_of_ble_eq_true rfl)⟩) hS hP (fun r3 H locs hr3 hP hS => ?_)
  obtain rfl : r3 = 0 := hr3.trans (if_pos (in_neg _))
  exact W.zret (v := 0) hx hb hr (by decide +kernel) (fun t ht hW => ⟨⟨0, (), rfl, rfl, trivial⟩, hS.F ht⟩) hS.2.2 dX7_isMask_15

set_option maxHeartbeats 4000000 in
set_option maxRecDepth 100000 in
theorem c_X7_isBody (l : Launch) (dC : Nat → ClassId) (dI : Nat → Nat → Nat) (h0 mnw mhd mas mps msf mdt mhdd masd mpsd msfd mkp mtp mld mmd men mil mqu mbx : Nat) (kI : ClassId) (sz : Nat) (p0 : Int32) : Met l yX7_isBody (.code yX7_isBody cX7_isBody 2 (some .boolean) :: pw) ({ frames := 1, cells := 0, slots := 0, locals := 25 }) (pc (dC, dI) [.ref h0, .int p0] sz [(h0, .inr (7, [.ref mnw, .ref mhd, .ref mas, .ref mps, .ref msf, .ref mdt, .ref mhdd, .ref masd, .ref mpsd, .ref msfd, .ref mkp, .int 0, .ref mtp, .int 0, .int 0, .int 0, .int 0, .ref mld, .int 0, .ref mmd, .ref men, .ref mil, .ref mqu, .int 0, .int 0, .ref mbx])), (mnw, .inl (kI, 99, .inl (fun _ => 0)))] [(kI, .int)]) (va_Qi (fun (r : Int32) (_ : Unit) => r = 0) (fun _ _ => True) (fun _ => False)) 0 0 (fun _ => False) := by
  refine Met.ofW (cc := cX7_isBody) (maxL := 2) (ret := (some .boolean)) (by decide +kernel) rfl ?_
  intro p e s m args below meth c s₁ B hml hv
  obtain ⟨rfl, hsz, hP, hK, hD0, hN⟩ := hv
  have hx := B.exec
  have hb := B.bytes
  have hr := B.returns
  have hts := fun w (h : w ∈ pw) => atoms_spec (ws := Cond.code yX7_isBody cX7_isBody 2 (some .boolean) :: pw) B.pre w (List.mem_cons_of_mem _ h)
  have hown : s.vm.findClass RX7 = some m.cls := findClass_of_methodNamed B.named
  have hlocks := B.notSynchronized
  subst hsz
  have hD := hD0
  obtain ⟨H, hHe⟩ : ∃ H : Heap, H = s.heap := ⟨_, rfl⟩
  have hS : va_S (fun _ => False) s.heap H [] := by rw [hHe]; exact va_S.rf
  rw [← hHe] at hP
  have hl := lv_entry ([.ref h0, .int p0]) (n := 2) (Nat.le_of_ble_eq_true rfl)
  rw [lg_entry_eq]
  generalize (lg_sl ([.ref h0, .int p0]) ++ List.replicate (2 - (lg_sl ([.ref h0, .int p0])).length) Slot.unset).toArray = ls at hl ⊢
  have hl : lv_has ls 2 [(0, .ref h0), (1, .int p0)] := hl
  rw [← hHe]
  refine lv_iload_n hx hb dX7_isBody_0 rfl (lv_at hl 1 rfl) ?_
  refine lv_i2l (v := p0.toInt64) hx hb dX7_isBody_1 rfl ?_
  refine lv_lconst (v := 0) hx hb dX7_isBody_2 (by decide +kernel) ?_
  refine lv_aload_n hx hb dX7_isBody_3 rfl (lv_at hl 0 rfl) ?_
  refine va_get (D := (dC, dI)) (ci := 7) (v := .ref mnw) (C := RX7) (T := TX7) (N := 26) hx hb hts inX7 hown hK hP 0 rfl rfl 0 (by decide) (hts _ pq1115) (fun _ h9 => h9) rfl dX7_isBody_4 ?_
  refine lv_iconst (v := 1) hx hb dX7_isBody_7 (by decide +kernel) ?_
  refine va_iald hx hb hK hP 1 0 rfl rfl (in_d (by decide +kernel)) dX7_isBody_8 ?_
  refine lv_topi (fun z1 ez1 => ?_)
  obtain rfl : z1 = 0 := ez1.trans (by decide +kernel)
  refine lv_iconst (v := 1) hx hb dX7_isBody_9 (by decide +kernel) ?_
  refine lv_isub hx hb dX7_isBody_10 ?_
  refine lv_topi (fun z2 ez2 => ?_)
  obtain rfl : z2 = (-1) := ez2.trans (by decide +kernel)
  refine lv_i2l (v := (-1)) hx hb dX7_isBody_11 (by decide +kernel) ?_
  have hPc := hP.sub (ws' := []) [] rfl
  have hDc := hD.sub (ws' := []) [] (by decide) rfl
  have hKc := hK.sub (tys' := []) [] rfl
  refine ro_i (va_runS (As := [.long p0.toInt64, .long 0, .long (-1)]) (rest := []) ⟨hx, hb, hml, hown, hts⟩ (c_X7_in l dC dI  H.size p0.toInt64 0 (-1) ) (va_cwS 3 hts (gS pq1234 pq1235 pq81 pq1236) rfl rfl rfl (by decide +kernel) ⟨(Nat.le_of_ble_eq_true rfl), (Nat.le_of_ble_eq_true rfl)⟩) (pc_S hPc hDc hKc hN) rfl rfl hl.1 rfl (lv_room (Nat.le_of_ble_eq_true rfl)) dX7_isBody_12 ⟨(Nat.le_of_ble_eq_true rfl), (Nat.le_of_ble_eq_true rfl)⟩) hS hP (fun r3 H locs hr3 hP hS => ?_)
  obtain rfl : r3 = 0 := hr3.trans (if_pos (in_neg _))
  exact W.zret (v := 0) hx hb hr (by decide +kernel) (fun t ht hW => ⟨⟨0, (), rfl, rfl, trivial⟩, hS.F ht⟩) hS.2.2 dX7_isBody_15

set_option maxHeartbeats 4000000 in
set_option maxRecDepth 100000 in
theorem c_X7_areTwo (l : Launch) (dC : Nat → ClassId) (dI : Nat → Nat → Nat) (h0 mnw mhd mas mps msf mdt mhdd masd mpsd msfd mkp mtp mld mmd men mil mqu mbx : Nat) (kI : ClassId) (sz : Nat) (p0 : Int32) (p1 : Int32) : Met l yX7_areTwo (.code yX7_areTwo cX7_areTwo 3 (some .boolean) :: pw) ({ frames := 2, cells := 0, slots := 0, locals := 46 }) (pc (dC, dI) [.ref h0, .int p0, .int p1] sz [(h0, .inr (7, [.ref mnw, .ref mhd, .ref mas, .ref mps, .ref msf, .ref mdt, .ref mhdd, .ref masd, .ref mpsd, .ref msfd, .ref mkp, .int 0, .ref mtp, .int 0, .int 0, .int 0, .int 0, .ref mld, .int 0, .ref mmd, .ref men, .ref mil, .ref mqu, .int 0, .int 0, .ref mbx])), (mnw, .inl (kI, 99, .inl (fun _ => 0)))] [(kI, .int)]) (va_Qi (fun (r : Int32) (_ : Unit) => r = 0) (fun _ _ => True) (fun _ => False)) 0 0 (fun _ => False) := by
  refine Met.ofW (cc := cX7_areTwo) (maxL := 3) (ret := (some .boolean)) (by decide +kernel) rfl ?_
  intro p e s m args below meth c s₁ B hml hv
  obtain ⟨rfl, hsz, hP, hK, hD0, hN⟩ := hv
  have hx := B.exec
  have hb := B.bytes
  have hr := B.returns
  have hts := fun w (h : w ∈ pw) => atoms_spec (ws := Cond.code yX7_areTwo cX7_areTwo 3 (some .boolean) :: pw) B.pre w (List.mem_cons_of_mem _ h)
  have hown : s.vm.findClass RX7 = some m.cls := findClass_of_methodNamed B.named
  have hlocks := B.notSynchronized
  subst hsz
  have hD := hD0
  obtain ⟨H, hHe⟩ : ∃ H : Heap, H = s.heap := ⟨_, rfl⟩
  have hS : va_S (fun _ => False) s.heap H [] := by rw [hHe]; exact va_S.rf
  rw [← hHe] at hP
  have hl := lv_entry ([.ref h0, .int p0, .int p1]) (n := 3) (Nat.le_of_ble_eq_true rfl)
  rw [lg_entry_eq]
  generalize (lg_sl ([.ref h0, .int p0, .int p1]) ++ List.replicate (3 - (lg_sl ([.ref h0, .int p0, .int p1])).length) Slot.unset).toArray = ls at hl ⊢
  have hl : lv_has ls 3 [(0, .ref h0), (1, .int p0), (2, .int p1)] := hl
  rw [← hHe]
  refine lv_aload_n hx hb dX7_areTwo_0 rfl (lv_at hl 0 rfl) ?_
  refine lv_iload_n hx hb dX7_areTwo_1 rfl (lv_at hl 1 rfl) ?_
  have hPc := hP.sub (ws' := [(h0, .inr (7, [.ref mnw, .ref mhd, .ref mas, .ref mps, .ref msf, .ref mdt, .ref mhdd, .ref masd, .ref mpsd, .ref msfd, .ref mkp, .int 0, .ref mtp, .int 0, .int 0, .int 0, .int 0, .ref mld, .int 0, .ref mmd, .ref men, .ref mil, .ref mqu, .int 0, .int 0, .ref mbx])), (mnw, .inl (kI, 99, .inl (fun _ => 0)))]) [0, 1] rfl
  have hDc := hD.sub (ws' := [(h0, .inr (7, [.ref mnw, .ref mhd, .ref mas, .ref mps, .ref msf, .ref mdt, .ref mhdd, .ref masd, .ref mpsd, .ref msfd, .ref mkp, .int 0, .ref mtp, .int 0, .int 0, .int 0, .int 0, .ref mld, .int 0, .ref mmd, .ref men, .ref mil, .ref mqu, .int 0, .int 0, .ref mbx])), (mnw, .inl (kI, 99, .inl (fun _ => 0)))]) [0, 1] (by decide) rfl
  have hKc := hK.sub (tys' := [(kI, .int)]) [0] rfl
  refine ro_i (va_runV (As := [.int p0]) (rest := []) ⟨hx, hb, hml, hown, hts⟩ (c_X7_isBody l dC dI h0 mnw mhd mas mps msf mdt mhdd masd mpsd msfd mkp mtp mld mmd men mil mqu mbx kI H.size p0 ) (cwV 1 hts (gV pq1310 pq1312 pq23 pq81 pq1313) rfl rfl rfl (by decide +kernel) ⟨(Nat.le_of_ble_eq_true rfl), (Nat.le_of_ble_eq_true rfl)⟩) (pc_V hPc hDc hKc hN (va_recv hK hP (ci := 7) (q0 := 0) rfl rfl)) rfl rfl hl.1 rfl (lv_room (Nat.le_of_ble_eq_true rfl)) dX7_areTwo_2 ⟨(Nat.le_of_ble_eq_true rfl), (Nat.le_of_ble_eq_true rfl)⟩) hS hP (fun r1 H locs hr1 hP hS => ?_)
  subst hr1
  refine lv_if_eq (tgt := 25) hx hb dX7_areTwo_5 (by decide) (fun c2 => ?_) (fun c2 => absurd (by decide +kernel) c2)
  refine lv_iconst (v := 0) hx hb dX7_areTwo_25 (by decide +kernel) ?_
  exact W.zret (v := 0) hx hb hr (by decide +kernel) (fun t ht hW => ⟨⟨0, (), rfl, rfl, trivial⟩, hS.F ht⟩) hS.2.2 dX7_areTwo_26

set_option maxHeartbeats 4000000 in
set_option maxRecDepth 100000 in
theorem c_X7_changes (l : Launch) (dC : Nat → ClassId) (dI : Nat → Nat → Nat) (h0 mnw mhd mas mps msf mdt mhdd masd mpsd msfd mkp mtp mld mmd men mil mqu mbx : Nat) (kI : ClassId) (sz : Nat) (p0 : Int32) (p1 : Int32) : Met l yX7_changes (.code yX7_changes cX7_changes 8 (some .int) :: pw) ({ frames := 2, cells := 0, slots := 0, locals := 46 }) (pc (dC, dI) [.ref h0, .int p0, .int p1] sz [(h0, .inr (7, [.ref mnw, .ref mhd, .ref mas, .ref mps, .ref msf, .ref mdt, .ref mhdd, .ref masd, .ref mpsd, .ref msfd, .ref mkp, .int 0, .ref mtp, .int 0, .int 0, .int 0, .int 0, .ref mld, .int 0, .ref mmd, .ref men, .ref mil, .ref mqu, .int 0, .int 0, .ref mbx])), (mnw, .inl (kI, 99, .inl (fun _ => 0)))] [(kI, .int)]) (va_Qi (fun (r : Int32) (_ : Unit) => r = (-1)) (fun _ _ => True) (fun _ => False)) 0 0 (fun _ => False) := by
  refine Met.ofW (cc := cX7_changes) (maxL := 8) (ret := (some .int)) (by decide +kernel) rfl ?_
  intro p e s m args below meth c s₁ B hml hv
  obtain ⟨rfl, hsz, hP, hK, hD0, hN⟩ := hv
  have hx := B.exec
  have hb := B.bytes
  have hr := B.returns
  have hts := fun w (h : w ∈ pw) => atoms_spec (ws := Cond.code yX7_changes cX7_changes 8 (some .int) :: pw) B.pre w (List.mem_cons_of_mem _ h)
  have hown : s.vm.findClass RX7 = some m.cls := findClass_of_methodNamed B.named
  have hlocks := B.notSynchronized
  subst hsz
  have hD := hD0
  obtain ⟨H, hHe⟩ : ∃ H : Heap, H = s.heap := ⟨_, rfl⟩
  have hS : va_S (fun _ => False) s.heap H [] := by rw [hHe]; exact va_S.rf
  rw [← hHe] at hP
  have hl := lv_entry ([.ref h0, .int p0, .int p1]) (n := 8) (Nat.le_of_ble_eq_true rfl)
  rw [lg_entry_eq]
  generalize (lg_sl ([.ref h0, .int p0, .int p1]) ++ List.replicate (8 - (lg_sl ([.ref h0, .int p0, .int p1])).length) Slot.unset).toArray = ls at hl ⊢
  have hl : lv_has ls 8 [(0, .ref h0), (1, .int p0), (2, .int p1)] := hl
  rw [← hHe]
  refine lv_aload_n hx hb dX7_changes_0 rfl (lv_at hl 0 rfl) ?_
  refine lv_iload_n hx hb dX7_changes_1 rfl (lv_at hl 1 rfl) ?_
  have hPc := hP.sub (ws' := [(h0, .inr (7, [.ref mnw, .ref mhd, .ref mas, .ref mps, .ref msf, .ref mdt, .ref mhdd, .ref masd, .ref mpsd, .ref msfd, .ref mkp, .int 0, .ref mtp, .int 0, .int 0, .int 0, .int 0, .ref mld, .int 0, .ref mmd, .ref men, .ref mil, .ref mqu, .int 0, .int 0, .ref mbx])), (mnw, .inl (kI, 99, .inl (fun _ => 0)))]) [0, 1] rfl
  have hDc := hD.sub (ws' := [(h0, .inr (7, [.ref mnw, .ref mhd, .ref mas, .ref mps, .ref msf, .ref mdt, .ref mhdd, .ref masd, .ref mpsd, .ref msfd, .ref mkp, .int 0, .ref mtp, .int 0, .int 0, .int 0, .int 0, .ref mld, .int 0, .ref mmd, .ref men, .ref mil, .ref mqu, .int 0, .int 0, .ref mbx])), (mnw, .inl (kI, 99, .inl (fun _ => 0)))]) [0, 1] (by decide) rfl
  have hKc := hK.sub (tys' := [(kI, .int)]) [0] rfl
  refine ro_i (va_runV (As := [.int p0]) (rest := []) ⟨hx, hb, hml, hown, hts⟩ (c_X7_isMask l dC dI h0 mnw mhd mas mps msf mdt mhdd masd mpsd msfd mkp mtp mld mmd men mil mqu mbx kI H.size p0 ) (cwV 1 hts (gV pq1364 pq1366 pq31 pq81 pq1367) rfl rfl rfl (by decide +kernel) ⟨(Nat.le_of_ble_eq_true rfl), (Nat.le_of_ble_eq_true rfl)⟩) (pc_V hPc hDc hKc hN (va_recv hK hP (ci := 7) (q0 := 0) rfl rfl)) rfl rfl hl.1 rfl (lv_room (Nat.le_of_ble_eq_true rfl)) dX7_changes_2 ⟨(Nat.le_of_ble_eq_true rfl), (Nat.le_of_ble_eq_true rfl)⟩) hS hP (fun r1 H locs hr1 hP hS => ?_)
  subst hr1
  refine lv_if_ne (tgt := 10) hx hb dX7_changes_5 (by decide) (fun c2 => absurd (by decide +kernel) c2) (fun c2 => ?_)
  refine lv_iconst (v := (-1)) hx hb dX7_changes_8 (by decide +kernel) ?_
  exact W.iret (v := (-1)) hx hb hr (fun t ht hW => ⟨⟨(-1), (), rfl, rfl, trivial⟩, hS.F ht⟩) hS.2.2 dX7_changes_9

set_option maxHeartbeats 4000000 in
set_option maxRecDepth 100000 in
theorem c_X7_place (l : Launch) (dC : Nat → ClassId) (dI : Nat → Nat → Nat) (h0 mnw mhd mas mps msf mdt mhdd masd mpsd msfd mkp mtp mld mmd men mil mqu mbx : Nat) (kI : ClassId) (sz : Nat) (p0 : Int32) (p1 : Int32) (p2 : Int32) : Met l yX7_place (.code yX7_place cX7_place 4 (some .int) :: pw) ({ frames := 2, cells := 0, slots := 0, locals := 46 }) (pc (dC, dI) [.ref h0, .int p0, .int p1, .int p2] sz [(h0, .inr (7, [.ref mnw, .ref mhd, .ref mas, .ref mps, .ref msf, .ref mdt, .ref mhdd, .ref masd, .ref mpsd, .ref msfd, .ref mkp, .int 0, .ref mtp, .int 0, .int 0, .int 0, .int 0, .ref mld, .int 0, .ref mmd, .ref men, .ref mil, .ref mqu, .int 0, .int 0, .ref mbx])), (mnw, .inl (kI, 99, .inl (fun _ => 0)))] [(kI, .int)]) (va_Qi (fun (r : Int32) (_ : Unit) => r = (-1)) (fun _ _ => True) (fun _ => False)) 0 0 (fun _ => False) := by
  refine Met.ofW (cc := cX7_place) (maxL := 4) (ret := (some .int)) (by decide +kernel) rfl ?_
  intro p e s m args below meth c s₁ B hml hv
  obtain ⟨rfl, hsz, hP, hK, hD0, hN⟩ := hv
  have hx := B.exec
  have hb := B.bytes
  have hr := B.returns
  have hts := fun w (h : w ∈ pw) => atoms_spec (ws := Cond.code yX7_place cX7_place 4 (some .int) :: pw) B.pre w (List.mem_cons_of_mem _ h)
  have hown : s.vm.findClass RX7 = some m.cls := findClass_of_methodNamed B.named
  have hlocks := B.notSynchronized
  subst hsz
  have hD := hD0
  obtain ⟨H, hHe⟩ : ∃ H : Heap, H = s.heap := ⟨_, rfl⟩
  have hS : va_S (fun _ => False) s.heap H [] := by rw [hHe]; exact va_S.rf
  rw [← hHe] at hP
  have hl := lv_entry ([.ref h0, .int p0, .int p1, .int p2]) (n := 4) (Nat.le_of_ble_eq_true rfl)
  rw [lg_entry_eq]
  generalize (lg_sl ([.ref h0, .int p0, .int p1, .int p2]) ++ List.replicate (4 - (lg_sl ([.ref h0, .int p0, .int p1, .int p2])).length) Slot.unset).toArray = ls at hl ⊢
  have hl : lv_has ls 4 [(0, .ref h0), (1, .int p0), (2, .int p1), (3, .int p2)] := hl
  rw [← hHe]
  refine lv_aload_n hx hb dX7_place_0 rfl (lv_at hl 0 rfl) ?_
  refine lv_iload_n hx hb dX7_place_1 rfl (lv_at hl 1 rfl) ?_
  have hPc := hP.sub (ws' := [(h0, .inr (7, [.ref mnw, .ref mhd, .ref mas, .ref mps, .ref msf, .ref mdt, .ref mhdd, .ref masd, .ref mpsd, .ref msfd, .ref mkp, .int 0, .ref mtp, .int 0, .int 0, .int 0, .int 0, .ref mld, .int 0, .ref mmd, .ref men, .ref mil, .ref mqu, .int 0, .int 0, .ref mbx])), (mnw, .inl (kI, 99, .inl (fun _ => 0)))]) [0, 1] rfl
  have hDc := hD.sub (ws' := [(h0, .inr (7, [.ref mnw, .ref mhd, .ref mas, .ref mps, .ref msf, .ref mdt, .ref mhdd, .ref masd, .ref mpsd, .ref msfd, .ref mkp, .int 0, .ref mtp, .int 0, .int 0, .int 0, .int 0, .ref mld, .int 0, .ref mmd, .ref men, .ref mil, .ref mqu, .int 0, .int 0, .ref mbx])), (mnw, .inl (kI, 99, .inl (fun _ => 0)))]) [0, 1] (by decide) rfl
  have hKc := hK.sub (tys' := [(kI, .int)]) [0] rfl
  refine ro_i (va_runV (As := [.int p0]) (rest := []) ⟨hx, hb, hml, hown, hts⟩ (c_X7_isBody l dC dI h0 mnw mhd mas mps msf mdt mhdd masd mpsd msfd mkp mtp mld mmd men mil mqu mbx kI H.size p0 ) (cwV 1 hts (gV pq1310 pq1312 pq23 pq81 pq1313) rfl rfl rfl (by decide +kernel) ⟨(Nat.le_of_ble_eq_true rfl), (Nat.le_of_ble_eq_true rfl)⟩) (pc_V hPc hDc hKc hN (va_recv hK hP (ci := 7) (q0 := 0) rfl rfl)) rfl rfl hl.1 rfl (lv_room (Nat.le_of_ble_eq_true rfl)) dX7_place_2 ⟨(Nat.le_of_ble_eq_true rfl), (Nat.le_of_ble_eq_true rfl)⟩) hS hP (fun r1 H locs hr1 hP hS => ?_)
  subst hr1
  refine lv_if_eq (tgt := 17) hx hb dX7_place_5 (by decide) (fun c2 => ?_) (fun c2 => absurd (by decide +kernel) c2)
  refine lv_iconst (v := (-1)) hx hb dX7_place_17 (by decide +kernel) ?_
  exact W.iret (v := (-1)) hx hb hr (fun t ht hW => ⟨⟨(-1), (), rfl, rfl, trivial⟩, hS.F ht⟩) hS.2.2 dX7_place_18

set_option maxHeartbeats 4000000 in
set_option maxRecDepth 100000 in
theorem c_X7_flip (l : Launch) (dC : Nat → ClassId) (dI : Nat → Nat → Nat) (h0 mnw mhd mas mps msf mdt mhdd masd mpsd msfd mkp mtp mld mmd men mil mqu mbx : Nat) (kI : ClassId) (sz : Nat) (p0 : Int32) (p1 : Int32) : Met l yX7_flip (.code yX7_flip cX7_flip 4 (some .int) :: pw) ({ frames := 2, cells := 0, slots := 0, locals := 46 }) (pc (dC, dI) [.ref h0, .int p0, .int p1] sz [(h0, .inr (7, [.ref mnw, .ref mhd, .ref mas, .ref mps, .ref msf, .ref mdt, .ref mhdd, .ref masd, .ref mpsd, .ref msfd, .ref mkp, .int 0, .ref mtp, .int 0, .int 0, .int 0, .int 0, .ref mld, .int 0, .ref mmd, .ref men, .ref mil, .ref mqu, .int 0, .int 0, .ref mbx])), (mnw, .inl (kI, 99, .inl (fun _ => 0)))] [(kI, .int)]) (va_Qi (fun (r : Int32) (_ : Unit) => r = (-1)) (fun _ _ => True) (fun _ => False)) 0 0 (fun _ => False) := by
  refine Met.ofW (cc := cX7_flip) (maxL := 4) (ret := (some .int)) (by decide +kernel) rfl ?_
  intro p e s m args below meth c s₁ B hml hv
  obtain ⟨rfl, hsz, hP, hK, hD0, hN⟩ := hv
  have hx := B.exec
  have hb := B.bytes
  have hr := B.returns
  have hts := fun w (h : w ∈ pw) => atoms_spec (ws := Cond.code yX7_flip cX7_flip 4 (some .int) :: pw) B.pre w (List.mem_cons_of_mem _ h)
  have hown : s.vm.findClass RX7 = some m.cls := findClass_of_methodNamed B.named
  have hlocks := B.notSynchronized
  subst hsz
  have hD := hD0
  obtain ⟨H, hHe⟩ : ∃ H : Heap, H = s.heap := ⟨_, rfl⟩
  have hS : va_S (fun _ => False) s.heap H [] := by rw [hHe]; exact va_S.rf
  rw [← hHe] at hP
  have hl := lv_entry ([.ref h0, .int p0, .int p1]) (n := 4) (Nat.le_of_ble_eq_true rfl)
  rw [lg_entry_eq]
  generalize (lg_sl ([.ref h0, .int p0, .int p1]) ++ List.replicate (4 - (lg_sl ([.ref h0, .int p0, .int p1])).length) Slot.unset).toArray = ls at hl ⊢
  have hl : lv_has ls 4 [(0, .ref h0), (1, .int p0), (2, .int p1)] := hl
  rw [← hHe]
  refine lv_aload_n hx hb dX7_flip_0 rfl (lv_at hl 0 rfl) ?_
  refine lv_iload_n hx hb dX7_flip_1 rfl (lv_at hl 1 rfl) ?_
  have hPc := hP.sub (ws' := [(h0, .inr (7, [.ref mnw, .ref mhd, .ref mas, .ref mps, .ref msf, .ref mdt, .ref mhdd, .ref masd, .ref mpsd, .ref msfd, .ref mkp, .int 0, .ref mtp, .int 0, .int 0, .int 0, .int 0, .ref mld, .int 0, .ref mmd, .ref men, .ref mil, .ref mqu, .int 0, .int 0, .ref mbx])), (mnw, .inl (kI, 99, .inl (fun _ => 0)))]) [0, 1] rfl
  have hDc := hD.sub (ws' := [(h0, .inr (7, [.ref mnw, .ref mhd, .ref mas, .ref mps, .ref msf, .ref mdt, .ref mhdd, .ref masd, .ref mpsd, .ref msfd, .ref mkp, .int 0, .ref mtp, .int 0, .int 0, .int 0, .int 0, .ref mld, .int 0, .ref mmd, .ref men, .ref mil, .ref mqu, .int 0, .int 0, .ref mbx])), (mnw, .inl (kI, 99, .inl (fun _ => 0)))]) [0, 1] (by decide) rfl
  have hKc := hK.sub (tys' := [(kI, .int)]) [0] rfl
  refine ro_i (va_runV (As := [.int p0]) (rest := []) ⟨hx, hb, hml, hown, hts⟩ (c_X7_isBody l dC dI h0 mnw mhd mas mps msf mdt mhdd masd mpsd msfd mkp mtp mld mmd men mil mqu mbx kI H.size p0 ) (cwV 1 hts (gV pq1310 pq1312 pq23 pq81 pq1313) rfl rfl rfl (by decide +kernel) ⟨(Nat.le_of_ble_eq_true rfl), (Nat.le_of_ble_eq_true rfl)⟩) (pc_V hPc hDc hKc hN (va_recv hK hP (ci := 7) (q0 := 0) rfl rfl)) rfl rfl hl.1 rfl (lv_room (Nat.le_of_ble_eq_true rfl)) dX7_flip_2 ⟨(Nat.le_of_ble_eq_true rfl), (Nat.le_of_ble_eq_true rfl)⟩) hS hP (fun r1 H locs hr1 hP hS => ?_)
  subst hr1
  refine lv_if_eq (tgt := 20) hx hb dX7_flip_5 (by decide) (fun c2 => ?_) (fun c2 => absurd (by decide +kernel) c2)
  refine lv_iconst (v := (-1)) hx hb dX7_flip_20 (by decide +kernel) ?_
  exact W.iret (v := (-1)) hx hb hr (fun t ht hW => ⟨⟨(-1), (), rfl, rfl, trivial⟩, hS.F ht⟩) hS.2.2 dX7_flip_21

set_option maxHeartbeats 4000000 in
set_option maxRecDepth 100000 in
theorem c_X7_layers (l : Launch) (dC : Nat → ClassId) (dI : Nat → Nat → Nat) (h0 mnw mhd mas mps msf mdt mhdd masd mpsd msfd mkp mtp mld mmd men mil mqu mbx : Nat) (kI : ClassId) (sz : Nat) (p0 : Int32) (p1 : Int32) (p2 : Int32) : Met l yX7_layers (.code yX7_layers cX7_layers 4 (some .int) :: pw) ({ frames := 2, cells := 0, slots := 0, locals := 46 }) (pc (dC, dI) [.ref h0, .int p0, .int p1, .int p2] sz [(h0, .inr (7, [.ref mnw, .ref mhd, .ref mas, .ref mps, .ref msf, .ref mdt, .ref mhdd, .ref masd, .ref mpsd, .ref msfd, .ref mkp, .int 0, .ref mtp, .int 0, .int 0, .int 0, .int 0, .ref mld, .int 0, .ref mmd, .ref men, .ref mil, .ref mqu, .int 0, .int 0, .ref mbx])), (mnw, .inl (kI, 99, .inl (fun _ => 0)))] [(kI, .int)]) (va_Qi (fun (r : Int32) (_ : Unit) => r = (-1)) (fun _ _ => True) (fun _ => False)) 0 0 (fun _ => False) := by
  refine Met.ofW (cc := cX7_layers) (maxL := 4) (ret := (some .int)) (by decide +kernel) rfl ?_
  intro p e s m args below meth c s₁ B hml hv
  obtain ⟨rfl, hsz, hP, hK, hD0, hN⟩ := hv
  have hx := B.exec
  have hb := B.bytes
  have hr := B.returns
  have hts := fun w (h : w ∈ pw) => atoms_spec (ws := Cond.code yX7_layers cX7_layers 4 (some .int) :: pw) B.pre w (List.mem_cons_of_mem _ h)
  have hown : s.vm.findClass RX7 = some m.cls := findClass_of_methodNamed B.named
  have hlocks := B.notSynchronized
  subst hsz
  have hD := hD0
  obtain ⟨H, hHe⟩ : ∃ H : Heap, H = s.heap := ⟨_, rfl⟩
  have hS : va_S (fun _ => False) s.heap H [] := by rw [hHe]; exact va_S.rf
  rw [← hHe] at hP
  have hl := lv_entry ([.ref h0, .int p0, .int p1, .int p2]) (n := 4) (Nat.le_of_ble_eq_true rfl)
  rw [lg_entry_eq]
  generalize (lg_sl ([.ref h0, .int p0, .int p1, .int p2]) ++ List.replicate (4 - (lg_sl ([.ref h0, .int p0, .int p1, .int p2])).length) Slot.unset).toArray = ls at hl ⊢
  have hl : lv_has ls 4 [(0, .ref h0), (1, .int p0), (2, .int p1), (3, .int p2)] := hl
  rw [← hHe]
  refine lv_aload_n hx hb dX7_layers_0 rfl (lv_at hl 0 rfl) ?_
  refine lv_iload_n hx hb dX7_layers_1 rfl (lv_at hl 1 rfl) ?_
  have hPc := hP.sub (ws' := [(h0, .inr (7, [.ref mnw, .ref mhd, .ref mas, .ref mps, .ref msf, .ref mdt, .ref mhdd, .ref masd, .ref mpsd, .ref msfd, .ref mkp, .int 0, .ref mtp, .int 0, .int 0, .int 0, .int 0, .ref mld, .int 0, .ref mmd, .ref men, .ref mil, .ref mqu, .int 0, .int 0, .ref mbx])), (mnw, .inl (kI, 99, .inl (fun _ => 0)))]) [0, 1] rfl
  have hDc := hD.sub (ws' := [(h0, .inr (7, [.ref mnw, .ref mhd, .ref mas, .ref mps, .ref msf, .ref mdt, .ref mhdd, .ref masd, .ref mpsd, .ref msfd, .ref mkp, .int 0, .ref mtp, .int 0, .int 0, .int 0, .int 0, .ref mld, .int 0, .ref mmd, .ref men, .ref mil, .ref mqu, .int 0, .int 0, .ref mbx])), (mnw, .inl (kI, 99, .inl (fun _ => 0)))]) [0, 1] (by decide) rfl
  have hKc := hK.sub (tys' := [(kI, .int)]) [0] rfl
  refine ro_i (va_runV (As := [.int p0]) (rest := []) ⟨hx, hb, hml, hown, hts⟩ (c_X7_isBody l dC dI h0 mnw mhd mas mps msf mdt mhdd masd mpsd msfd mkp mtp mld mmd men mil mqu mbx kI H.size p0 ) (cwV 1 hts (gV pq1310 pq1312 pq23 pq81 pq1313) rfl rfl rfl (by decide +kernel) ⟨(Nat.le_of_ble_eq_true rfl), (Nat.le_of_ble_eq_true rfl)⟩) (pc_V hPc hDc hKc hN (va_recv hK hP (ci := 7) (q0 := 0) rfl rfl)) rfl rfl hl.1 rfl (lv_room (Nat.le_of_ble_eq_true rfl)) dX7_layers_2 ⟨(Nat.le_of_ble_eq_true rfl), (Nat.le_of_ble_eq_true rfl)⟩) hS hP (fun r1 H locs hr1 hP hS => ?_)
  subst hr1
  refine lv_if_eq (tgt := 43) hx hb dX7_layers_5 (by decide) (fun c2 => ?_) (fun c2 => absurd (by decide +kernel) c2)
  refine lv_iconst (v := (-1)) hx hb dX7_layers_43 (by decide +kernel) ?_
  exact W.iret (v := (-1)) hx hb hr (fun t ht hW => ⟨⟨(-1), (), rfl, rfl, trivial⟩, hS.F ht⟩) hS.2.2 dX7_layers_44

set_option maxHeartbeats 4000000 in
set_option maxRecDepth 100000 in
theorem c_X7_speed (l : Launch) (dC : Nat → ClassId) (dI : Nat → Nat → Nat) (h0 mnw mhd mas mps msf mdt mhdd masd mpsd msfd mkp mtp mld mmd men mil mqu mbx : Nat) (kI : ClassId) (sz : Nat) (p0 : Int32) (p1 : Int32) (p2 : Int32) : Met l yX7_speed (.code yX7_speed cX7_speed 4 (some .int) :: pw) ({ frames := 2, cells := 0, slots := 0, locals := 46 }) (pc (dC, dI) [.ref h0, .int p0, .int p1, .int p2] sz [(h0, .inr (7, [.ref mnw, .ref mhd, .ref mas, .ref mps, .ref msf, .ref mdt, .ref mhdd, .ref masd, .ref mpsd, .ref msfd, .ref mkp, .int 0, .ref mtp, .int 0, .int 0, .int 0, .int 0, .ref mld, .int 0, .ref mmd, .ref men, .ref mil, .ref mqu, .int 0, .int 0, .ref mbx])), (mnw, .inl (kI, 99, .inl (fun _ => 0)))] [(kI, .int)]) (va_Qi (fun (r : Int32) (_ : Unit) => r = (-1)) (fun _ _ => True) (fun _ => False)) 0 0 (fun _ => False) := by
  refine Met.ofW (cc := cX7_speed) (maxL := 4) (ret := (some .int)) (by decide +kernel) rfl ?_
  intro p e s m args below meth c s₁ B hml hv
  obtain ⟨rfl, hsz, hP, hK, hD0, hN⟩ := hv
  have hx := B.exec
  have hb := B.bytes
  have hr := B.returns
  have hts := fun w (h : w ∈ pw) => atoms_spec (ws := Cond.code yX7_speed cX7_speed 4 (some .int) :: pw) B.pre w (List.mem_cons_of_mem _ h)
  have hown : s.vm.findClass RX7 = some m.cls := findClass_of_methodNamed B.named
  have hlocks := B.notSynchronized
  subst hsz
  have hD := hD0
  obtain ⟨H, hHe⟩ : ∃ H : Heap, H = s.heap := ⟨_, rfl⟩
  have hS : va_S (fun _ => False) s.heap H [] := by rw [hHe]; exact va_S.rf
  rw [← hHe] at hP
  have hl := lv_entry ([.ref h0, .int p0, .int p1, .int p2]) (n := 4) (Nat.le_of_ble_eq_true rfl)
  rw [lg_entry_eq]
  generalize (lg_sl ([.ref h0, .int p0, .int p1, .int p2]) ++ List.replicate (4 - (lg_sl ([.ref h0, .int p0, .int p1, .int p2])).length) Slot.unset).toArray = ls at hl ⊢
  have hl : lv_has ls 4 [(0, .ref h0), (1, .int p0), (2, .int p1), (3, .int p2)] := hl
  rw [← hHe]
  refine lv_aload_n hx hb dX7_speed_0 rfl (lv_at hl 0 rfl) ?_
  refine lv_iload_n hx hb dX7_speed_1 rfl (lv_at hl 1 rfl) ?_
  have hPc := hP.sub (ws' := [(h0, .inr (7, [.ref mnw, .ref mhd, .ref mas, .ref mps, .ref msf, .ref mdt, .ref mhdd, .ref masd, .ref mpsd, .ref msfd, .ref mkp, .int 0, .ref mtp, .int 0, .int 0, .int 0, .int 0, .ref mld, .int 0, .ref mmd, .ref men, .ref mil, .ref mqu, .int 0, .int 0, .ref mbx])), (mnw, .inl (kI, 99, .inl (fun _ => 0)))]) [0, 1] rfl
  have hDc := hD.sub (ws' := [(h0, .inr (7, [.ref mnw, .ref mhd, .ref mas, .ref mps, .ref msf, .ref mdt, .ref mhdd, .ref masd, .ref mpsd, .ref msfd, .ref mkp, .int 0, .ref mtp, .int 0, .int 0, .int 0, .int 0, .ref mld, .int 0, .ref mmd, .ref men, .ref mil, .ref mqu, .int 0, .int 0, .ref mbx])), (mnw, .inl (kI, 99, .inl (fun _ => 0)))]) [0, 1] (by decide) rfl
  have hKc := hK.sub (tys' := [(kI, .int)]) [0] rfl
  refine ro_i (va_runV (As := [.int p0]) (rest := []) ⟨hx, hb, hml, hown, hts⟩ (c_X7_isBody l dC dI h0 mnw mhd mas mps msf mdt mhdd masd mpsd msfd mkp mtp mld mmd men mil mqu mbx kI H.size p0 ) (cwV 1 hts (gV pq1310 pq1312 pq23 pq81 pq1313) rfl rfl rfl (by decide +kernel) ⟨(Nat.le_of_ble_eq_true rfl), (Nat.le_of_ble_eq_true rfl)⟩) (pc_V hPc hDc hKc hN (va_recv hK hP (ci := 7) (q0 := 0) rfl rfl)) rfl rfl hl.1 rfl (lv_room (Nat.le_of_ble_eq_true rfl)) dX7_speed_2 ⟨(Nat.le_of_ble_eq_true rfl), (Nat.le_of_ble_eq_true rfl)⟩) hS hP (fun r1 H locs hr1 hP hS => ?_)
  subst hr1
  refine lv_if_eq (tgt := 48) hx hb dX7_speed_5 (by decide) (fun c2 => ?_) (fun c2 => absurd (by decide +kernel) c2)
  refine lv_iconst (v := (-1)) hx hb dX7_speed_48 (by decide +kernel) ?_
  exact W.iret (v := (-1)) hx hb hr (fun t ht hW => ⟨⟨(-1), (), rfl, rfl, trivial⟩, hS.F ht⟩) hS.2.2 dX7_speed_49

set_option maxHeartbeats 4000000 in
set_option maxRecDepth 100000 in
theorem c_X7_turn (l : Launch) (dC : Nat → ClassId) (dI : Nat → Nat → Nat) (h0 mnw mhd mas mps msf mdt mhdd masd mpsd msfd mkp mtp mld mmd men mil mqu mbx : Nat) (kI : ClassId) (sz : Nat) (p0 : Int32) (p1 : Int32) (p2 : Int32) : Met l yX7_turn (.code yX7_turn cX7_turn 4 (some .int) :: pw) ({ frames := 2, cells := 0, slots := 0, locals := 46 }) (pc (dC, dI) [.ref h0, .int p0, .int p1, .int p2] sz [(h0, .inr (7, [.ref mnw, .ref mhd, .ref mas, .ref mps, .ref msf, .ref mdt, .ref mhdd, .ref masd, .ref mpsd, .ref msfd, .ref mkp, .int 0, .ref mtp, .int 0, .int 0, .int 0, .int 0, .ref mld, .int 0, .ref mmd, .ref men, .ref mil, .ref mqu, .int 0, .int 0, .ref mbx])), (mnw, .inl (kI, 99, .inl (fun _ => 0)))] [(kI, .int)]) (va_Qi (fun (r : Int32) (_ : Unit) => r = (-1)) (fun _ _ => True) (fun _ => False)) 0 0 (fun _ => False) := by
  refine Met.ofW (cc := cX7_turn) (maxL := 4) (ret := (some .int)) (by decide +kernel) rfl ?_
  intro p e s m args below meth c s₁ B hml hv
  obtain ⟨rfl, hsz, hP, hK, hD0, hN⟩ := hv
  have hx := B.exec
  have hb := B.bytes
  have hr := B.returns
  have hts := fun w (h : w ∈ pw) => atoms_spec (ws := Cond.code yX7_turn cX7_turn 4 (some .int) :: pw) B.pre w (List.mem_cons_of_mem _ h)
  have hown : s.vm.findClass RX7 = some m.cls := findClass_of_methodNamed B.named
  have hlocks := B.notSynchronized
  subst hsz
  have hD := hD0
  obtain ⟨H, hHe⟩ : ∃ H : Heap, H = s.heap := ⟨_, rfl⟩
  have hS : va_S (fun _ => False) s.heap H [] := by rw [hHe]; exact va_S.rf
  rw [← hHe] at hP
  have hl := lv_entry ([.ref h0, .int p0, .int p1, .int p2]) (n := 4) (Nat.le_of_ble_eq_true rfl)
  rw [lg_entry_eq]
  generalize (lg_sl ([.ref h0, .int p0, .int p1, .int p2]) ++ List.replicate (4 - (lg_sl ([.ref h0, .int p0, .int p1, .int p2])).length) Slot.unset).toArray = ls at hl ⊢
  have hl : lv_has ls 4 [(0, .ref h0), (1, .int p0), (2, .int p1), (3, .int p2)] := hl
  rw [← hHe]
  refine lv_aload_n hx hb dX7_turn_0 rfl (lv_at hl 0 rfl) ?_
  refine lv_iload_n hx hb dX7_turn_1 rfl (lv_at hl 1 rfl) ?_
  have hPc := hP.sub (ws' := [(h0, .inr (7, [.ref mnw, .ref mhd, .ref mas, .ref mps, .ref msf, .ref mdt, .ref mhdd, .ref masd, .ref mpsd, .ref msfd, .ref mkp, .int 0, .ref mtp, .int 0, .int 0, .int 0, .int 0, .ref mld, .int 0, .ref mmd, .ref men, .ref mil, .ref mqu, .int 0, .int 0, .ref mbx])), (mnw, .inl (kI, 99, .inl (fun _ => 0)))]) [0, 1] rfl
  have hDc := hD.sub (ws' := [(h0, .inr (7, [.ref mnw, .ref mhd, .ref mas, .ref mps, .ref msf, .ref mdt, .ref mhdd, .ref masd, .ref mpsd, .ref msfd, .ref mkp, .int 0, .ref mtp, .int 0, .int 0, .int 0, .int 0, .ref mld, .int 0, .ref mmd, .ref men, .ref mil, .ref mqu, .int 0, .int 0, .ref mbx])), (mnw, .inl (kI, 99, .inl (fun _ => 0)))]) [0, 1] (by decide) rfl
  have hKc := hK.sub (tys' := [(kI, .int)]) [0] rfl
  refine ro_i (va_runV (As := [.int p0]) (rest := []) ⟨hx, hb, hml, hown, hts⟩ (c_X7_isMask l dC dI h0 mnw mhd mas mps msf mdt mhdd masd mpsd msfd mkp mtp mld mmd men mil mqu mbx kI H.size p0 ) (cwV 1 hts (gV pq1364 pq1366 pq31 pq81 pq1367) rfl rfl rfl (by decide +kernel) ⟨(Nat.le_of_ble_eq_true rfl), (Nat.le_of_ble_eq_true rfl)⟩) (pc_V hPc hDc hKc hN (va_recv hK hP (ci := 7) (q0 := 0) rfl rfl)) rfl rfl hl.1 rfl (lv_room (Nat.le_of_ble_eq_true rfl)) dX7_turn_2 ⟨(Nat.le_of_ble_eq_true rfl), (Nat.le_of_ble_eq_true rfl)⟩) hS hP (fun r1 H locs hr1 hP hS => ?_)
  subst hr1
  refine lv_if_eq (tgt := 42) hx hb dX7_turn_5 (by decide) (fun c2 => ?_) (fun c2 => absurd (by decide +kernel) c2)
  refine lv_iconst (v := (-1)) hx hb dX7_turn_42 (by decide +kernel) ?_
  exact W.iret (v := (-1)) hx hb hr (fun t ht hW => ⟨⟨(-1), (), rfl, rfl, trivial⟩, hS.F ht⟩) hS.2.2 dX7_turn_43

set_option maxHeartbeats 4000000 in
set_option maxRecDepth 100000 in
theorem c_X7_grow (l : Launch) (dC : Nat → ClassId) (dI : Nat → Nat → Nat) (h0 mnw mhd mas mps msf mdt mhdd masd mpsd msfd mkp mtp mld mmd men mil mqu mbx : Nat) (kI : ClassId) (sz : Nat) (p0 : Int32) : Met l yX7_grow (.code yX7_grow cX7_grow 2 (some .int) :: pw) ({ frames := 3, cells := 0, slots := 0, locals := 73 }) (pc (dC, dI) [.ref h0, .int p0] sz [(h0, .inr (7, [.ref mnw, .ref mhd, .ref mas, .ref mps, .ref msf, .ref mdt, .ref mhdd, .ref masd, .ref mpsd, .ref msfd, .ref mkp, .int 0, .ref mtp, .int 0, .int 0, .int 0, .int 0, .ref mld, .int 0, .ref mmd, .ref men, .ref mil, .ref mqu, .int 0, .int 0, .ref mbx])), (mnw, .inl (kI, 99, .inl (fun _ => 0)))] [(kI, .int)]) (va_Qi (fun (r : Int32) (_ : Unit) => r = (-1)) (fun _ _ => True) (fun _ => False)) 0 0 (fun _ => False) := by
  refine Met.ofW (cc := cX7_grow) (maxL := 2) (ret := (some .int)) (by decide +kernel) rfl ?_
  intro p e s m args below meth c s₁ B hml hv
  obtain ⟨rfl, hsz, hP, hK, hD0, hN⟩ := hv
  have hx := B.exec
  have hb := B.bytes
  have hr := B.returns
  have hts := fun w (h : w ∈ pw) => atoms_spec (ws := Cond.code yX7_grow cX7_grow 2 (some .int) :: pw) B.pre w (List.mem_cons_of_mem _ h)
  have hown : s.vm.findClass RX7 = some m.cls := findClass_of_methodNamed B.named
  have hlocks := B.notSynchronized
  subst hsz
  have hD := hD0
  obtain ⟨H, hHe⟩ : ∃ H : Heap, H = s.heap := ⟨_, rfl⟩
  have hS : va_S (fun _ => False) s.heap H [] := by rw [hHe]; exact va_S.rf
  rw [← hHe] at hP
  have hl := lv_entry ([.ref h0, .int p0]) (n := 2) (Nat.le_of_ble_eq_true rfl)
  rw [lg_entry_eq]
  generalize (lg_sl ([.ref h0, .int p0]) ++ List.replicate (2 - (lg_sl ([.ref h0, .int p0])).length) Slot.unset).toArray = ls at hl ⊢
  have hl : lv_has ls 2 [(0, .ref h0), (1, .int p0)] := hl
  rw [← hHe]
  refine lv_aload_n hx hb dX7_grow_0 rfl (lv_at hl 0 rfl) ?_
  refine lv_iload_n hx hb dX7_grow_1 rfl (lv_at hl 1 rfl) ?_
  refine lv_iconst (v := 1) hx hb dX7_grow_2 (by decide +kernel) ?_
  have hPc := hP.sub (ws' := [(h0, .inr (7, [.ref mnw, .ref mhd, .ref mas, .ref mps, .ref msf, .ref mdt, .ref mhdd, .ref masd, .ref mpsd, .ref msfd, .ref mkp, .int 0, .ref mtp, .int 0, .int 0, .int 0, .int 0, .ref mld, .int 0, .ref mmd, .ref men, .ref mil, .ref mqu, .int 0, .int 0, .ref mbx])), (mnw, .inl (kI, 99, .inl (fun _ => 0)))]) [0, 1] rfl
  have hDc := hD.sub (ws' := [(h0, .inr (7, [.ref mnw, .ref mhd, .ref mas, .ref mps, .ref msf, .ref mdt, .ref mhdd, .ref masd, .ref mpsd, .ref msfd, .ref mkp, .int 0, .ref mtp, .int 0, .int 0, .int 0, .int 0, .ref mld, .int 0, .ref mmd, .ref men, .ref mil, .ref mqu, .int 0, .int 0, .ref mbx])), (mnw, .inl (kI, 99, .inl (fun _ => 0)))]) [0, 1] (by decide) rfl
  have hKc := hK.sub (tys' := [(kI, .int)]) [0] rfl
  refine ro_i (va_runV (As := [.int p0, .int 1]) (rest := []) ⟨hx, hb, hml, hown, hts⟩ (c_X7_changes l dC dI h0 mnw mhd mas mps msf mdt mhdd masd mpsd msfd mkp mtp mld mmd men mil mqu mbx kI H.size p0 1 ) (cwV 2 hts (gV pq1387 pq1389 pq35 pq81 pq1390) rfl rfl rfl (by decide +kernel) ⟨(Nat.le_of_ble_eq_true rfl), (Nat.le_of_ble_eq_true rfl)⟩) (pc_V hPc hDc hKc hN (va_recv hK hP (ci := 7) (q0 := 0) rfl rfl)) rfl rfl hl.1 rfl (lv_room (Nat.le_of_ble_eq_true rfl)) dX7_grow_3 ⟨(Nat.le_of_ble_eq_true rfl), (Nat.le_of_ble_eq_true rfl)⟩) hS hP (fun r1 H locs hr1 hP hS => ?_)
  subst hr1
  exact W.iret (v := (-1)) hx hb hr (fun t ht hW => ⟨⟨(-1), (), rfl, rfl, trivial⟩, hS.F ht⟩) hS.2.2 dX7_grow_6

set_option maxHeartbeats 4000000 in
set_option maxRecDepth 100000 in
theorem c_X7_thin (l : Launch) (dC : Nat → ClassId) (dI : Nat → Nat → Nat) (h0 mnw mhd mas mps msf mdt mhdd masd mpsd msfd mkp mtp mld mmd men mil mqu mbx : Nat) (kI : ClassId) (sz : Nat) (p0 : Int32) : Met l yX7_thin (.code yX7_thin cX7_thin 2 (some .int) :: pw) ({ frames := 3, cells := 0, slots := 0, locals := 73 }) (pc (dC, dI) [.ref h0, .int p0] sz [(h0, .inr (7, [.ref mnw, .ref mhd, .ref mas, .ref mps, .ref msf, .ref mdt, .ref mhdd, .ref masd, .ref mpsd, .ref msfd, .ref mkp, .int 0, .ref mtp, .int 0, .int 0, .int 0, .int 0, .ref mld, .int 0, .ref mmd, .ref men, .ref mil, .ref mqu, .int 0, .int 0, .ref mbx])), (mnw, .inl (kI, 99, .inl (fun _ => 0)))] [(kI, .int)]) (va_Qi (fun (r : Int32) (_ : Unit) => r = (-1)) (fun _ _ => True) (fun _ => False)) 0 0 (fun _ => False) := by
  refine Met.ofW (cc := cX7_thin) (maxL := 2) (ret := (some .int)) (by decide +kernel) rfl ?_
  intro p e s m args below meth c s₁ B hml hv
  obtain ⟨rfl, hsz, hP, hK, hD0, hN⟩ := hv
  have hx := B.exec
  have hb := B.bytes
  have hr := B.returns
  have hts := fun w (h : w ∈ pw) => atoms_spec (ws := Cond.code yX7_thin cX7_thin 2 (some .int) :: pw) B.pre w (List.mem_cons_of_mem _ h)
  have hown : s.vm.findClass RX7 = some m.cls := findClass_of_methodNamed B.named
  have hlocks := B.notSynchronized
  subst hsz
  have hD := hD0
  obtain ⟨H, hHe⟩ : ∃ H : Heap, H = s.heap := ⟨_, rfl⟩
  have hS : va_S (fun _ => False) s.heap H [] := by rw [hHe]; exact va_S.rf
  rw [← hHe] at hP
  have hl := lv_entry ([.ref h0, .int p0]) (n := 2) (Nat.le_of_ble_eq_true rfl)
  rw [lg_entry_eq]
  generalize (lg_sl ([.ref h0, .int p0]) ++ List.replicate (2 - (lg_sl ([.ref h0, .int p0])).length) Slot.unset).toArray = ls at hl ⊢
  have hl : lv_has ls 2 [(0, .ref h0), (1, .int p0)] := hl
  rw [← hHe]
  refine lv_aload_n hx hb dX7_thin_0 rfl (lv_at hl 0 rfl) ?_
  refine lv_iload_n hx hb dX7_thin_1 rfl (lv_at hl 1 rfl) ?_
  refine lv_iconst (v := 0) hx hb dX7_thin_2 (by decide +kernel) ?_
  have hPc := hP.sub (ws' := [(h0, .inr (7, [.ref mnw, .ref mhd, .ref mas, .ref mps, .ref msf, .ref mdt, .ref mhdd, .ref masd, .ref mpsd, .ref msfd, .ref mkp, .int 0, .ref mtp, .int 0, .int 0, .int 0, .int 0, .ref mld, .int 0, .ref mmd, .ref men, .ref mil, .ref mqu, .int 0, .int 0, .ref mbx])), (mnw, .inl (kI, 99, .inl (fun _ => 0)))]) [0, 1] rfl
  have hDc := hD.sub (ws' := [(h0, .inr (7, [.ref mnw, .ref mhd, .ref mas, .ref mps, .ref msf, .ref mdt, .ref mhdd, .ref masd, .ref mpsd, .ref msfd, .ref mkp, .int 0, .ref mtp, .int 0, .int 0, .int 0, .int 0, .ref mld, .int 0, .ref mmd, .ref men, .ref mil, .ref mqu, .int 0, .int 0, .ref mbx])), (mnw, .inl (kI, 99, .inl (fun _ => 0)))]) [0, 1] (by decide) rfl
  have hKc := hK.sub (tys' := [(kI, .int)]) [0] rfl
  refine ro_i (va_runV (As := [.int p0, .int 0]) (rest := []) ⟨hx, hb, hml, hown, hts⟩ (c_X7_changes l dC dI h0 mnw mhd mas mps msf mdt mhdd masd mpsd msfd mkp mtp mld mmd men mil mqu mbx kI H.size p0 0 ) (cwV 2 hts (gV pq1387 pq1389 pq35 pq81 pq1390) rfl rfl rfl (by decide +kernel) ⟨(Nat.le_of_ble_eq_true rfl), (Nat.le_of_ble_eq_true rfl)⟩) (pc_V hPc hDc hKc hN (va_recv hK hP (ci := 7) (q0 := 0) rfl rfl)) rfl rfl hl.1 rfl (lv_room (Nat.le_of_ble_eq_true rfl)) dX7_thin_3 ⟨(Nat.le_of_ble_eq_true rfl), (Nat.le_of_ble_eq_true rfl)⟩) hS hP (fun r1 H locs hr1 hP hS => ?_)
  subst hr1
  exact W.iret (v := (-1)) hx hb hr (fun t ht hW => ⟨⟨(-1), (), rfl, rfl, trivial⟩, hS.F ht⟩) hS.2.2 dX7_thin_6

set_option maxHeartbeats 4000000 in
set_option maxRecDepth 100000 in
theorem c_X7_join (l : Launch) (dC : Nat → ClassId) (dI : Nat → Nat → Nat) (h0 mnw mhd mas mps msf mdt mhdd masd mpsd msfd mkp mtp mld mmd men mil mqu mbx : Nat) (kI : ClassId) (sz : Nat) (p0 : Int32) (p1 : Int32) (p2 : Int32) (p3 : Int32) (p4 : Int32) : Met l yX7_join (.code yX7_join cX7_join 11 (some .int) :: pw) ({ frames := 2, cells := 0, slots := 0, locals := 46 }) (pc (dC, dI) [.ref h0, .int p0, .int p1, .int p2, .int p3, .int p4] sz [(h0, .inr (7, [.ref mnw, .ref mhd, .ref mas, .ref mps, .ref msf, .ref mdt, .ref mhdd, .ref masd, .ref mpsd, .ref msfd, .ref mkp, .int 0, .ref mtp, .int 0, .int 0, .int 0, .int 0, .ref mld, .int 0, .ref mmd, .ref men, .ref mil, .ref mqu, .int 0, .int 0, .ref mbx])), (mnw, .inl (kI, 99, .inl (fun _ => 0)))] [(kI, .int)]) (va_Qi (fun (r : Int32) (_ : Unit) => r = (-1)) (fun _ _ => True) (fun _ => False)) 0 0 (fun _ => False) := by
  refine Met.ofW (cc := cX7_join) (maxL := 11) (ret := (some .int)) (by decide +kernel) rfl ?_
  intro p e s m args below meth c s₁ B hml hv
  obtain ⟨rfl, hsz, hP, hK, hD0, hN⟩ := hv
  have hx := B.exec
  have hb := B.bytes
  have hr := B.returns
  have hts := fun w (h : w ∈ pw) => atoms_spec (ws := Cond.code yX7_join cX7_join 11 (some .int) :: pw) B.pre w (List.mem_cons_of_mem _ h)
  have hown : s.vm.findClass RX7 = some m.cls := findClass_of_methodNamed B.named
  have hlocks := B.notSynchronized
  subst hsz
  have hD := hD0
  obtain ⟨H, hHe⟩ : ∃ H : Heap, H = s.heap := ⟨_, rfl⟩
  have hS : va_S (fun _ => False) s.heap H [] := by rw [hHe]; exact va_S.rf
  rw [← hHe] at hP
  have hl := lv_entry ([.ref h0, .int p0, .int p1, .int p2, .int p3, .int p4]) (n := 11) (Nat.le_of_ble_eq_true rfl)
  rw [lg_entry_eq]
  generalize (lg_sl ([.ref h0, .int p0, .int p1, .int p2, .int p3, .int p4]) ++ List.replicate (11 - (lg_sl ([.ref h0, .int p0, .int p1, .int p2, .int p3, .int p4])).length) Slot.unset).toArray = ls at hl ⊢
  have hl : lv_has ls 11 [(0, .ref h0), (1, .int p0), (2, .int p1), (3, .int p2), (4, .int p3), (5, .int p4)] := hl
  rw [← hHe]
  refine lv_aload_n hx hb dX7_join_0 rfl (lv_at hl 0 rfl) ?_
  refine lv_iload_n hx hb dX7_join_1 rfl (lv_at hl 1 rfl) ?_
  have hPc := hP.sub (ws' := [(h0, .inr (7, [.ref mnw, .ref mhd, .ref mas, .ref mps, .ref msf, .ref mdt, .ref mhdd, .ref masd, .ref mpsd, .ref msfd, .ref mkp, .int 0, .ref mtp, .int 0, .int 0, .int 0, .int 0, .ref mld, .int 0, .ref mmd, .ref men, .ref mil, .ref mqu, .int 0, .int 0, .ref mbx])), (mnw, .inl (kI, 99, .inl (fun _ => 0)))]) [0, 1] rfl
  have hDc := hD.sub (ws' := [(h0, .inr (7, [.ref mnw, .ref mhd, .ref mas, .ref mps, .ref msf, .ref mdt, .ref mhdd, .ref masd, .ref mpsd, .ref msfd, .ref mkp, .int 0, .ref mtp, .int 0, .int 0, .int 0, .int 0, .ref mld, .int 0, .ref mmd, .ref men, .ref mil, .ref mqu, .int 0, .int 0, .ref mbx])), (mnw, .inl (kI, 99, .inl (fun _ => 0)))]) [0, 1] (by decide) rfl
  have hKc := hK.sub (tys' := [(kI, .int)]) [0] rfl
  refine ro_i (va_runV (As := [.int p0]) (rest := []) ⟨hx, hb, hml, hown, hts⟩ (c_X7_isMask l dC dI h0 mnw mhd mas mps msf mdt mhdd masd mpsd msfd mkp mtp mld mmd men mil mqu mbx kI H.size p0 ) (cwV 1 hts (gV pq1364 pq1366 pq31 pq81 pq1367) rfl rfl rfl (by decide +kernel) ⟨(Nat.le_of_ble_eq_true rfl), (Nat.le_of_ble_eq_true rfl)⟩) (pc_V hPc hDc hKc hN (va_recv hK hP (ci := 7) (q0 := 0) rfl rfl)) rfl rfl hl.1 rfl (lv_room (Nat.le_of_ble_eq_true rfl)) dX7_join_2 ⟨(Nat.le_of_ble_eq_true rfl), (Nat.le_of_ble_eq_true rfl)⟩) hS hP (fun r1 H locs hr1 hP hS => ?_)
  subst hr1
  refine lv_if_eq (tgt := 58) hx hb dX7_join_5 (by decide) (fun c2 => ?_) (fun c2 => absurd (by decide +kernel) c2)
  refine lv_iconst (v := (-1)) hx hb dX7_join_58 (by decide +kernel) ?_
  exact W.iret (v := (-1)) hx hb hr (fun t ht hW => ⟨⟨(-1), (), rfl, rfl, trivial⟩, hS.F ht⟩) hS.2.2 dX7_join_59

set_option maxHeartbeats 4000000 in
set_option maxRecDepth 100000 in
theorem c_X7_slide (l : Launch) (dC : Nat → ClassId) (dI : Nat → Nat → Nat) (h0 mnw mhd mas mps msf mdt mhdd masd mpsd msfd mkp mtp mld mmd men mil mqu mbx : Nat) (kI : ClassId) (sz : Nat) (p0 : Int32) (p1 : Int32) (p2 : Int32) : Met l yX7_slide (.code yX7_slide cX7_slide 6 (some .int) :: pw) ({ frames := 2, cells := 0, slots := 0, locals := 46 }) (pc (dC, dI) [.ref h0, .int p0, .int p1, .int p2] sz [(h0, .inr (7, [.ref mnw, .ref mhd, .ref mas, .ref mps, .ref msf, .ref mdt, .ref mhdd, .ref masd, .ref mpsd, .ref msfd, .ref mkp, .int 0, .ref mtp, .int 0, .int 0, .int 0, .int 0, .ref mld, .int 0, .ref mmd, .ref men, .ref mil, .ref mqu, .int 0, .int 0, .ref mbx])), (mnw, .inl (kI, 99, .inl (fun _ => 0)))] [(kI, .int)]) (va_Qi (fun (r : Int32) (_ : Unit) => r = (-1)) (fun _ _ => True) (fun _ => False)) 0 0 (fun _ => False) := by
  refine Met.ofW (cc := cX7_slide) (maxL := 6) (ret := (some .int)) (by decide +kernel) rfl ?_
  intro p e s m args below meth c s₁ B hml hv
  obtain ⟨rfl, hsz, hP, hK, hD0, hN⟩ := hv
  have hx := B.exec
  have hb := B.bytes
  have hr := B.returns
  have hts := fun w (h : w ∈ pw) => atoms_spec (ws := Cond.code yX7_slide cX7_slide 6 (some .int) :: pw) B.pre w (List.mem_cons_of_mem _ h)
  have hown : s.vm.findClass RX7 = some m.cls := findClass_of_methodNamed B.named
  have hlocks := B.notSynchronized
  subst hsz
  have hD := hD0
  obtain ⟨H, hHe⟩ : ∃ H : Heap, H = s.heap := ⟨_, rfl⟩
  have hS : va_S (fun _ => False) s.heap H [] := by rw [hHe]; exact va_S.rf
  rw [← hHe] at hP
  have hl := lv_entry ([.ref h0, .int p0, .int p1, .int p2]) (n := 6) (Nat.le_of_ble_eq_true rfl)
  rw [lg_entry_eq]
  generalize (lg_sl ([.ref h0, .int p0, .int p1, .int p2]) ++ List.replicate (6 - (lg_sl ([.ref h0, .int p0, .int p1, .int p2])).length) Slot.unset).toArray = ls at hl ⊢
  have hl : lv_has ls 6 [(0, .ref h0), (1, .int p0), (2, .int p1), (3, .int p2)] := hl
  rw [← hHe]
  refine lv_aload_n hx hb dX7_slide_0 rfl (lv_at hl 0 rfl) ?_
  refine lv_iload_n hx hb dX7_slide_1 rfl (lv_at hl 1 rfl) ?_
  have hPc := hP.sub (ws' := [(h0, .inr (7, [.ref mnw, .ref mhd, .ref mas, .ref mps, .ref msf, .ref mdt, .ref mhdd, .ref masd, .ref mpsd, .ref msfd, .ref mkp, .int 0, .ref mtp, .int 0, .int 0, .int 0, .int 0, .ref mld, .int 0, .ref mmd, .ref men, .ref mil, .ref mqu, .int 0, .int 0, .ref mbx])), (mnw, .inl (kI, 99, .inl (fun _ => 0)))]) [0, 1] rfl
  have hDc := hD.sub (ws' := [(h0, .inr (7, [.ref mnw, .ref mhd, .ref mas, .ref mps, .ref msf, .ref mdt, .ref mhdd, .ref masd, .ref mpsd, .ref msfd, .ref mkp, .int 0, .ref mtp, .int 0, .int 0, .int 0, .int 0, .ref mld, .int 0, .ref mmd, .ref men, .ref mil, .ref mqu, .int 0, .int 0, .ref mbx])), (mnw, .inl (kI, 99, .inl (fun _ => 0)))]) [0, 1] (by decide) rfl
  have hKc := hK.sub (tys' := [(kI, .int)]) [0] rfl
  refine ro_i (va_runV (As := [.int p0]) (rest := []) ⟨hx, hb, hml, hown, hts⟩ (c_X7_isBody l dC dI h0 mnw mhd mas mps msf mdt mhdd masd mpsd msfd mkp mtp mld mmd men mil mqu mbx kI H.size p0 ) (cwV 1 hts (gV pq1310 pq1312 pq23 pq81 pq1313) rfl rfl rfl (by decide +kernel) ⟨(Nat.le_of_ble_eq_true rfl), (Nat.le_of_ble_eq_true rfl)⟩) (pc_V hPc hDc hKc hN (va_recv hK hP (ci := 7) (q0 := 0) rfl rfl)) rfl rfl hl.1 rfl (lv_room (Nat.le_of_ble_eq_true rfl)) dX7_slide_2 ⟨(Nat.le_of_ble_eq_true rfl), (Nat.le_of_ble_eq_true rfl)⟩) hS hP (fun r1 H locs hr1 hP hS => ?_)
  subst hr1
  refine lv_if_eq (tgt := 16) hx hb dX7_slide_5 (by decide) (fun c2 => ?_) (fun c2 => absurd (by decide +kernel) c2)
  refine lv_iconst (v := (-1)) hx hb dX7_slide_16 (by decide +kernel) ?_
  exact W.iret (v := (-1)) hx hb hr (fun t ht hW => ⟨⟨(-1), (), rfl, rfl, trivial⟩, hS.F ht⟩) hS.2.2 dX7_slide_17

set_option maxHeartbeats 4000000 in
set_option maxRecDepth 100000 in
theorem c_X7_push (l : Launch) (dC : Nat → ClassId) (dI : Nat → Nat → Nat) (h0 mnw mhd mas mps msf mdt mhdd masd mpsd msfd mkp mtp mld mmd men mil mqu mbx : Nat) (kI : ClassId) (sz : Nat) (p0 : Int32) (p1 : Int32) (p2 : Int32) : Met l yX7_push (.code yX7_push cX7_push 12 (some .int) :: pw) ({ frames := 2, cells := 0, slots := 0, locals := 46 }) (pc (dC, dI) [.ref h0, .int p0, .int p1, .int p2] sz [(h0, .inr (7, [.ref mnw, .ref mhd, .ref mas, .ref mps, .ref msf, .ref mdt, .ref mhdd, .ref masd, .ref mpsd, .ref msfd, .ref mkp, .int 0, .ref mtp, .int 0, .int 0, .int 0, .int 0, .ref mld, .int 0, .ref mmd, .ref men, .ref mil, .ref mqu, .int 0, .int 0, .ref mbx])), (mnw, .inl (kI, 99, .inl (fun _ => 0)))] [(kI, .int)]) (va_Qi (fun (r : Int32) (_ : Unit) => r = (-1)) (fun _ _ => True) (fun _ => False)) 0 0 (fun _ => False) := by
  refine Met.ofW (cc := cX7_push) (maxL := 12) (ret := (some .int)) (by decide +kernel) rfl ?_
  intro p e s m args below meth c s₁ B hml hv
  obtain ⟨rfl, hsz, hP, hK, hD0, hN⟩ := hv
  have hx := B.exec
  have hb := B.bytes
  have hr := B.returns
  have hts := fun w (h : w ∈ pw) => atoms_spec (ws := Cond.code yX7_push cX7_push 12 (some .int) :: pw) B.pre w (List.mem_cons_of_mem _ h)
  have hown : s.vm.findClass RX7 = some m.cls := findClass_of_methodNamed B.named
  have hlocks := B.notSynchronized
  subst hsz
  have hD := hD0
  obtain ⟨H, hHe⟩ : ∃ H : Heap, H = s.heap := ⟨_, rfl⟩
  have hS : va_S (fun _ => False) s.heap H [] := by rw [hHe]; exact va_S.rf
  rw [← hHe] at hP
  have hl := lv_entry ([.ref h0, .int p0, .int p1, .int p2]) (n := 12) (Nat.le_of_ble_eq_true rfl)
  rw [lg_entry_eq]
  generalize (lg_sl ([.ref h0, .int p0, .int p1, .int p2]) ++ List.replicate (12 - (lg_sl ([.ref h0, .int p0, .int p1, .int p2])).length) Slot.unset).toArray = ls at hl ⊢
  have hl : lv_has ls 12 [(0, .ref h0), (1, .int p0), (2, .int p1), (3, .int p2)] := hl
  rw [← hHe]
  refine lv_aload_n hx hb dX7_push_0 rfl (lv_at hl 0 rfl) ?_
  refine lv_iload_n hx hb dX7_push_1 rfl (lv_at hl 1 rfl) ?_
  have hPc := hP.sub (ws' := [(h0, .inr (7, [.ref mnw, .ref mhd, .ref mas, .ref mps, .ref msf, .ref mdt, .ref mhdd, .ref masd, .ref mpsd, .ref msfd, .ref mkp, .int 0, .ref mtp, .int 0, .int 0, .int 0, .int 0, .ref mld, .int 0, .ref mmd, .ref men, .ref mil, .ref mqu, .int 0, .int 0, .ref mbx])), (mnw, .inl (kI, 99, .inl (fun _ => 0)))]) [0, 1] rfl
  have hDc := hD.sub (ws' := [(h0, .inr (7, [.ref mnw, .ref mhd, .ref mas, .ref mps, .ref msf, .ref mdt, .ref mhdd, .ref masd, .ref mpsd, .ref msfd, .ref mkp, .int 0, .ref mtp, .int 0, .int 0, .int 0, .int 0, .ref mld, .int 0, .ref mmd, .ref men, .ref mil, .ref mqu, .int 0, .int 0, .ref mbx])), (mnw, .inl (kI, 99, .inl (fun _ => 0)))]) [0, 1] (by decide) rfl
  have hKc := hK.sub (tys' := [(kI, .int)]) [0] rfl
  refine ro_i (va_runV (As := [.int p0]) (rest := []) ⟨hx, hb, hml, hown, hts⟩ (c_X7_isBody l dC dI h0 mnw mhd mas mps msf mdt mhdd masd mpsd msfd mkp mtp mld mmd men mil mqu mbx kI H.size p0 ) (cwV 1 hts (gV pq1310 pq1312 pq23 pq81 pq1313) rfl rfl rfl (by decide +kernel) ⟨(Nat.le_of_ble_eq_true rfl), (Nat.le_of_ble_eq_true rfl)⟩) (pc_V hPc hDc hKc hN (va_recv hK hP (ci := 7) (q0 := 0) rfl rfl)) rfl rfl hl.1 rfl (lv_room (Nat.le_of_ble_eq_true rfl)) dX7_push_2 ⟨(Nat.le_of_ble_eq_true rfl), (Nat.le_of_ble_eq_true rfl)⟩) hS hP (fun r1 H locs hr1 hP hS => ?_)
  subst hr1
  refine lv_if_eq (tgt := 16) hx hb dX7_push_5 (by decide) (fun c2 => ?_) (fun c2 => absurd (by decide +kernel) c2)
  refine lv_iconst (v := (-1)) hx hb dX7_push_16 (by decide +kernel) ?_
  exact W.iret (v := (-1)) hx hb hr (fun t ht hW => ⟨⟨(-1), (), rfl, rfl, trivial⟩, hS.F ht⟩) hS.2.2 dX7_push_17

set_option maxHeartbeats 4000000 in
set_option maxRecDepth 100000 in
theorem c_X7_crop (l : Launch) (dC : Nat → ClassId) (dI : Nat → Nat → Nat) (h0 mnw mhd mas mps msf mdt mhdd masd mpsd msfd mkp mtp mld mmd men mil mqu mbx : Nat) (kI : ClassId) (sz : Nat) (p0 : Int32) : Met l yX7_crop (.code yX7_crop cX7_crop 4 (some .int) :: pw) ({ frames := 2, cells := 0, slots := 0, locals := 46 }) (pc (dC, dI) [.ref h0, .int p0] sz [(h0, .inr (7, [.ref mnw, .ref mhd, .ref mas, .ref mps, .ref msf, .ref mdt, .ref mhdd, .ref masd, .ref mpsd, .ref msfd, .ref mkp, .int 0, .ref mtp, .int 0, .int 0, .int 0, .int 0, .ref mld, .int 0, .ref mmd, .ref men, .ref mil, .ref mqu, .int 0, .int 0, .ref mbx])), (mnw, .inl (kI, 99, .inl (fun _ => 0)))] [(kI, .int)]) (va_Qi (fun (r : Int32) (_ : Unit) => r = (-1)) (fun _ _ => True) (fun _ => False)) 0 0 (fun _ => False) := by
  refine Met.ofW (cc := cX7_crop) (maxL := 4) (ret := (some .int)) (by decide +kernel) rfl ?_
  intro p e s m args below meth c s₁ B hml hv
  obtain ⟨rfl, hsz, hP, hK, hD0, hN⟩ := hv
  have hx := B.exec
  have hb := B.bytes
  have hr := B.returns
  have hts := fun w (h : w ∈ pw) => atoms_spec (ws := Cond.code yX7_crop cX7_crop 4 (some .int) :: pw) B.pre w (List.mem_cons_of_mem _ h)
  have hown : s.vm.findClass RX7 = some m.cls := findClass_of_methodNamed B.named
  have hlocks := B.notSynchronized
  subst hsz
  have hD := hD0
  obtain ⟨H, hHe⟩ : ∃ H : Heap, H = s.heap := ⟨_, rfl⟩
  have hS : va_S (fun _ => False) s.heap H [] := by rw [hHe]; exact va_S.rf
  rw [← hHe] at hP
  have hl := lv_entry ([.ref h0, .int p0]) (n := 4) (Nat.le_of_ble_eq_true rfl)
  rw [lg_entry_eq]
  generalize (lg_sl ([.ref h0, .int p0]) ++ List.replicate (4 - (lg_sl ([.ref h0, .int p0])).length) Slot.unset).toArray = ls at hl ⊢
  have hl : lv_has ls 4 [(0, .ref h0), (1, .int p0)] := hl
  rw [← hHe]
  refine lv_aload_n hx hb dX7_crop_0 rfl (lv_at hl 0 rfl) ?_
  refine lv_iload_n hx hb dX7_crop_1 rfl (lv_at hl 1 rfl) ?_
  have hPc := hP.sub (ws' := [(h0, .inr (7, [.ref mnw, .ref mhd, .ref mas, .ref mps, .ref msf, .ref mdt, .ref mhdd, .ref masd, .ref mpsd, .ref msfd, .ref mkp, .int 0, .ref mtp, .int 0, .int 0, .int 0, .int 0, .ref mld, .int 0, .ref mmd, .ref men, .ref mil, .ref mqu, .int 0, .int 0, .ref mbx])), (mnw, .inl (kI, 99, .inl (fun _ => 0)))]) [0, 1] rfl
  have hDc := hD.sub (ws' := [(h0, .inr (7, [.ref mnw, .ref mhd, .ref mas, .ref mps, .ref msf, .ref mdt, .ref mhdd, .ref masd, .ref mpsd, .ref msfd, .ref mkp, .int 0, .ref mtp, .int 0, .int 0, .int 0, .int 0, .ref mld, .int 0, .ref mmd, .ref men, .ref mil, .ref mqu, .int 0, .int 0, .ref mbx])), (mnw, .inl (kI, 99, .inl (fun _ => 0)))]) [0, 1] (by decide) rfl
  have hKc := hK.sub (tys' := [(kI, .int)]) [0] rfl
  refine ro_i (va_runV (As := [.int p0]) (rest := []) ⟨hx, hb, hml, hown, hts⟩ (c_X7_isMask l dC dI h0 mnw mhd mas mps msf mdt mhdd masd mpsd msfd mkp mtp mld mmd men mil mqu mbx kI H.size p0 ) (cwV 1 hts (gV pq1364 pq1366 pq31 pq81 pq1367) rfl rfl rfl (by decide +kernel) ⟨(Nat.le_of_ble_eq_true rfl), (Nat.le_of_ble_eq_true rfl)⟩) (pc_V hPc hDc hKc hN (va_recv hK hP (ci := 7) (q0 := 0) rfl rfl)) rfl rfl hl.1 rfl (lv_room (Nat.le_of_ble_eq_true rfl)) dX7_crop_2 ⟨(Nat.le_of_ble_eq_true rfl), (Nat.le_of_ble_eq_true rfl)⟩) hS hP (fun r1 H locs hr1 hP hS => ?_)
  subst hr1
  refine lv_if_ne (tgt := 10) hx hb dX7_crop_5 (by decide) (fun c2 => absurd (by decide +kernel) c2) (fun c2 => ?_)
  refine lv_iconst (v := (-1)) hx hb dX7_crop_8 (by decide +kernel) ?_
  exact W.iret (v := (-1)) hx hb hr (fun t ht hW => ⟨⟨(-1), (), rfl, rfl, trivial⟩, hS.F ht⟩) hS.2.2 dX7_crop_9

set_option maxHeartbeats 4000000 in
set_option maxRecDepth 100000 in
theorem c_X7_quarter (l : Launch) (dC : Nat → ClassId) (dI : Nat → Nat → Nat) (h0 mnw mhd mas mps msf mdt mhdd masd mpsd msfd mkp mtp mld mmd men mil mqu mbx : Nat) (kI : ClassId) (sz : Nat) (p0 : Int32) : Met l yX7_quarter (.code yX7_quarter cX7_quarter 4 (some .int) :: pw) ({ frames := 2, cells := 0, slots := 0, locals := 46 }) (pc (dC, dI) [.ref h0, .int p0] sz [(h0, .inr (7, [.ref mnw, .ref mhd, .ref mas, .ref mps, .ref msf, .ref mdt, .ref mhdd, .ref masd, .ref mpsd, .ref msfd, .ref mkp, .int 0, .ref mtp, .int 0, .int 0, .int 0, .int 0, .ref mld, .int 0, .ref mmd, .ref men, .ref mil, .ref mqu, .int 0, .int 0, .ref mbx])), (mnw, .inl (kI, 99, .inl (fun _ => 0)))] [(kI, .int)]) (va_Qi (fun (r : Int32) (_ : Unit) => r = (-1)) (fun _ _ => True) (fun _ => False)) 0 0 (fun _ => False) := by
  refine Met.ofW (cc := cX7_quarter) (maxL := 4) (ret := (some .int)) (by decide +kernel) rfl ?_
  intro p e s m args below meth c s₁ B hml hv
  obtain ⟨rfl, hsz, hP, hK, hD0, hN⟩ := hv
  have hx := B.exec
  have hb := B.bytes
  have hr := B.returns
  have hts := fun w (h : w ∈ pw) => atoms_spec (ws := Cond.code yX7_quarter cX7_quarter 4 (some .int) :: pw) B.pre w (List.mem_cons_of_mem _ h)
  have hown : s.vm.findClass RX7 = some m.cls := findClass_of_methodNamed B.named
  have hlocks := B.notSynchronized
  subst hsz
  have hD := hD0
  obtain ⟨H, hHe⟩ : ∃ H : Heap, H = s.heap := ⟨_, rfl⟩
  have hS : va_S (fun _ => False) s.heap H [] := by rw [hHe]; exact va_S.rf
  rw [← hHe] at hP
  have hl := lv_entry ([.ref h0, .int p0]) (n := 4) (Nat.le_of_ble_eq_true rfl)
  rw [lg_entry_eq]
  generalize (lg_sl ([.ref h0, .int p0]) ++ List.replicate (4 - (lg_sl ([.ref h0, .int p0])).length) Slot.unset).toArray = ls at hl ⊢
  have hl : lv_has ls 4 [(0, .ref h0), (1, .int p0)] := hl
  rw [← hHe]
  refine lv_aload_n hx hb dX7_quarter_0 rfl (lv_at hl 0 rfl) ?_
  refine lv_iload_n hx hb dX7_quarter_1 rfl (lv_at hl 1 rfl) ?_
  have hPc := hP.sub (ws' := [(h0, .inr (7, [.ref mnw, .ref mhd, .ref mas, .ref mps, .ref msf, .ref mdt, .ref mhdd, .ref masd, .ref mpsd, .ref msfd, .ref mkp, .int 0, .ref mtp, .int 0, .int 0, .int 0, .int 0, .ref mld, .int 0, .ref mmd, .ref men, .ref mil, .ref mqu, .int 0, .int 0, .ref mbx])), (mnw, .inl (kI, 99, .inl (fun _ => 0)))]) [0, 1] rfl
  have hDc := hD.sub (ws' := [(h0, .inr (7, [.ref mnw, .ref mhd, .ref mas, .ref mps, .ref msf, .ref mdt, .ref mhdd, .ref masd, .ref mpsd, .ref msfd, .ref mkp, .int 0, .ref mtp, .int 0, .int 0, .int 0, .int 0, .ref mld, .int 0, .ref mmd, .ref men, .ref mil, .ref mqu, .int 0, .int 0, .ref mbx])), (mnw, .inl (kI, 99, .inl (fun _ => 0)))]) [0, 1] (by decide) rfl
  have hKc := hK.sub (tys' := [(kI, .int)]) [0] rfl
  refine ro_i (va_runV (As := [.int p0]) (rest := []) ⟨hx, hb, hml, hown, hts⟩ (c_X7_isMask l dC dI h0 mnw mhd mas mps msf mdt mhdd masd mpsd msfd mkp mtp mld mmd men mil mqu mbx kI H.size p0 ) (cwV 1 hts (gV pq1364 pq1366 pq31 pq81 pq1367) rfl rfl rfl (by decide +kernel) ⟨(Nat.le_of_ble_eq_true rfl), (Nat.le_of_ble_eq_true rfl)⟩) (pc_V hPc hDc hKc hN (va_recv hK hP (ci := 7) (q0 := 0) rfl rfl)) rfl rfl hl.1 rfl (lv_room (Nat.le_of_ble_eq_true rfl)) dX7_quarter_2 ⟨(Nat.le_of_ble_eq_true rfl), (Nat.le_of_ble_eq_true rfl)⟩) hS hP (fun r1 H locs hr1 hP hS => ?_)
  subst hr1
  refine lv_if_ne (tgt := 10) hx hb dX7_quarter_5 (by decide) (fun c2 => absurd (by decide +kernel) c2) (fun c2 => ?_)
  refine lv_iconst (v := (-1)) hx hb dX7_quarter_8 (by decide +kernel) ?_
  exact W.iret (v := (-1)) hx hb hr (fun t ht hW => ⟨⟨(-1), (), rfl, rfl, trivial⟩, hS.F ht⟩) hS.2.2 dX7_quarter_9

set_option maxHeartbeats 4000000 in
set_option maxRecDepth 100000 in
theorem c_X7_mask (l : Launch) (dC : Nat → ClassId) (dI : Nat → Nat → Nat) (h0 mnw mhd mas mps msf mdt mhdd masd mpsd msfd mkp mtp mld mmd men mil mqu mbx : Nat) (kI : ClassId) (sz : Nat) (p0 : Int32) (p1 : Int32) : Met l yX7_mask (.code yX7_mask cX7_mask 3 (some .int) :: pw) ({ frames := 2, cells := 0, slots := 0, locals := 46 }) (pc (dC, dI) [.ref h0, .int p0, .int p1] sz [(h0, .inr (7, [.ref mnw, .ref mhd, .ref mas, .ref mps, .ref msf, .ref mdt, .ref mhdd, .ref masd, .ref mpsd, .ref msfd, .ref mkp, .int 0, .ref mtp, .int 0, .int 0, .int 0, .int 0, .ref mld, .int 0, .ref mmd, .ref men, .ref mil, .ref mqu, .int 0, .int 0, .ref mbx])), (mnw, .inl (kI, 99, .inl (fun _ => 0)))] [(kI, .int)]) (va_Qi (fun (r : Int32) (_ : Unit) => r = (-1)) (fun _ _ => True) (fun _ => False)) 0 0 (fun _ => False) := by
  refine Met.ofW (cc := cX7_mask) (maxL := 3) (ret := (some .int)) (by decide +kernel) rfl ?_
  intro p e s m args below meth c s₁ B hml hv
  obtain ⟨rfl, hsz, hP, hK, hD0, hN⟩ := hv
  have hx := B.exec
  have hb := B.bytes
  have hr := B.returns
  have hts := fun w (h : w ∈ pw) => atoms_spec (ws := Cond.code yX7_mask cX7_mask 3 (some .int) :: pw) B.pre w (List.mem_cons_of_mem _ h)
  have hown : s.vm.findClass RX7 = some m.cls := findClass_of_methodNamed B.named
  have hlocks := B.notSynchronized
  subst hsz
  have hD := hD0
  obtain ⟨H, hHe⟩ : ∃ H : Heap, H = s.heap := ⟨_, rfl⟩
  have hS : va_S (fun _ => False) s.heap H [] := by rw [hHe]; exact va_S.rf
  rw [← hHe] at hP
  have hl := lv_entry ([.ref h0, .int p0, .int p1]) (n := 3) (Nat.le_of_ble_eq_true rfl)
  rw [lg_entry_eq]
  generalize (lg_sl ([.ref h0, .int p0, .int p1]) ++ List.replicate (3 - (lg_sl ([.ref h0, .int p0, .int p1])).length) Slot.unset).toArray = ls at hl ⊢
  have hl : lv_has ls 3 [(0, .ref h0), (1, .int p0), (2, .int p1)] := hl
  rw [← hHe]
  refine lv_aload_n hx hb dX7_mask_0 rfl (lv_at hl 0 rfl) ?_
  refine lv_iload_n hx hb dX7_mask_1 rfl (lv_at hl 1 rfl) ?_
  have hPc := hP.sub (ws' := [(h0, .inr (7, [.ref mnw, .ref mhd, .ref mas, .ref mps, .ref msf, .ref mdt, .ref mhdd, .ref masd, .ref mpsd, .ref msfd, .ref mkp, .int 0, .ref mtp, .int 0, .int 0, .int 0, .int 0, .ref mld, .int 0, .ref mmd, .ref men, .ref mil, .ref mqu, .int 0, .int 0, .ref mbx])), (mnw, .inl (kI, 99, .inl (fun _ => 0)))]) [0, 1] rfl
  have hDc := hD.sub (ws' := [(h0, .inr (7, [.ref mnw, .ref mhd, .ref mas, .ref mps, .ref msf, .ref mdt, .ref mhdd, .ref masd, .ref mpsd, .ref msfd, .ref mkp, .int 0, .ref mtp, .int 0, .int 0, .int 0, .int 0, .ref mld, .int 0, .ref mmd, .ref men, .ref mil, .ref mqu, .int 0, .int 0, .ref mbx])), (mnw, .inl (kI, 99, .inl (fun _ => 0)))]) [0, 1] (by decide) rfl
  have hKc := hK.sub (tys' := [(kI, .int)]) [0] rfl
  refine ro_i (va_runV (As := [.int p0]) (rest := []) ⟨hx, hb, hml, hown, hts⟩ (c_X7_isMask l dC dI h0 mnw mhd mas mps msf mdt mhdd masd mpsd msfd mkp mtp mld mmd men mil mqu mbx kI H.size p0 ) (cwV 1 hts (gV pq1364 pq1366 pq31 pq81 pq1367) rfl rfl rfl (by decide +kernel) ⟨(Nat.le_of_ble_eq_true rfl), (Nat.le_of_ble_eq_true rfl)⟩) (pc_V hPc hDc hKc hN (va_recv hK hP (ci := 7) (q0 := 0) rfl rfl)) rfl rfl hl.1 rfl (lv_room (Nat.le_of_ble_eq_true rfl)) dX7_mask_2 ⟨(Nat.le_of_ble_eq_true rfl), (Nat.le_of_ble_eq_true rfl)⟩) hS hP (fun r1 H locs hr1 hP hS => ?_)
  subst hr1
  refine lv_if_ne (tgt := 10) hx hb dX7_mask_5 (by decide) (fun c2 => absurd (by decide +kernel) c2) (fun c2 => ?_)
  refine lv_iconst (v := (-1)) hx hb dX7_mask_8 (by decide +kernel) ?_
  exact W.iret (v := (-1)) hx hb hr (fun t ht hW => ⟨⟨(-1), (), rfl, rfl, trivial⟩, hS.F ht⟩) hS.2.2 dX7_mask_9

set_option maxHeartbeats 4000000 in
set_option maxRecDepth 100000 in
theorem c_X7_dot (l : Launch) (dC : Nat → ClassId) (dI : Nat → Nat → Nat) (h0 mnw mhd mas mps msf mdt mhdd masd mpsd msfd mkp mtp mld mmd men mil mqu mbx : Nat) (kI : ClassId) (sz : Nat) (p0 : Int32) (p1 : Int32) (p2 : Int32) : Met l yX7_dot (.code yX7_dot cX7_dot 4 (some .int) :: pw) ({ frames := 2, cells := 0, slots := 0, locals := 46 }) (pc (dC, dI) [.ref h0, .int p0, .int p1, .int p2] sz [(h0, .inr (7, [.ref mnw, .ref mhd, .ref mas, .ref mps, .ref msf, .ref mdt, .ref mhdd, .ref masd, .ref mpsd, .ref msfd, .ref mkp, .int 0, .ref mtp, .int 0, .int 0, .int 0, .int 0, .ref mld, .int 0, .ref mmd, .ref men, .ref mil, .ref mqu, .int 0, .int 0, .ref mbx])), (mnw, .inl (kI, 99, .inl (fun _ => 0)))] [(kI, .int)]) (va_Qi (fun (r : Int32) (_ : Unit) => r = (-1)) (fun _ _ => True) (fun _ => False)) 0 0 (fun _ => False) := by
  refine Met.ofW (cc := cX7_dot) (maxL := 4) (ret := (some .int)) (by decide +kernel) rfl ?_
  intro p e s m args below meth c s₁ B hml hv
  obtain ⟨rfl, hsz, hP, hK, hD0, hN⟩ := hv
  have hx := B.exec
  have hb := B.bytes
  have hr := B.returns
  have hts := fun w (h : w ∈ pw) => atoms_spec (ws := Cond.code yX7_dot cX7_dot 4 (some .int) :: pw) B.pre w (List.mem_cons_of_mem _ h)
  have hown : s.vm.findClass RX7 = some m.cls := findClass_of_methodNamed B.named
  have hlocks := B.notSynchronized
  subst hsz
  have hD := hD0
  obtain ⟨H, hHe⟩ : ∃ H : Heap, H = s.heap := ⟨_, rfl⟩
  have hS : va_S (fun _ => False) s.heap H [] := by rw [hHe]; exact va_S.rf
  rw [← hHe] at hP
  have hl := lv_entry ([.ref h0, .int p0, .int p1, .int p2]) (n := 4) (Nat.le_of_ble_eq_true rfl)
  rw [lg_entry_eq]
  generalize (lg_sl ([.ref h0, .int p0, .int p1, .int p2]) ++ List.replicate (4 - (lg_sl ([.ref h0, .int p0, .int p1, .int p2])).length) Slot.unset).toArray = ls at hl ⊢
  have hl : lv_has ls 4 [(0, .ref h0), (1, .int p0), (2, .int p1), (3, .int p2)] := hl
  rw [← hHe]
  refine lv_aload_n hx hb dX7_dot_0 rfl (lv_at hl 0 rfl) ?_
  refine lv_iload_n hx hb dX7_dot_1 rfl (lv_at hl 1 rfl) ?_
  have hPc := hP.sub (ws' := [(h0, .inr (7, [.ref mnw, .ref mhd, .ref mas, .ref mps, .ref msf, .ref mdt, .ref mhdd, .ref masd, .ref mpsd, .ref msfd, .ref mkp, .int 0, .ref mtp, .int 0, .int 0, .int 0, .int 0, .ref mld, .int 0, .ref mmd, .ref men, .ref mil, .ref mqu, .int 0, .int 0, .ref mbx])), (mnw, .inl (kI, 99, .inl (fun _ => 0)))]) [0, 1] rfl
  have hDc := hD.sub (ws' := [(h0, .inr (7, [.ref mnw, .ref mhd, .ref mas, .ref mps, .ref msf, .ref mdt, .ref mhdd, .ref masd, .ref mpsd, .ref msfd, .ref mkp, .int 0, .ref mtp, .int 0, .int 0, .int 0, .int 0, .ref mld, .int 0, .ref mmd, .ref men, .ref mil, .ref mqu, .int 0, .int 0, .ref mbx])), (mnw, .inl (kI, 99, .inl (fun _ => 0)))]) [0, 1] (by decide) rfl
  have hKc := hK.sub (tys' := [(kI, .int)]) [0] rfl
  refine ro_i (va_runV (As := [.int p0]) (rest := []) ⟨hx, hb, hml, hown, hts⟩ (c_X7_isMask l dC dI h0 mnw mhd mas mps msf mdt mhdd masd mpsd msfd mkp mtp mld mmd men mil mqu mbx kI H.size p0 ) (cwV 1 hts (gV pq1364 pq1366 pq31 pq81 pq1367) rfl rfl rfl (by decide +kernel) ⟨(Nat.le_of_ble_eq_true rfl), (Nat.le_of_ble_eq_true rfl)⟩) (pc_V hPc hDc hKc hN (va_recv hK hP (ci := 7) (q0 := 0) rfl rfl)) rfl rfl hl.1 rfl (lv_room (Nat.le_of_ble_eq_true rfl)) dX7_dot_2 ⟨(Nat.le_of_ble_eq_true rfl), (Nat.le_of_ble_eq_true rfl)⟩) hS hP (fun r1 H locs hr1 hP hS => ?_)
  subst hr1
  refine lv_if_eq (tgt := 21) hx hb dX7_dot_5 (by decide) (fun c2 => ?_) (fun c2 => absurd (by decide +kernel) c2)
  refine lv_iconst (v := (-1)) hx hb dX7_dot_21 (by decide +kernel) ?_
  exact W.iret (v := (-1)) hx hb hr (fun t ht hW => ⟨⟨(-1), (), rfl, rfl, trivial⟩, hS.F ht⟩) hS.2.2 dX7_dot_22

set_option maxHeartbeats 4000000 in
set_option maxRecDepth 100000 in
theorem c_X7_row (l : Launch) (dC : Nat → ClassId) (dI : Nat → Nat → Nat) (h0 mnw mhd mas mps msf mdt mhdd masd mpsd msfd mkp mtp mld mmd men mil mqu mbx : Nat) (kI : ClassId) (sz : Nat) (p0 : Int32) (p1 : Int32) (p2 : Int32) : Met l yX7_row (.code yX7_row cX7_row 4 (some .long) :: pw) ({ frames := 2, cells := 0, slots := 0, locals := 46 }) (pc (dC, dI) [.ref h0, .int p0, .int p1, .int p2] sz [(h0, .inr (7, [.ref mnw, .ref mhd, .ref mas, .ref mps, .ref msf, .ref mdt, .ref mhdd, .ref masd, .ref mpsd, .ref msfd, .ref mkp, .int 0, .ref mtp, .int 0, .int 0, .int 0, .int 0, .ref mld, .int 0, .ref mmd, .ref men, .ref mil, .ref mqu, .int 0, .int 0, .ref mbx])), (mnw, .inl (kI, 99, .inl (fun _ => 0)))] [(kI, .int)]) (va_Ql (fun (r : Int64) (_ : Unit) => r = 0) (fun _ _ => True) (fun _ => False)) 0 0 (fun _ => False) := by
  refine Met.ofW (cc := cX7_row) (maxL := 4) (ret := (some .long)) (by decide +kernel) rfl ?_
  intro p e s m args below meth c s₁ B hml hv
  obtain ⟨rfl, hsz, hP, hK, hD0, hN⟩ := hv
  have hx := B.exec
  have hb := B.bytes
  have hr := B.returns
  have hts := fun w (h : w ∈ pw) => atoms_spec (ws := Cond.code yX7_row cX7_row 4 (some .long) :: pw) B.pre w (List.mem_cons_of_mem _ h)
  have hown : s.vm.findClass RX7 = some m.cls := findClass_of_methodNamed B.named
  have hlocks := B.notSynchronized
  subst hsz
  have hD := hD0
  obtain ⟨H, hHe⟩ : ∃ H : Heap, H = s.heap := ⟨_, rfl⟩
  have hS : va_S (fun _ => False) s.heap H [] := by rw [hHe]; exact va_S.rf
  rw [← hHe] at hP
  have hl := lv_entry ([.ref h0, .int p0, .int p1, .int p2]) (n := 4) (Nat.le_of_ble_eq_true rfl)
  rw [lg_entry_eq]
  generalize (lg_sl ([.ref h0, .int p0, .int p1, .int p2]) ++ List.replicate (4 - (lg_sl ([.ref h0, .int p0, .int p1, .int p2])).length) Slot.unset).toArray = ls at hl ⊢
  have hl : lv_has ls 4 [(0, .ref h0), (1, .int p0), (2, .int p1), (3, .int p2)] := hl
  rw [← hHe]
  refine lv_aload_n hx hb dX7_row_0 rfl (lv_at hl 0 rfl) ?_
  refine lv_iload_n hx hb dX7_row_1 rfl (lv_at hl 1 rfl) ?_
  have hPc := hP.sub (ws' := [(h0, .inr (7, [.ref mnw, .ref mhd, .ref mas, .ref mps, .ref msf, .ref mdt, .ref mhdd, .ref masd, .ref mpsd, .ref msfd, .ref mkp, .int 0, .ref mtp, .int 0, .int 0, .int 0, .int 0, .ref mld, .int 0, .ref mmd, .ref men, .ref mil, .ref mqu, .int 0, .int 0, .ref mbx])), (mnw, .inl (kI, 99, .inl (fun _ => 0)))]) [0, 1] rfl
  have hDc := hD.sub (ws' := [(h0, .inr (7, [.ref mnw, .ref mhd, .ref mas, .ref mps, .ref msf, .ref mdt, .ref mhdd, .ref masd, .ref mpsd, .ref msfd, .ref mkp, .int 0, .ref mtp, .int 0, .int 0, .int 0, .int 0, .ref mld, .int 0, .ref mmd, .ref men, .ref mil, .ref mqu, .int 0, .int 0, .ref mbx])), (mnw, .inl (kI, 99, .inl (fun _ => 0)))]) [0, 1] (by decide) rfl
  have hKc := hK.sub (tys' := [(kI, .int)]) [0] rfl
  refine ro_i (va_runV (As := [.int p0]) (rest := []) ⟨hx, hb, hml, hown, hts⟩ (c_X7_isMask l dC dI h0 mnw mhd mas mps msf mdt mhdd masd mpsd msfd mkp mtp mld mmd men mil mqu mbx kI H.size p0 ) (cwV 1 hts (gV pq1364 pq1366 pq31 pq81 pq1367) rfl rfl rfl (by decide +kernel) ⟨(Nat.le_of_ble_eq_true rfl), (Nat.le_of_ble_eq_true rfl)⟩) (pc_V hPc hDc hKc hN (va_recv hK hP (ci := 7) (q0 := 0) rfl rfl)) rfl rfl hl.1 rfl (lv_room (Nat.le_of_ble_eq_true rfl)) dX7_row_2 ⟨(Nat.le_of_ble_eq_true rfl), (Nat.le_of_ble_eq_true rfl)⟩) hS hP (fun r1 H locs hr1 hP hS => ?_)
  subst hr1
  refine lv_if_eq (tgt := 53) hx hb dX7_row_5 (by decide) (fun c2 => ?_) (fun c2 => absurd (by decide +kernel) c2)
  refine lv_lconst (v := 0) hx hb dX7_row_53 (by decide +kernel) ?_
  exact W.lret (v := 0) hx hb hr (fun t ht hW => ⟨⟨0, (), rfl, rfl, trivial⟩, hS.F ht⟩) hS.2.2 dX7_row_54

set_option maxHeartbeats 4000000 in
set_option maxRecDepth 100000 in
theorem c_X7_body (l : Launch) (dC : Nat → ClassId) (dI : Nat → Nat → Nat) (h0 mnw mhd mas mps msf mdt mhdd masd mpsd msfd mkp mtp mld mmd men mil mqu mbx : Nat) (kI : ClassId) (sz : Nat) (p0 : Int32) (p1 : Int32) : Met l yX7_body (.code yX7_body cX7_body 3 (some .int) :: pw) ({ frames := 2, cells := 0, slots := 0, locals := 46 }) (pc (dC, dI) [.ref h0, .int p0, .int p1] sz [(h0, .inr (7, [.ref mnw, .ref mhd, .ref mas, .ref mps, .ref msf, .ref mdt, .ref mhdd, .ref masd, .ref mpsd, .ref msfd, .ref mkp, .int 0, .ref mtp, .int 0, .int 0, .int 0, .int 0, .ref mld, .int 0, .ref mmd, .ref men, .ref mil, .ref mqu, .int 0, .int 0, .ref mbx])), (mnw, .inl (kI, 99, .inl (fun _ => 0)))] [(kI, .int)]) (va_Qi (fun (r : Int32) (_ : Unit) => r = (-2000)) (fun _ _ => True) (fun _ => False)) 0 0 (fun _ => False) := by
  refine Met.ofW (cc := cX7_body) (maxL := 3) (ret := (some .int)) (by decide +kernel) rfl ?_
  intro p e s m args below meth c s₁ B hml hv
  obtain ⟨rfl, hsz, hP, hK, hD0, hN⟩ := hv
  have hx := B.exec
  have hb := B.bytes
  have hr := B.returns
  have hts := fun w (h : w ∈ pw) => atoms_spec (ws := Cond.code yX7_body cX7_body 3 (some .int) :: pw) B.pre w (List.mem_cons_of_mem _ h)
  have hown : s.vm.findClass RX7 = some m.cls := findClass_of_methodNamed B.named
  have hlocks := B.notSynchronized
  subst hsz
  have hD := hD0
  obtain ⟨H, hHe⟩ : ∃ H : Heap, H = s.heap := ⟨_, rfl⟩
  have hS : va_S (fun _ => False) s.heap H [] := by rw [hHe]; exact va_S.rf
  rw [← hHe] at hP
  have hl := lv_entry ([.ref h0, .int p0, .int p1]) (n := 3) (Nat.le_of_ble_eq_true rfl)
  rw [lg_entry_eq]
  generalize (lg_sl ([.ref h0, .int p0, .int p1]) ++ List.replicate (3 - (lg_sl ([.ref h0, .int p0, .int p1])).length) Slot.unset).toArray = ls at hl ⊢
  have hl : lv_has ls 3 [(0, .ref h0), (1, .int p0), (2, .int p1)] := hl
  rw [← hHe]
  refine lv_aload_n hx hb dX7_body_0 rfl (lv_at hl 0 rfl) ?_
  refine lv_iload_n hx hb dX7_body_1 rfl (lv_at hl 1 rfl) ?_
  have hPc := hP.sub (ws' := [(h0, .inr (7, [.ref mnw, .ref mhd, .ref mas, .ref mps, .ref msf, .ref mdt, .ref mhdd, .ref masd, .ref mpsd, .ref msfd, .ref mkp, .int 0, .ref mtp, .int 0, .int 0, .int 0, .int 0, .ref mld, .int 0, .ref mmd, .ref men, .ref mil, .ref mqu, .int 0, .int 0, .ref mbx])), (mnw, .inl (kI, 99, .inl (fun _ => 0)))]) [0, 1] rfl
  have hDc := hD.sub (ws' := [(h0, .inr (7, [.ref mnw, .ref mhd, .ref mas, .ref mps, .ref msf, .ref mdt, .ref mhdd, .ref masd, .ref mpsd, .ref msfd, .ref mkp, .int 0, .ref mtp, .int 0, .int 0, .int 0, .int 0, .ref mld, .int 0, .ref mmd, .ref men, .ref mil, .ref mqu, .int 0, .int 0, .ref mbx])), (mnw, .inl (kI, 99, .inl (fun _ => 0)))]) [0, 1] (by decide) rfl
  have hKc := hK.sub (tys' := [(kI, .int)]) [0] rfl
  refine ro_i (va_runV (As := [.int p0]) (rest := []) ⟨hx, hb, hml, hown, hts⟩ (c_X7_isBody l dC dI h0 mnw mhd mas mps msf mdt mhdd masd mpsd msfd mkp mtp mld mmd men mil mqu mbx kI H.size p0 ) (cwV 1 hts (gV pq1310 pq1312 pq23 pq81 pq1313) rfl rfl rfl (by decide +kernel) ⟨(Nat.le_of_ble_eq_true rfl), (Nat.le_of_ble_eq_true rfl)⟩) (pc_V hPc hDc hKc hN (va_recv hK hP (ci := 7) (q0 := 0) rfl rfl)) rfl rfl hl.1 rfl (lv_room (Nat.le_of_ble_eq_true rfl)) dX7_body_2 ⟨(Nat.le_of_ble_eq_true rfl), (Nat.le_of_ble_eq_true rfl)⟩) hS hP (fun r1 H locs hr1 hP hS => ?_)
  subst hr1
  refine lv_if_eq (tgt := 29) hx hb dX7_body_5 (by decide) (fun c2 => ?_) (fun c2 => absurd (by decide +kernel) c2)
  refine lv_sipush (v := (-2000)) hx hb dX7_body_29 (by decide +kernel) ?_
  exact W.iret (v := (-2000)) hx hb hr (fun t ht hW => ⟨⟨(-2000), (), rfl, rfl, trivial⟩, hS.F ht⟩) hS.2.2 dX7_body_32

set_option maxHeartbeats 4000000 in
set_option maxRecDepth 100000 in
theorem c_X7_common (l : Launch) (dC : Nat → ClassId) (dI : Nat → Nat → Nat) (h0 mnw mhd mas mps msf mdt mhdd masd mpsd msfd mkp mtp mld mmd men mil mqu mbx : Nat) (kI : ClassId) (sz : Nat) (p0 : Int32) (p1 : Int32) : Met l yX7_common (.code yX7_common cX7_common 3 (some .int) :: pw) ({ frames := 3, cells := 0, slots := 0, locals := 68 }) (pc (dC, dI) [.ref h0, .int p0, .int p1] sz [(h0, .inr (7, [.ref mnw, .ref mhd, .ref mas, .ref mps, .ref msf, .ref mdt, .ref mhdd, .ref masd, .ref mpsd, .ref msfd, .ref mkp, .int 0, .ref mtp, .int 0, .int 0, .int 0, .int 0, .ref mld, .int 0, .ref mmd, .ref men, .ref mil, .ref mqu, .int 0, .int 0, .ref mbx])), (mnw, .inl (kI, 99, .inl (fun _ => 0)))] [(kI, .int)]) (va_Qi (fun (r : Int32) (_ : Unit) => r = (-1)) (fun _ _ => True) (fun _ => False)) 0 0 (fun _ => False) := by
  refine Met.ofW (cc := cX7_common) (maxL := 3) (ret := (some .int)) (by decide +kernel) rfl ?_
  intro p e s m args below meth c s₁ B hml hv
  obtain ⟨rfl, hsz, hP, hK, hD0, hN⟩ := hv
  have hx := B.exec
  have hb := B.bytes
  have hr := B.returns
  have hts := fun w (h : w ∈ pw) => atoms_spec (ws := Cond.code yX7_common cX7_common 3 (some .int) :: pw) B.pre w (List.mem_cons_of_mem _ h)
  have hown : s.vm.findClass RX7 = some m.cls := findClass_of_methodNamed B.named
  have hlocks := B.notSynchronized
  subst hsz
  have hD := hD0
  obtain ⟨H, hHe⟩ : ∃ H : Heap, H = s.heap := ⟨_, rfl⟩
  have hS : va_S (fun _ => False) s.heap H [] := by rw [hHe]; exact va_S.rf
  rw [← hHe] at hP
  have hl := lv_entry ([.ref h0, .int p0, .int p1]) (n := 3) (Nat.le_of_ble_eq_true rfl)
  rw [lg_entry_eq]
  generalize (lg_sl ([.ref h0, .int p0, .int p1]) ++ List.replicate (3 - (lg_sl ([.ref h0, .int p0, .int p1])).length) Slot.unset).toArray = ls at hl ⊢
  have hl : lv_has ls 3 [(0, .ref h0), (1, .int p0), (2, .int p1)] := hl
  rw [← hHe]
  refine lv_aload_n hx hb dX7_common_0 rfl (lv_at hl 0 rfl) ?_
  refine lv_iload_n hx hb dX7_common_1 rfl (lv_at hl 1 rfl) ?_
  refine lv_iload_n hx hb dX7_common_2 rfl (lv_at hl 2 rfl) ?_
  have hPc := hP.sub (ws' := [(h0, .inr (7, [.ref mnw, .ref mhd, .ref mas, .ref mps, .ref msf, .ref mdt, .ref mhdd, .ref masd, .ref mpsd, .ref msfd, .ref mkp, .int 0, .ref mtp, .int 0, .int 0, .int 0, .int 0, .ref mld, .int 0, .ref mmd, .ref men, .ref mil, .ref mqu, .int 0, .int 0, .ref mbx])), (mnw, .inl (kI, 99, .inl (fun _ => 0)))]) [0, 1] rfl
  have hDc := hD.sub (ws' := [(h0, .inr (7, [.ref mnw, .ref mhd, .ref mas, .ref mps, .ref msf, .ref mdt, .ref mhdd, .ref masd, .ref mpsd, .ref msfd, .ref mkp, .int 0, .ref mtp, .int 0, .int 0, .int 0, .int 0, .ref mld, .int 0, .ref mmd, .ref men, .ref mil, .ref mqu, .int 0, .int 0, .ref mbx])), (mnw, .inl (kI, 99, .inl (fun _ => 0)))]) [0, 1] (by decide) rfl
  have hKc := hK.sub (tys' := [(kI, .int)]) [0] rfl
  refine ro_i (va_runV (As := [.int p0, .int p1]) (rest := []) ⟨hx, hb, hml, hown, hts⟩ (c_X7_areTwo l dC dI h0 mnw mhd mas mps msf mdt mhdd masd mpsd msfd mkp mtp mld mmd men mil mqu mbx kI H.size p0 p1 ) (cwV 2 hts (gV pq1571 pq1573 pq62 pq81 pq1574) rfl rfl rfl (by decide +kernel) ⟨(Nat.le_of_ble_eq_true rfl), (Nat.le_of_ble_eq_true rfl)⟩) (pc_V hPc hDc hKc hN (va_recv hK hP (ci := 7) (q0 := 0) rfl rfl)) rfl rfl hl.1 rfl (lv_room (Nat.le_of_ble_eq_true rfl)) dX7_common_3 ⟨(Nat.le_of_ble_eq_true rfl), (Nat.le_of_ble_eq_true rfl)⟩) hS hP (fun r1 H locs hr1 hP hS => ?_)
  subst hr1
  refine lv_if_ne (tgt := 11) hx hb dX7_common_6 (by decide) (fun c2 => absurd (by decide +kernel) c2) (fun c2 => ?_)
  refine lv_iconst (v := (-1)) hx hb dX7_common_9 (by decide +kernel) ?_
  exact W.iret (v := (-1)) hx hb hr (fun t ht hW => ⟨⟨(-1), (), rfl, rfl, trivial⟩, hS.F ht⟩) hS.2.2 dX7_common_10

set_option maxHeartbeats 4000000 in
set_option maxRecDepth 100000 in
theorem c_X7_meet (l : Launch) (dC : Nat → ClassId) (dI : Nat → Nat → Nat) (h0 mnw mhd mas mps msf mdt mhdd masd mpsd msfd mkp mtp mld mmd men mil mqu mbx : Nat) (kI : ClassId) (sz : Nat) (p0 : Int32) (p1 : Int32) (p2 : Int32) : Met l yX7_meet (.code yX7_meet cX7_meet 6 (some .int) :: pw) ({ frames := 3, cells := 0, slots := 0, locals := 68 }) (pc (dC, dI) [.ref h0, .int p0, .int p1, .int p2] sz [(h0, .inr (7, [.ref mnw, .ref mhd, .ref mas, .ref mps, .ref msf, .ref mdt, .ref mhdd, .ref masd, .ref mpsd, .ref msfd, .ref mkp, .int 0, .ref mtp, .int 0, .int 0, .int 0, .int 0, .ref mld, .int 0, .ref mmd, .ref men, .ref mil, .ref mqu, .int 0, .int 0, .ref mbx])), (mnw, .inl (kI, 99, .inl (fun _ => 0)))] [(kI, .int)]) (va_Qi (fun (r : Int32) (_ : Unit) => r = (-2000)) (fun _ _ => True) (fun _ => False)) 0 0 (fun _ => False) := by
  refine Met.ofW (cc := cX7_meet) (maxL := 6) (ret := (some .int)) (by decide +kernel) rfl ?_
  intro p e s m args below meth c s₁ B hml hv
  obtain ⟨rfl, hsz, hP, hK, hD0, hN⟩ := hv
  have hx := B.exec
  have hb := B.bytes
  have hr := B.returns
  have hts := fun w (h : w ∈ pw) => atoms_spec (ws := Cond.code yX7_meet cX7_meet 6 (some .int) :: pw) B.pre w (List.mem_cons_of_mem _ h)
  have hown : s.vm.findClass RX7 = some m.cls := findClass_of_methodNamed B.named
  have hlocks := B.notSynchronized
  subst hsz
  have hD := hD0
  obtain ⟨H, hHe⟩ : ∃ H : Heap, H = s.heap := ⟨_, rfl⟩
  have hS : va_S (fun _ => False) s.heap H [] := by rw [hHe]; exact va_S.rf
  rw [← hHe] at hP
  have hl := lv_entry ([.ref h0, .int p0, .int p1, .int p2]) (n := 6) (Nat.le_of_ble_eq_true rfl)
  rw [lg_entry_eq]
  generalize (lg_sl ([.ref h0, .int p0, .int p1, .int p2]) ++ List.replicate (6 - (lg_sl ([.ref h0, .int p0, .int p1, .int p2])).length) Slot.unset).toArray = ls at hl ⊢
  have hl : lv_has ls 6 [(0, .ref h0), (1, .int p0), (2, .int p1), (3, .int p2)] := hl
  rw [← hHe]
  refine lv_aload_n hx hb dX7_meet_0 rfl (lv_at hl 0 rfl) ?_
  refine lv_iload_n hx hb dX7_meet_1 rfl (lv_at hl 1 rfl) ?_
  refine lv_iload_n hx hb dX7_meet_2 rfl (lv_at hl 2 rfl) ?_
  have hPc := hP.sub (ws' := [(h0, .inr (7, [.ref mnw, .ref mhd, .ref mas, .ref mps, .ref msf, .ref mdt, .ref mhdd, .ref masd, .ref mpsd, .ref msfd, .ref mkp, .int 0, .ref mtp, .int 0, .int 0, .int 0, .int 0, .ref mld, .int 0, .ref mmd, .ref men, .ref mil, .ref mqu, .int 0, .int 0, .ref mbx])), (mnw, .inl (kI, 99, .inl (fun _ => 0)))]) [0, 1] rfl
  have hDc := hD.sub (ws' := [(h0, .inr (7, [.ref mnw, .ref mhd, .ref mas, .ref mps, .ref msf, .ref mdt, .ref mhdd, .ref masd, .ref mpsd, .ref msfd, .ref mkp, .int 0, .ref mtp, .int 0, .int 0, .int 0, .int 0, .ref mld, .int 0, .ref mmd, .ref men, .ref mil, .ref mqu, .int 0, .int 0, .ref mbx])), (mnw, .inl (kI, 99, .inl (fun _ => 0)))]) [0, 1] (by decide) rfl
  have hKc := hK.sub (tys' := [(kI, .int)]) [0] rfl
  refine ro_i (va_runV (As := [.int p0, .int p1]) (rest := []) ⟨hx, hb, hml, hown, hts⟩ (c_X7_areTwo l dC dI h0 mnw mhd mas mps msf mdt mhdd masd mpsd msfd mkp mtp mld mmd men mil mqu mbx kI H.size p0 p1 ) (cwV 2 hts (gV pq1571 pq1573 pq62 pq81 pq1574) rfl rfl rfl (by decide +kernel) ⟨(Nat.le_of_ble_eq_true rfl), (Nat.le_of_ble_eq_true rfl)⟩) (pc_V hPc hDc hKc hN (va_recv hK hP (ci := 7) (q0 := 0) rfl rfl)) rfl rfl hl.1 rfl (lv_room (Nat.le_of_ble_eq_true rfl)) dX7_meet_3 ⟨(Nat.le_of_ble_eq_true rfl), (Nat.le_of_ble_eq_true rfl)⟩) hS hP (fun r1 H locs hr1 hP hS => ?_)
  subst hr1
  refine lv_if_eq (tgt := 19) hx hb dX7_meet_6 (by decide) (fun c2 => ?_) (fun c2 => absurd (by decide +kernel) c2)
  refine lv_sipush (v := (-2000)) hx hb dX7_meet_19 (by decide +kernel) ?_
  exact W.iret (v := (-2000)) hx hb hr (fun t ht hW => ⟨⟨(-2000), (), rfl, rfl, trivial⟩, hS.F ht⟩) hS.2.2 dX7_meet_22
