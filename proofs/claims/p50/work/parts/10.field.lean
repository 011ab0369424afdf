def yX0_become : MethodName := ⟨RX0, "become", "(LMaskTouch$Body;)V"⟩
abbrev cX0_become : ByteArray := prog_2_method_3_code
abbrev cX0_settle : ByteArray := prog_2_method_2_code
abbrev cX0_told : ByteArray := prog_2_method_4_code
abbrev cX1_become : ByteArray := prog_3_method_3_code
abbrev cX1_clear : ByteArray := prog_3_method_2_code
abbrev cX1_dotsOfAll : ByteArray := prog_3_method_4_code
def yX0_settle : MethodName := ⟨RX0, "settle", "(III)V"⟩
def yX0_told : MethodName := ⟨RX0, "told", "(I)I"⟩
def yX1_become : MethodName := ⟨RX1, "become", "(LMaskTouch$Field;)V"⟩
def yX1_clear : MethodName := ⟨RX1, "clear", "()V"⟩
def yX1_dotsOfAll : MethodName := ⟨RX1, "dotsOfAll", "()I"⟩
theorem dX0_become_0 : decode cX0_become 0 = .ok (.aload_n 0, 1) := by decide +kernel
theorem dX0_become_1 : decode cX0_become 1 = .ok (.aload_n 1, 1) := by decide +kernel
theorem dX0_become_2 : decode cX0_become 2 = .ok (.getfield 7, 3) := by decide +kernel
theorem dX0_become_5 : decode cX0_become 5 = .ok (.putfield 7, 3) := by decide +kernel
theorem dX0_become_8 : decode cX0_become 8 = .ok (.aload_n 0, 1) := by decide +kernel
theorem dX0_become_9 : decode cX0_become 9 = .ok (.aload_n 1, 1) := by decide +kernel
theorem dX0_become_10 : decode cX0_become 10 = .ok (.getfield 13, 3) := by decide +kernel
theorem dX0_become_13 : decode cX0_become 13 = .ok (.putfield 13, 3) := by decide +kernel
theorem dX0_become_16 : decode cX0_become 16 = .ok (.aload_n 0, 1) := by decide +kernel
theorem dX0_become_17 : decode cX0_become 17 = .ok (.aload_n 1, 1) := by decide +kernel
theorem dX0_become_18 : decode cX0_become 18 = .ok (.getfield 16, 3) := by decide +kernel
theorem dX0_become_21 : decode cX0_become 21 = .ok (.putfield 16, 3) := by decide +kernel
theorem dX0_become_24 : decode cX0_become 24 = .ok (.aload_n 0, 1) := by decide +kernel
theorem dX0_become_25 : decode cX0_become 25 = .ok (.aload_n 1, 1) := by decide +kernel
theorem dX0_become_26 : decode cX0_become 26 = .ok (.getfield 19, 3) := by decide +kernel
theorem dX0_become_29 : decode cX0_become 29 = .ok (.putfield 19, 3) := by decide +kernel
theorem dX0_become_32 : decode cX0_become 32 = .ok (.aload_n 0, 1) := by decide +kernel
theorem dX0_become_33 : decode cX0_become 33 = .ok (.aload_n 1, 1) := by decide +kernel
theorem dX0_become_34 : decode cX0_become 34 = .ok (.getfield 22, 3) := by decide +kernel
theorem dX0_become_37 : decode cX0_become 37 = .ok (.putfield 22, 3) := by decide +kernel
theorem dX0_become_40 : decode cX0_become 40 = .ok (.aload_n 0, 1) := by decide +kernel
theorem dX0_become_41 : decode cX0_become 41 = .ok (.aload_n 1, 1) := by decide +kernel
theorem dX0_become_42 : decode cX0_become 42 = .ok (.getfield 25, 3) := by decide +kernel
theorem dX0_become_45 : decode cX0_become 45 = .ok (.putfield 25, 3) := by decide +kernel
theorem dX0_become_48 : decode cX0_become 48 = .ok (.aload_n 0, 1) := by decide +kernel
theorem dX0_become_49 : decode cX0_become 49 = .ok (.aload_n 1, 1) := by decide +kernel
theorem dX0_become_50 : decode cX0_become 50 = .ok (.getfield 28, 3) := by decide +kernel
theorem dX0_become_53 : decode cX0_become 53 = .ok (.putfield 28, 3) := by decide +kernel
theorem dX0_become_56 : decode cX0_become 56 = .ok (.aload_n 0, 1) := by decide +kernel
theorem dX0_become_57 : decode cX0_become 57 = .ok (.aload_n 1, 1) := by decide +kernel
theorem dX0_become_58 : decode cX0_become 58 = .ok (.getfield 31, 3) := by decide +kernel
theorem dX0_become_61 : decode cX0_become 61 = .ok (.putfield 31, 3) := by decide +kernel
theorem dX0_become_64 : decode cX0_become 64 = .ok (.return_, 1) := by decide +kernel
theorem dX0_settle_0 : decode cX0_settle 0 = .ok (.aload_n 0, 1) := by decide +kernel
theorem dX0_settle_1 : decode cX0_settle 1 = .ok (.iload_n 1, 1) := by decide +kernel
theorem dX0_settle_2 : decode cX0_settle 2 = .ok (.putfield 7, 3) := by decide +kernel
theorem dX0_settle_5 : decode cX0_settle 5 = .ok (.aload_n 0, 1) := by decide +kernel
theorem dX0_settle_6 : decode cX0_settle 6 = .ok (.iload_n 2, 1) := by decide +kernel
theorem dX0_settle_7 : decode cX0_settle 7 = .ok (.putfield 13, 3) := by decide +kernel
theorem dX0_settle_10 : decode cX0_settle 10 = .ok (.aload_n 0, 1) := by decide +kernel
theorem dX0_settle_11 : decode cX0_settle 11 = .ok (.iload_n 3, 1) := by decide +kernel
theorem dX0_settle_12 : decode cX0_settle 12 = .ok (.putfield 16, 3) := by decide +kernel
theorem dX0_settle_15 : decode cX0_settle 15 = .ok (.aload_n 0, 1) := by decide +kernel
theorem dX0_settle_16 : decode cX0_settle 16 = .ok (.iconst 0, 1) := by decide +kernel
theorem dX0_settle_17 : decode cX0_settle 17 = .ok (.putfield 19, 3) := by decide +kernel
theorem dX0_settle_20 : decode cX0_settle 20 = .ok (.aload_n 0, 1) := by decide +kernel
theorem dX0_settle_21 : decode cX0_settle 21 = .ok (.iconst 1, 1) := by decide +kernel
theorem dX0_settle_22 : decode cX0_settle 22 = .ok (.putfield 22, 3) := by decide +kernel
theorem dX0_settle_25 : decode cX0_settle 25 = .ok (.aload_n 0, 1) := by decide +kernel
theorem dX0_settle_26 : decode cX0_settle 26 = .ok (.iconst 1, 1) := by decide +kernel
theorem dX0_settle_27 : decode cX0_settle 27 = .ok (.putfield 25, 3) := by decide +kernel
theorem dX0_settle_30 : decode cX0_settle 30 = .ok (.aload_n 0, 1) := by decide +kernel
theorem dX0_settle_31 : decode cX0_settle 31 = .ok (.iconst 0, 1) := by decide +kernel
theorem dX0_settle_32 : decode cX0_settle 32 = .ok (.putfield 28, 3) := by decide +kernel
theorem dX0_settle_35 : decode cX0_settle 35 = .ok (.aload_n 0, 1) := by decide +kernel
theorem dX0_settle_36 : decode cX0_settle 36 = .ok (.iconst 0, 1) := by decide +kernel
theorem dX0_settle_37 : decode cX0_settle 37 = .ok (.putfield 31, 3) := by decide +kernel
theorem dX0_settle_40 : decode cX0_settle 40 = .ok (.return_, 1) := by decide +kernel
theorem dX0_told_0 : decode cX0_told 0 = .ok (.iload_n 1, 1) := by decide +kernel
theorem dX0_told_1 : decode cX0_told 1 = .ok (.tableswitch 78 0 6 #[43, 48, 53, 58, 63, 68, 73], 43) := by decide +kernel
theorem dX0_told_44 : decode cX0_told 44 = .ok (.aload_n 0, 1) := by decide +kernel
theorem dX0_told_45 : decode cX0_told 45 = .ok (.getfield 7, 3) := by decide +kernel
theorem dX0_told_48 : decode cX0_told 48 = .ok (.ireturn, 1) := by decide +kernel
theorem dX0_told_49 : decode cX0_told 49 = .ok (.aload_n 0, 1) := by decide +kernel
theorem dX0_told_50 : decode cX0_told 50 = .ok (.getfield 13, 3) := by decide +kernel
theorem dX0_told_53 : decode cX0_told 53 = .ok (.ireturn, 1) := by decide +kernel
theorem dX0_told_54 : decode cX0_told 54 = .ok (.aload_n 0, 1) := by decide +kernel
theorem dX0_told_55 : decode cX0_told 55 = .ok (.getfield 16, 3) := by decide +kernel
theorem dX0_told_58 : decode cX0_told 58 = .ok (.ireturn, 1) := by decide +kernel
theorem dX0_told_59 : decode cX0_told 59 = .ok (.aload_n 0, 1) := by decide +kernel
theorem dX0_told_60 : decode cX0_told 60 = .ok (.getfield 19, 3) := by decide +kernel
theorem dX0_told_63 : decode cX0_told 63 = .ok (.ireturn, 1) := by decide +kernel
theorem dX0_told_64 : decode cX0_told 64 = .ok (.aload_n 0, 1) := by decide +kernel
theorem dX0_told_65 : decode cX0_told 65 = .ok (.getfield 22, 3) := by decide +kernel
theorem dX0_told_68 : decode cX0_told 68 = .ok (.ireturn, 1) := by decide +kernel
theorem dX0_told_69 : decode cX0_told 69 = .ok (.aload_n 0, 1) := by decide +kernel
theorem dX0_told_70 : decode cX0_told 70 = .ok (.getfield 25, 3) := by decide +kernel
theorem dX0_told_73 : decode cX0_told 73 = .ok (.ireturn, 1) := by decide +kernel
theorem dX0_told_74 : decode cX0_told 74 = .ok (.aload_n 0, 1) := by decide +kernel
theorem dX0_told_75 : decode cX0_told 75 = .ok (.getfield 28, 3) := by decide +kernel
theorem dX0_told_78 : decode cX0_told 78 = .ok (.ireturn, 1) := by decide +kernel
theorem dX0_told_79 : decode cX0_told 79 = .ok (.aload_n 0, 1) := by decide +kernel
theorem dX0_told_80 : decode cX0_told 80 = .ok (.getfield 31, 3) := by decide +kernel
theorem dX0_told_83 : decode cX0_told 83 = .ok (.ireturn, 1) := by decide +kernel
theorem dX1_become_0 : decode cX1_become 0 = .ok (.aload_n 0, 1) := by decide +kernel
theorem dX1_become_1 : decode cX1_become 1 = .ok (.aload_n 1, 1) := by decide +kernel
theorem dX1_become_2 : decode cX1_become 2 = .ok (.getfield 23, 3) := by decide +kernel
theorem dX1_become_5 : decode cX1_become 5 = .ok (.putfield 23, 3) := by decide +kernel
theorem dX1_become_8 : decode cX1_become 8 = .ok (.aload_n 0, 1) := by decide +kernel
theorem dX1_become_9 : decode cX1_become 9 = .ok (.aload_n 1, 1) := by decide +kernel
theorem dX1_become_10 : decode cX1_become 10 = .ok (.getfield 27, 3) := by decide +kernel
theorem dX1_become_13 : decode cX1_become 13 = .ok (.putfield 27, 3) := by decide +kernel
theorem dX1_become_16 : decode cX1_become 16 = .ok (.aload_n 0, 1) := by decide +kernel
theorem dX1_become_17 : decode cX1_become 17 = .ok (.aload_n 1, 1) := by decide +kernel
theorem dX1_become_18 : decode cX1_become 18 = .ok (.getfield 30, 3) := by decide +kernel
theorem dX1_become_21 : decode cX1_become 21 = .ok (.putfield 30, 3) := by decide +kernel
theorem dX1_become_24 : decode cX1_become 24 = .ok (.iconst 0, 1) := by decide +kernel
theorem dX1_become_25 : decode cX1_become 25 = .ok (.istore_n 2, 1) := by decide +kernel
theorem dX1_become_26 : decode cX1_become 26 = .ok (.iload_n 2, 1) := by decide +kernel
theorem dX1_become_27 : decode cX1_become 27 = .ok (.aload_n 0, 1) := by decide +kernel
theorem dX1_become_28 : decode cX1_become 28 = .ok (.getfield 23, 3) := by decide +kernel
theorem dX1_become_31 : decode cX1_become 31 = .ok (.if_icmp .ge 24, 3) := by decide +kernel
theorem dX1_become_34 : decode cX1_become 34 = .ok (.aload_n 0, 1) := by decide +kernel
theorem dX1_become_35 : decode cX1_become 35 = .ok (.getfield 11, 3) := by decide +kernel
theorem dX1_become_38 : decode cX1_become 38 = .ok (.iload_n 2, 1) := by decide +kernel
theorem dX1_become_39 : decode cX1_become 39 = .ok (.aaload, 1) := by decide +kernel
theorem dX1_become_40 : decode cX1_become 40 = .ok (.aload_n 1, 1) := by decide +kernel
theorem dX1_become_41 : decode cX1_become 41 = .ok (.getfield 11, 3) := by decide +kernel
theorem dX1_become_44 : decode cX1_become 44 = .ok (.iload_n 2, 1) := by decide +kernel
theorem dX1_become_45 : decode cX1_become 45 = .ok (.aaload, 1) := by decide +kernel
theorem dX1_become_46 : decode cX1_become 46 = .ok (.invokevirtual 35, 3) := by decide +kernel
theorem dX1_become_49 : decode cX1_become 49 = .ok (.iinc 2 1, 3) := by decide +kernel
theorem dX1_become_52 : decode cX1_become 52 = .ok (.goto (-26), 3) := by decide +kernel
theorem dX1_become_55 : decode cX1_become 55 = .ok (.iconst 0, 1) := by decide +kernel
theorem dX1_become_56 : decode cX1_become 56 = .ok (.istore_n 2, 1) := by decide +kernel
theorem dX1_become_57 : decode cX1_become 57 = .ok (.iload_n 2, 1) := by decide +kernel
theorem dX1_become_58 : decode cX1_become 58 = .ok (.aload_n 0, 1) := by decide +kernel
theorem dX1_become_59 : decode cX1_become 59 = .ok (.getfield 27, 3) := by decide +kernel
theorem dX1_become_62 : decode cX1_become 62 = .ok (.if_icmp .ge 24, 3) := by decide +kernel
theorem dX1_become_65 : decode cX1_become 65 = .ok (.aload_n 0, 1) := by decide +kernel
theorem dX1_become_66 : decode cX1_become 66 = .ok (.getfield 19, 3) := by decide +kernel
theorem dX1_become_69 : decode cX1_become 69 = .ok (.iload_n 2, 1) := by decide +kernel
theorem dX1_become_70 : decode cX1_become 70 = .ok (.aaload, 1) := by decide +kernel
theorem dX1_become_71 : decode cX1_become 71 = .ok (.aload_n 1, 1) := by decide +kernel
theorem dX1_become_72 : decode cX1_become 72 = .ok (.getfield 19, 3) := by decide +kernel
theorem dX1_become_75 : decode cX1_become 75 = .ok (.iload_n 2, 1) := by decide +kernel
theorem dX1_become_76 : decode cX1_become 76 = .ok (.aaload, 1) := by decide +kernel
theorem dX1_become_77 : decode cX1_become 77 = .ok (.invokevirtual 39, 3) := by decide +kernel
theorem dX1_become_80 : decode cX1_become 80 = .ok (.iinc 2 1, 3) := by decide +kernel
theorem dX1_become_83 : decode cX1_become 83 = .ok (.goto (-26), 3) := by decide +kernel
theorem dX1_become_86 : decode cX1_become 86 = .ok (.return_, 1) := by decide +kernel
theorem dX1_clear_0 : decode cX1_clear 0 = .ok (.aload_n 0, 1) := by decide +kernel
theorem dX1_clear_1 : decode cX1_clear 1 = .ok (.iconst 0, 1) := by decide +kernel
theorem dX1_clear_2 : decode cX1_clear 2 = .ok (.putfield 23, 3) := by decide +kernel
theorem dX1_clear_5 : decode cX1_clear 5 = .ok (.aload_n 0, 1) := by decide +kernel
theorem dX1_clear_6 : decode cX1_clear 6 = .ok (.iconst 0, 1) := by decide +kernel
theorem dX1_clear_7 : decode cX1_clear 7 = .ok (.putfield 27, 3) := by decide +kernel
theorem dX1_clear_10 : decode cX1_clear 10 = .ok (.aload_n 0, 1) := by decide +kernel
theorem dX1_clear_11 : decode cX1_clear 11 = .ok (.iconst 0, 1) := by decide +kernel
theorem dX1_clear_12 : decode cX1_clear 12 = .ok (.putfield 30, 3) := by decide +kernel
theorem dX1_clear_15 : decode cX1_clear 15 = .ok (.return_, 1) := by decide +kernel
theorem dX1_dotsOfAll_0 : decode cX1_dotsOfAll 0 = .ok (.iconst 0, 1) := by decide +kernel
theorem dX1_dotsOfAll_1 : decode cX1_dotsOfAll 1 = .ok (.istore_n 1, 1) := by decide +kernel
theorem dX1_dotsOfAll_2 : decode cX1_dotsOfAll 2 = .ok (.iconst 0, 1) := by decide +kernel
theorem dX1_dotsOfAll_3 : decode cX1_dotsOfAll 3 = .ok (.istore_n 2, 1) := by decide +kernel
theorem dX1_dotsOfAll_4 : decode cX1_dotsOfAll 4 = .ok (.iload_n 2, 1) := by decide +kernel
theorem dX1_dotsOfAll_5 : decode cX1_dotsOfAll 5 = .ok (.aload_n 0, 1) := by decide +kernel
theorem dX1_dotsOfAll_6 : decode cX1_dotsOfAll 6 = .ok (.getfield 23, 3) := by decide +kernel
theorem dX1_dotsOfAll_9 : decode cX1_dotsOfAll 9 = .ok (.if_icmp .ge 21, 3) := by decide +kernel
theorem dX1_dotsOfAll_12 : decode cX1_dotsOfAll 12 = .ok (.iload_n 1, 1) := by decide +kernel
theorem dX1_dotsOfAll_13 : decode cX1_dotsOfAll 13 = .ok (.aload_n 0, 1) := by decide +kernel
theorem dX1_dotsOfAll_14 : decode cX1_dotsOfAll 14 = .ok (.getfield 11, 3) := by decide +kernel
theorem dX1_dotsOfAll_17 : decode cX1_dotsOfAll 17 = .ok (.iload_n 2, 1) := by decide +kernel
theorem dX1_dotsOfAll_18 : decode cX1_dotsOfAll 18 = .ok (.aaload, 1) := by decide +kernel
theorem dX1_dotsOfAll_19 : decode cX1_dotsOfAll 19 = .ok (.getfield 42, 3) := by decide +kernel
theorem dX1_dotsOfAll_22 : decode cX1_dotsOfAll 22 = .ok (.iadd, 1) := by decide +kernel
theorem dX1_dotsOfAll_23 : decode cX1_dotsOfAll 23 = .ok (.istore_n 1, 1) := by decide +kernel
theorem dX1_dotsOfAll_24 : decode cX1_dotsOfAll 24 = .ok (.iinc 2 1, 3) := by decide +kernel
theorem dX1_dotsOfAll_27 : decode cX1_dotsOfAll 27 = .ok (.goto (-23), 3) := by decide +kernel
theorem dX1_dotsOfAll_30 : decode cX1_dotsOfAll 30 = .ok (.iload_n 1, 1) := by decide +kernel
theorem dX1_dotsOfAll_31 : decode cX1_dotsOfAll 31 = .ok (.ireturn, 1) := by decide +kernel
set_option maxRecDepth 100000 in
theorem pq77 : Cond.initialized RX0 ∈ pw := pw_mem (i := 77) (by decide +kernel) rfl
set_option maxRecDepth 100000 in
theorem pq131 : Cond.fieldLink RX1 42 "MaskTouch$Mask" "total" "I" ∈ pw := pw_mem (i := 131) (by decide +kernel) rfl
set_option maxRecDepth 100000 in
theorem pq169 : Cond.fieldLink RX0 7 "MaskTouch$Body" "mask" "I" ∈ pw := pw_mem (i := 169) (by decide +kernel) rfl
set_option maxRecDepth 100000 in
theorem pq172 : Cond.fieldLink RX0 13 "MaskTouch$Body" "x" "I" ∈ pw := pw_mem (i := 172) (by decide +kernel) rfl
set_option maxRecDepth 100000 in
theorem pq175 : Cond.fieldLink RX0 16 "MaskTouch$Body" "y" "I" ∈ pw := pw_mem (i := 175) (by decide +kernel) rfl
set_option maxRecDepth 100000 in
theorem pq178 : Cond.fieldLink RX0 19 "MaskTouch$Body" "flip" "I" ∈ pw := pw_mem (i := 178) (by decide +kernel) rfl
set_option maxRecDepth 100000 in
theorem pq182 : Cond.fieldLink RX0 22 "MaskTouch$Body" "own" "I" ∈ pw := pw_mem (i := 182) (by decide +kernel) rfl
set_option maxRecDepth 100000 in
theorem pq186 : Cond.fieldLink RX0 25 "MaskTouch$Body" "sees" "I" ∈ pw := pw_mem (i := 186) (by decide +kernel) rfl
set_option maxRecDepth 100000 in
theorem pq190 : Cond.fieldLink RX0 28 "MaskTouch$Body" "vx" "I" ∈ pw := pw_mem (i := 190) (by decide +kernel) rfl
set_option maxRecDepth 100000 in
theorem pq193 : Cond.fieldLink RX0 31 "MaskTouch$Body" "vy" "I" ∈ pw := pw_mem (i := 193) (by decide +kernel) rfl
set_option maxRecDepth 100000 in
theorem pq213 : Cond.fieldLink RX1 11 "MaskTouch$Field" "masks" "[LMaskTouch$Mask;" ∈ pw := pw_mem (i := 213) (by decide +kernel) rfl
set_option maxRecDepth 100000 in
theorem pq217 : Cond.fieldLink RX1 19 "MaskTouch$Field" "bodies" "[LMaskTouch$Body;" ∈ pw := pw_mem (i := 217) (by decide +kernel) rfl
set_option maxRecDepth 100000 in
theorem pq221 : Cond.fieldLink RX1 23 "MaskTouch$Field" "maskCount" "I" ∈ pw := pw_mem (i := 221) (by decide +kernel) rfl
set_option maxRecDepth 100000 in
theorem pq224 : Cond.fieldLink RX1 27 "MaskTouch$Field" "bodyCount" "I" ∈ pw := pw_mem (i := 224) (by decide +kernel) rfl
set_option maxRecDepth 100000 in
theorem pq228 : Cond.fieldLink RX1 30 "MaskTouch$Field" "tickCount" "I" ∈ pw := pw_mem (i := 228) (by decide +kernel) rfl
set_option maxRecDepth 100000 in
theorem pq593 : Cond.methodLink RX1 35 yX3_become ∈ pw := pw_mem (i := 593) (by decide +kernel) rfl
set_option maxRecDepth 100000 in
theorem pq600 : Cond.methodLink RX1 39 yX0_become ∈ pw := pw_mem (i := 600) (by decide +kernel) rfl
set_option maxRecDepth 100000 in
theorem pq601 : Cond.instanceMethod yX0_become ∈ pw := pw_mem (i := 601) (by decide +kernel) rfl
set_option maxRecDepth 100000 in
theorem pq602 : Cond.selects RX0 yX0_become yX0_become ∈ pw := pw_mem (i := 602) (by decide +kernel) rfl
set_option maxRecDepth 100000 in
theorem pq603 : Cond.code yX0_become cX0_become 2 none ∈ pw := pw_mem (i := 603) (by rfl) rfl
set_option maxHeartbeats 4000000 in
set_option maxRecDepth 100000 in
theorem s_X0_settle (l : Launch) (dC : Nat → ClassId) (dI : Nat → Nat → Nat) (cs : Nat → ClassId) (L : List Nat) (K G : Nat → Nat) (Q : Nat → Nat → Option Nat) (hQ : Sv L K G Q) (x0 m0 : Nat) (tx : GT) (tm : GT × Int) (sz : Nat) (I : Nat → Nat → Int32) (J : Nat → Nat → Int64) (hI : Iv L K x0 m0 tx tm I) (p0 : Nat) (hLp0 : p0 ∈ L) (hKp0 : K p0 = 0) (p1 : Int32) (bp1 : (0) ≤ p1.toInt ∧ p1.toInt ≤ 7) (p2 : Int32) (bp2 : (-999) ≤ p2.toInt ∧ p2.toInt ≤ 999) (p3 : Int32) (bp3 : (-999) ≤ p3.toInt ∧ p3.toInt ≤ 999) : Met l yX0_settle (.code yX0_settle cX0_settle 4 none :: pw) ({ frames := 0, cells := 0, slots := 0, locals := 0 }) (sP (dC, dI) cs [.ref p0, .int p1, .int p2, .int p3] sz L K I J Q) (va_Qv (fun (_ : Unit) => True) (fun _ t => sB (dC, dI) cs L K Q (fun I1 J1 => Iv L K x0 m0 tx tm I1 ∧ (∀ b, ¬ (b = p0) → I1 b = I b) ∧ (I1 p0 = stB p1 p2 p3 (I p0)) ∧ J1 = J) t) (fun q => q ∈ L ∨ sz ≤ q)) 0 0 (fun q => q ∈ L ∨ sz ≤ q) := by
  refine Met.ofW (cc := cX0_settle) (maxL := 4) (ret := none) (by decide +kernel) rfl ?_
  intro p e s m args below meth c s₁ B hml hv
  obtain ⟨rfl, hsz, hP, hK, hD0, hN⟩ := hv
  have hx := B.exec
  have hb := B.bytes
  have hr := B.returns
  have hts := fun w (h : w ∈ pw) => atoms_spec (ws := Cond.code yX0_settle cX0_settle 4 none :: pw) B.pre w (List.mem_cons_of_mem _ h)
  have hown : s.vm.findClass RX0 = some m.cls := findClass_of_methodNamed B.named
  have hlocks := B.notSynchronized
  subst hsz
  have hBB : 999 ≤ tm.2 ∧ tm.2 ≤ 6000000 := hI.2.2.2.2.1
  have dj_J : J = J := rfl
  have fr_I : ∀ b, ¬ (b = p0) → I b = I b := fun _ _ => rfl
  obtain ⟨A, hAe⟩ : ∃ A : Nat → Prop, A = (fun q => q ∈ L ∨ s.heap.size ≤ q) := ⟨_, rfl⟩
  rw [← hAe]
  have hAL : ∀ q, q ∈ L → A q := fun q h => by rw [hAe]; exact Or.inl h
  have hA : ∀ q, s.heap.size ≤ q → A q := fun q h => by rw [hAe]; exact Or.inr h
  have hD : ∀ F, va_D A (va_pl L F) := fun F => (hD0 F).weaken (fun k q hk _ => hAL _ (pl_mem hk))
  obtain ⟨H, hHe⟩ : ∃ H : Heap, H = s.heap := ⟨_, rfl⟩
  have hS : va_S A s.heap H [] := by rw [hHe]; exact va_S.rf
  rw [← hHe] at hP
  have hl := lv_entry ([.ref p0, .int p1, .int p2, .int p3]) (n := 4) (Nat.le_of_ble_eq_true rfl)
  rw [lg_entry_eq]
  generalize (lg_sl ([.ref p0, .int p1, .int p2, .int p3]) ++ List.replicate (4 - (lg_sl ([.ref p0, .int p1, .int p2, .int p3])).length) Slot.unset).toArray = ls at hl ⊢
  have hl : lv_has ls 4 [(0, .ref p0), (1, .int p1), (2, .int p2), (3, .int p3)] := hl
  rw [← hHe]
  refine namedW (fun R Qz hR hQz => ?_)
  refine lv_aload_n hx hb dX0_settle_0 rfl (lv_at hl 0 rfl) ?_
  refine lv_iload_n hx hb dX0_settle_1 rfl (lv_at hl 1 rfl) ?_
  refine p_put hx hb hts inX0 tyX0 tyX0_ok nmX0 hown hK hP hD hS hLp0 hKp0 rfl rfl 0 (by decide) (hts _ pq169) rfl (by decide +kernel) (Nat.le_of_ble_eq_true rfl) (oS_0_0 cs _ _ _ _) dX0_settle_2 (fun H locs hP hS => ?_)
  obtain ⟨Iz2, hP, hIz2, qIz2⟩ : ∃ Iz2, va_P (dC, dI) vwCl (Wd cs L K Iz2 J Q) H ∧ Iv L K x0 m0 tx tm Iz2 ∧ Iz2 = va_up I p0 (upd (I p0) 0 p1) := ⟨_, hP, Iv_put hI hKp0 (oP_0_0 (Iv_at hI hLp0 hKp0) ⟨by omega, by omega⟩) (by decide) (by decide), rfl⟩
  have fr_Iz2 : ∀ b, ¬ (b = p0) → Iz2 b = I b := fun b q => (congrFun qIz2 b).trans ((va_up_ne _ _ (fun z => q z)).trans (fr_I b q))
  refine lv_aload_n hx hb dX0_settle_5 rfl (lv_at hl 0 rfl) ?_
  refine lv_iload_n hx hb dX0_settle_6 rfl (lv_at hl 2 rfl) ?_
  refine p_put hx hb hts inX0 tyX0 tyX0_ok nmX0 hown hK hP hD hS hLp0 hKp0 rfl rfl 1 (by decide) (hts _ pq172) rfl (by decide +kernel) (Nat.le_of_ble_eq_true rfl) (oS_0_1 cs _ _ _ _) dX0_settle_7 (fun H locs hP hS => ?_)
  obtain ⟨Iz7, hP, hIz7, qIz7⟩ : ∃ Iz7, va_P (dC, dI) vwCl (Wd cs L K Iz7 J Q) H ∧ Iv L K x0 m0 tx tm Iz7 ∧ Iz7 = va_up Iz2 p0 (upd (Iz2 p0) 1 p2) := ⟨_, hP, Iv_put hIz2 hKp0 (oP_0_1 (Iv_at hIz2 hLp0 hKp0) ⟨by omega, by omega⟩) (by decide) (by decide), rfl⟩
  have fr_Iz7 : ∀ b, ¬ (b = p0) → Iz7 b = I b := fun b q => (congrFun qIz7 b).trans ((va_up_ne _ _ (fun z => q z)).trans (fr_Iz2 b q))
  refine lv_aload_n hx hb dX0_settle_10 rfl (lv_at hl 0 rfl) ?_
  refine lv_iload_n hx hb dX0_settle_11 rfl (lv_at hl 3 rfl) ?_
  refine p_put hx hb hts inX0 tyX0 tyX0_ok nmX0 hown hK hP hD hS hLp0 hKp0 rfl rfl 2 (by decide) (hts _ pq175) rfl (by decide +kernel) (Nat.le_of_ble_eq_true rfl) (oS_0_2 cs _ _ _ _) dX0_settle_12 (fun H locs hP hS => ?_)
  obtain ⟨Iz12, hP, hIz12, qIz12⟩ : ∃ Iz12, va_P (dC, dI) vwCl (Wd cs L K Iz12 J Q) H ∧ Iv L K x0 m0 tx tm Iz12 ∧ Iz12 = va_up Iz7 p0 (upd (Iz7 p0) 2 p3) := ⟨_, hP, Iv_put hIz7 hKp0 (oP_0_2 (Iv_at hIz7 hLp0 hKp0) ⟨by omega, by omega⟩) (by decide) (by decide), rfl⟩
  have fr_Iz12 : ∀ b, ¬ (b = p0) → Iz12 b = I b := fun b q => (congrFun qIz12 b).trans ((va_up_ne _ _ (fun z => q z)).trans (fr_Iz7 b q))
  refine lv_aload_n hx hb dX0_settle_15 rfl (lv_at hl 0 rfl) ?_
  refine lv_iconst (v := 0) hx hb dX0_settle_16 (by decide +kernel) ?_
  refine p_put hx hb hts inX0 tyX0 tyX0_ok nmX0 hown hK hP hD hS hLp0 hKp0 rfl rfl 3 (by decide) (hts _ pq178) rfl (by decide +kernel) (Nat.le_of_ble_eq_true rfl) (oS_0_3 cs _ _ _ _) dX0_settle_17 (fun H locs hP hS => ?_)
  obtain ⟨Iz17, hP, hIz17, qIz17⟩ : ∃ Iz17, va_P (dC, dI) vwCl (Wd cs L K Iz17 J Q) H ∧ Iv L K x0 m0 tx tm Iz17 ∧ Iz17 = va_up Iz12 p0 (upd (Iz12 p0) 3 (0 : Int32)) := ⟨_, hP, Iv_put hIz12 hKp0 (oP_0_3 (Iv_at hIz12 hLp0 hKp0) ⟨by decide +kernel, by decide +kernel⟩) (by decide) (by decide), rfl⟩
  have fr_Iz17 : ∀ b, ¬ (b = p0) → Iz17 b = I b := fun b q => (congrFun qIz17 b).trans ((va_up_ne _ _ (fun z => q z)).trans (fr_Iz12 b q))
  refine lv_aload_n hx hb dX0_settle_20 rfl (lv_at hl 0 rfl) ?_
  refine lv_iconst (v := 1) hx hb dX0_settle_21 (by decide +kernel) ?_
  refine p_put hx hb hts inX0 tyX0 tyX0_ok nmX0 hown hK hP hD hS hLp0 hKp0 rfl rfl 4 (by decide) (hts _ pq182) rfl (by decide +kernel) (Nat.le_of_ble_eq_true rfl) (oS_0_4 cs _ _ _ _) dX0_settle_22 (fun H locs hP hS => ?_)
  obtain ⟨Iz22, hP, hIz22, qIz22⟩ : ∃ Iz22, va_P (dC, dI) vwCl (Wd cs L K Iz22 J Q) H ∧ Iv L K x0 m0 tx tm Iz22 ∧ Iz22 = va_up Iz17 p0 (upd (Iz17 p0) 4 (1 : Int32)) := ⟨_, hP, Iv_put hIz17 hKp0 (oP_0_4 (Iv_at hIz17 hLp0 hKp0) ⟨by decide +kernel, by decide +kernel⟩) (by decide) (by decide), rfl⟩
  have fr_Iz22 : ∀ b, ¬ (b = p0) → Iz22 b = I b := fun b q => (congrFun qIz22 b).trans ((va_up_ne _ _ (fun z => q z)).trans (fr_Iz17 b q))
  refine lv_aload_n hx hb dX0_settle_25 rfl (lv_at hl 0 rfl) ?_
  refine lv_iconst (v := 1) hx hb dX0_settle_26 (by decide +kernel) ?_
  refine p_put hx hb hts inX0 tyX0 tyX0_ok nmX0 hown hK hP hD hS hLp0 hKp0 rfl rfl 5 (by decide) (hts _ pq186) rfl (by decide +kernel) (Nat.le_of_ble_eq_true rfl) (oS_0_5 cs _ _ _ _) dX0_settle_27 (fun H locs hP hS => ?_)
  obtain ⟨Iz27, hP, hIz27, qIz27⟩ : ∃ Iz27, va_P (dC, dI) vwCl (Wd cs L K Iz27 J Q) H ∧ Iv L K x0 m0 tx tm Iz27 ∧ Iz27 = va_up Iz22 p0 (upd (Iz22 p0) 5 (1 : Int32)) := ⟨_, hP, Iv_put hIz22 hKp0 (oP_0_5 (Iv_at hIz22 hLp0 hKp0) ⟨by decide +kernel, by decide +kernel⟩) (by decide) (by decide), rfl⟩
  have fr_Iz27 : ∀ b, ¬ (b = p0) → Iz27 b = I b := fun b q => (congrFun qIz27 b).trans ((va_up_ne _ _ (fun z => q z)).trans (fr_Iz22 b q))
  refine lv_aload_n hx hb dX0_settle_30 rfl (lv_at hl 0 rfl) ?_
  refine lv_iconst (v := 0) hx hb dX0_settle_31 (by decide +kernel) ?_
  refine p_put hx hb hts inX0 tyX0 tyX0_ok nmX0 hown hK hP hD hS hLp0 hKp0 rfl rfl 6 (by decide) (hts _ pq190) rfl (by decide +kernel) (Nat.le_of_ble_eq_true rfl) (oS_0_6 cs _ _ _ _) dX0_settle_32 (fun H locs hP hS => ?_)
  obtain ⟨Iz32, hP, hIz32, qIz32⟩ : ∃ Iz32, va_P (dC, dI) vwCl (Wd cs L K Iz32 J Q) H ∧ Iv L K x0 m0 tx tm Iz32 ∧ Iz32 = va_up Iz27 p0 (upd (Iz27 p0) 6 (0 : Int32)) := ⟨_, hP, Iv_put hIz27 hKp0 (oP_0_6 (Iv_at hIz27 hLp0 hKp0) ⟨by decide +kernel, by decide +kernel⟩) (by decide) (by decide), rfl⟩
  have fr_Iz32 : ∀ b, ¬ (b = p0) → Iz32 b = I b := fun b q => (congrFun qIz32 b).trans ((va_up_ne _ _ (fun z => q z)).trans (fr_Iz27 b q))
  refine lv_aload_n hx hb dX0_settle_35 rfl (lv_at hl 0 rfl) ?_
  refine lv_iconst (v := 0) hx hb dX0_settle_36 (by decide +kernel) ?_
  refine p_put hx hb hts inX0 tyX0 tyX0_ok nmX0 hown hK hP hD hS hLp0 hKp0 rfl rfl 7 (by decide) (hts _ pq193) rfl (by decide +kernel) (Nat.le_of_ble_eq_true rfl) (oS_0_7 cs _ _ _ _) dX0_settle_37 (fun H locs hP hS => ?_)
  obtain ⟨Iz37, hP, hIz37, qIz37⟩ : ∃ Iz37, va_P (dC, dI) vwCl (Wd cs L K Iz37 J Q) H ∧ Iv L K x0 m0 tx tm Iz37 ∧ Iz37 = va_up Iz32 p0 (upd (Iz32 p0) 7 (0 : Int32)) := ⟨_, hP, Iv_put hIz32 hKp0 (oP_0_7 (Iv_at hIz32 hLp0 hKp0) ⟨by decide +kernel, by decide +kernel⟩) (by decide) (by decide), rfl⟩
  have fr_Iz37 : ∀ b, ¬ (b = p0) → Iz37 b = I b := fun b q => (congrFun qIz37 b).trans ((va_up_ne _ _ (fun z => q z)).trans (fr_Iz32 b q))
  subst hR; subst hQz
  exact W.vret hx hb hr (fun t ht hW => ⟨⟨(), rfl, trivial, ⟨Iz37, J, ⟨hIz37, fr_Iz37, (by rw [qIz37, va_up_self, qIz32, va_up_self, qIz27, va_up_self, qIz22, va_up_self, qIz17, va_up_self, qIz12, va_up_self, qIz7, va_up_self, qIz2, va_up_self]; rfl), dj_J⟩, by rw [ht]; exact hP⟩⟩, hS.F ht⟩) hS.2.2 dX0_settle_40

set_option maxHeartbeats 4000000 in
set_option maxRecDepth 100000 in
theorem s_X0_become (l : Launch) (dC : Nat → ClassId) (dI : Nat → Nat → Nat) (cs : Nat → ClassId) (L : List Nat) (K G : Nat → Nat) (Q : Nat → Nat → Option Nat) (hQ : Sv L K G Q) (x0 m0 : Nat) (tx : GT) (tm : GT × Int) (sz : Nat) (I : Nat → Nat → Int32) (J : Nat → Nat → Int64) (hI : Iv L K x0 m0 tx tm I) (p0 : Nat) (hLp0 : p0 ∈ L) (hKp0 : K p0 = 0) (p1 : Nat) (hLp1 : p1 ∈ L) (hKp1 : K p1 = 0) : Met l yX0_become (.code yX0_become cX0_become 2 none :: pw) ({ frames := 0, cells := 0, slots := 0, locals := 0 }) (sP (dC, dI) cs [.ref p0, .ref p1] sz L K I J Q) (va_Qv (fun (_ : Unit) => True) (fun _ t => sB (dC, dI) cs L K Q (fun I1 J1 => Iv L K x0 m0 tx tm I1 ∧ (∀ b, ¬ (b = p0) → I1 b = I b) ∧ (¬ p1 = p0 → ∀ k, k < 8 → I1 p0 k = I p1 k) ∧ J1 = J) t) (fun q => q ∈ L ∨ sz ≤ q)) 0 0 (fun q => q ∈ L ∨ sz ≤ q) := by
  refine Met.ofW (cc := cX0_become) (maxL := 2) (ret := none) (by decide +kernel) rfl ?_
  intro p e s m args below meth c s₁ B hml hv
  obtain ⟨rfl, hsz, hP, hK, hD0, hN⟩ := hv
  have hx := B.exec
  have hb := B.bytes
  have hr := B.returns
  have hts := fun w (h : w ∈ pw) => atoms_spec (ws := Cond.code yX0_become cX0_become 2 none :: pw) B.pre w (List.mem_cons_of_mem _ h)
  have hown : s.vm.findClass RX0 = some m.cls := findClass_of_methodNamed B.named
  have hlocks := B.notSynchronized
  subst hsz
  have hBB : 999 ≤ tm.2 ∧ tm.2 ≤ 6000000 := hI.2.2.2.2.1
  have dj_J : J = J := rfl
  have fr_I : ∀ b, ¬ (b = p0) → I b = I b := fun _ _ => rfl
  obtain ⟨A, hAe⟩ : ∃ A : Nat → Prop, A = (fun q => q ∈ L ∨ s.heap.size ≤ q) := ⟨_, rfl⟩
  rw [← hAe]
  have hAL : ∀ q, q ∈ L → A q := fun q h => by rw [hAe]; exact Or.inl h
  have hA : ∀ q, s.heap.size ≤ q → A q := fun q h => by rw [hAe]; exact Or.inr h
  have hD : ∀ F, va_D A (va_pl L F) := fun F => (hD0 F).weaken (fun k q hk _ => hAL _ (pl_mem hk))
  obtain ⟨H, hHe⟩ : ∃ H : Heap, H = s.heap := ⟨_, rfl⟩
  have hS : va_S A s.heap H [] := by rw [hHe]; exact va_S.rf
  rw [← hHe] at hP
  have hl := lv_entry ([.ref p0, .ref p1]) (n := 2) (Nat.le_of_ble_eq_true rfl)
  rw [lg_entry_eq]
  generalize (lg_sl ([.ref p0, .ref p1]) ++ List.replicate (2 - (lg_sl ([.ref p0, .ref p1])).length) Slot.unset).toArray = ls at hl ⊢
  have hl : lv_has ls 2 [(0, .ref p0), (1, .ref p1)] := hl
  rw [← hHe]
  refine namedW (fun R Qz hR hQz => ?_)
  refine lv_aload_n hx hb dX0_become_0 rfl (lv_at hl 0 rfl) ?_
  refine lv_aload_n hx hb dX0_become_1 rfl (lv_at hl 1 rfl) ?_
  refine p_get hx hb hts inX0 hown hK hP hLp1 hKp1 rfl rfl 0 (by decide) (hts _ pq169) rfl dX0_become_2 ?_
  refine lv_topi (fun z2 ez2 => ?_)
  have bz2 := oI_0_0 (Iv_at hI hLp1 hKp1)
  rw [← ez2] at bz2
  refine p_put hx hb hts inX0 tyX0 tyX0_ok nmX0 hown hK hP hD hS hLp0 hKp0 rfl rfl 0 (by decide) (hts _ pq169) rfl (by decide +kernel) (Nat.le_of_ble_eq_true rfl) (oS_0_0 cs _ _ _ _) dX0_become_5 (fun H locs hP hS => ?_)
  obtain ⟨Iz5, hP, hIz5, qIz5⟩ : ∃ Iz5, va_P (dC, dI) vwCl (Wd cs L K Iz5 J Q) H ∧ Iv L K x0 m0 tx tm Iz5 ∧ Iz5 = va_up I p0 (upd (I p0) 0 z2) := ⟨_, hP, Iv_put hI hKp0 (oP_0_0 (Iv_at hI hLp0 hKp0) ⟨by omega, by omega⟩) (by decide) (by decide), rfl⟩
  have fr_Iz5 : ∀ b, ¬ (b = p0) → Iz5 b = I b := fun b q => (congrFun qIz5 b).trans ((va_up_ne _ _ (fun z => q z)).trans (fr_I b q))
  refine lv_aload_n hx hb dX0_become_8 rfl (lv_at hl 0 rfl) ?_
  refine lv_aload_n hx hb dX0_become_9 rfl (lv_at hl 1 rfl) ?_
  refine p_get hx hb hts inX0 hown hK hP hLp1 hKp1 rfl rfl 1 (by decide) (hts _ pq172) rfl dX0_become_10 ?_
  refine lv_topi (fun z10 ez10 => ?_)
  have cgz10 := congrArg Int32.toInt ez10
  have bz10 := oI_0_1 (Iv_at hIz5 hLp1 hKp1)
  rw [← ez10] at bz10
  refine p_put hx hb hts inX0 tyX0 tyX0_ok nmX0 hown hK hP hD hS hLp0 hKp0 rfl rfl 1 (by decide) (hts _ pq172) rfl (by decide +kernel) (Nat.le_of_ble_eq_true rfl) (oS_0_1 cs _ _ _ _) dX0_become_13 (fun H locs hP hS => ?_)
  obtain ⟨Iz13, hP, hIz13, qIz13⟩ : ∃ Iz13, va_P (dC, dI) vwCl (Wd cs L K Iz13 J Q) H ∧ Iv L K x0 m0 tx tm Iz13 ∧ Iz13 = va_up Iz5 p0 (upd (Iz5 p0) 1 z10) := ⟨_, hP, Iv_put hIz5 hKp0 (oP_0_1 (Iv_at hIz5 hLp0 hKp0) ⟨by omega, by omega⟩) (by decide) (by decide), rfl⟩
  have fr_Iz13 : ∀ b, ¬ (b = p0) → Iz13 b = I b := fun b q => (congrFun qIz13 b).trans ((va_up_ne _ _ (fun z => q z)).trans (fr_Iz5 b q))
  refine lv_aload_n hx hb dX0_become_16 rfl (lv_at hl 0 rfl) ?_
  refine lv_aload_n hx hb dX0_become_17 rfl (lv_at hl 1 rfl) ?_
  refine p_get hx hb hts inX0 hown hK hP hLp1 hKp1 rfl rfl 2 (by decide) (hts _ pq175) rfl dX0_become_18 ?_
  refine lv_topi (fun z18 ez18 => ?_)
  have cgz18 := congrArg Int32.toInt ez18
  have bz18 := oI_0_2 (Iv_at hIz13 hLp1 hKp1)
  rw [← ez18] at bz18
  refine p_put hx hb hts inX0 tyX0 tyX0_ok nmX0 hown hK hP hD hS hLp0 hKp0 rfl rfl 2 (by decide) (hts _ pq175) rfl (by decide +kernel) (Nat.le_of_ble_eq_true rfl) (oS_0_2 cs _ _ _ _) dX0_become_21 (fun H locs hP hS => ?_)
  obtain ⟨Iz21, hP, hIz21, qIz21⟩ : ∃ Iz21, va_P (dC, dI) vwCl (Wd cs L K Iz21 J Q) H ∧ Iv L K x0 m0 tx tm Iz21 ∧ Iz21 = va_up Iz13 p0 (upd (Iz13 p0) 2 z18) := ⟨_, hP, Iv_put hIz13 hKp0 (oP_0_2 (Iv_at hIz13 hLp0 hKp0) ⟨by omega, by omega⟩) (by decide) (by decide), rfl⟩
  have fr_Iz21 : ∀ b, ¬ (b = p0) → Iz21 b = I b := fun b q => (congrFun qIz21 b).trans ((va_up_ne _ _ (fun z => q z)).trans (fr_Iz13 b q))
  refine lv_aload_n hx hb dX0_become_24 rfl (lv_at hl 0 rfl) ?_
  refine lv_aload_n hx hb dX0_become_25 rfl (lv_at hl 1 rfl) ?_
  refine p_get hx hb hts inX0 hown hK hP hLp1 hKp1 rfl rfl 3 (by decide) (hts _ pq178) rfl dX0_become_26 ?_
  refine lv_topi (fun z26 ez26 => ?_)
  have bz26 := oI_0_3 (Iv_at hIz21 hLp1 hKp1)
  rw [← ez26] at bz26
  refine p_put hx hb hts inX0 tyX0 tyX0_ok nmX0 hown hK hP hD hS hLp0 hKp0 rfl rfl 3 (by decide) (hts _ pq178) rfl (by decide +kernel) (Nat.le_of_ble_eq_true rfl) (oS_0_3 cs _ _ _ _) dX0_become_29 (fun H locs hP hS => ?_)
  obtain ⟨Iz29, hP, hIz29, qIz29⟩ : ∃ Iz29, va_P (dC, dI) vwCl (Wd cs L K Iz29 J Q) H ∧ Iv L K x0 m0 tx tm Iz29 ∧ Iz29 = va_up Iz21 p0 (upd (Iz21 p0) 3 z26) := ⟨_, hP, Iv_put hIz21 hKp0 (oP_0_3 (Iv_at hIz21 hLp0 hKp0) ⟨by omega, by omega⟩) (by decide) (by decide), rfl⟩
  have fr_Iz29 : ∀ b, ¬ (b = p0) → Iz29 b = I b := fun b q => (congrFun qIz29 b).trans ((va_up_ne _ _ (fun z => q z)).trans (fr_Iz21 b q))
  refine lv_aload_n hx hb dX0_become_32 rfl (lv_at hl 0 rfl) ?_
  refine lv_aload_n hx hb dX0_become_33 rfl (lv_at hl 1 rfl) ?_
  refine p_get hx hb hts inX0 hown hK hP hLp1 hKp1 rfl rfl 4 (by decide) (hts _ pq182) rfl dX0_become_34 ?_
  refine lv_topi (fun z34 ez34 => ?_)
  have bz34 := oI_0_4 (Iv_at hIz29 hLp1 hKp1)
  rw [← ez34] at bz34
  refine p_put hx hb hts inX0 tyX0 tyX0_ok nmX0 hown hK hP hD hS hLp0 hKp0 rfl rfl 4 (by decide) (hts _ pq182) rfl (by decide +kernel) (Nat.le_of_ble_eq_true rfl) (oS_0_4 cs _ _ _ _) dX0_become_37 (fun H locs hP hS => ?_)
  obtain ⟨Iz37, hP, hIz37, qIz37⟩ : ∃ Iz37, va_P (dC, dI) vwCl (Wd cs L K Iz37 J Q) H ∧ Iv L K x0 m0 tx tm Iz37 ∧ Iz37 = va_up Iz29 p0 (upd (Iz29 p0) 4 z34) := ⟨_, hP, Iv_put hIz29 hKp0 (oP_0_4 (Iv_at hIz29 hLp0 hKp0) ⟨by omega, by omega⟩) (by decide) (by decide), rfl⟩
  have fr_Iz37 : ∀ b, ¬ (b = p0) → Iz37 b = I b := fun b q => (congrFun qIz37 b).trans ((va_up_ne _ _ (fun z => q z)).trans (fr_Iz29 b q))
  refine lv_aload_n hx hb dX0_become_40 rfl (lv_at hl 0 rfl) ?_
  refine lv_aload_n hx hb dX0_become_41 rfl (lv_at hl 1 rfl) ?_
  refine p_get hx hb hts inX0 hown hK hP hLp1 hKp1 rfl rfl 5 (by decide) (hts _ pq186) rfl dX0_become_42 ?_
  refine lv_topi (fun z42 ez42 => ?_)
  have bz42 := oI_0_5 (Iv_at hIz37 hLp1 hKp1)
  rw [← ez42] at bz42
  refine p_put hx hb hts inX0 tyX0 tyX0_ok nmX0 hown hK hP hD hS hLp0 hKp0 rfl rfl 5 (by decide) (hts _ pq186) rfl (by decide +kernel) (Nat.le_of_ble_eq_true rfl) (oS_0_5 cs _ _ _ _) dX0_become_45 (fun H locs hP hS => ?_)
  obtain ⟨Iz45, hP, hIz45, qIz45⟩ : ∃ Iz45, va_P (dC, dI) vwCl (Wd cs L K Iz45 J Q) H ∧ Iv L K x0 m0 tx tm Iz45 ∧ Iz45 = va_up Iz37 p0 (upd (Iz37 p0) 5 z42) := ⟨_, hP, Iv_put hIz37 hKp0 (oP_0_5 (Iv_at hIz37 hLp0 hKp0) ⟨by omega, by omega⟩) (by decide) (by decide), rfl⟩
  have fr_Iz45 : ∀ b, ¬ (b = p0) → Iz45 b = I b := fun b q => (congrFun qIz45 b).trans ((va_up_ne _ _ (fun z => q z)).trans (fr_Iz37 b q))
  refine lv_aload_n hx hb dX0_become_48 rfl (lv_at hl 0 rfl) ?_
  refine lv_aload_n hx hb dX0_become_49 rfl (lv_at hl 1 rfl) ?_
  refine p_get hx hb hts inX0 hown hK hP hLp1 hKp1 rfl rfl 6 (by decide) (hts _ pq190) rfl dX0_become_50 ?_
  refine lv_topi (fun z50 ez50 => ?_)
  have bz50 := oI_0_6 (Iv_at hIz45 hLp1 hKp1)
  rw [← ez50] at bz50
  refine p_put hx hb hts inX0 tyX0 tyX0_ok nmX0 hown hK hP hD hS hLp0 hKp0 rfl rfl 6 (by decide) (hts _ pq190) rfl (by decide +kernel) (Nat.le_of_ble_eq_true rfl) (oS_0_6 cs _ _ _ _) dX0_become_53 (fun H locs hP hS => ?_)
  obtain ⟨Iz53, hP, hIz53, qIz53⟩ : ∃ Iz53, va_P (dC, dI) vwCl (Wd cs L K Iz53 J Q) H ∧ Iv L K x0 m0 tx tm Iz53 ∧ Iz53 = va_up Iz45 p0 (upd (Iz45 p0) 6 z50) := ⟨_, hP, Iv_put hIz45 hKp0 (oP_0_6 (Iv_at hIz45 hLp0 hKp0) ⟨by omega, by omega⟩) (by decide) (by decide), rfl⟩
  have fr_Iz53 : ∀ b, ¬ (b = p0) → Iz53 b = I b := fun b q => (congrFun qIz53 b).trans ((va_up_ne _ _ (fun z => q z)).trans (fr_Iz45 b q))
  refine lv_aload_n hx hb dX0_become_56 rfl (lv_at hl 0 rfl) ?_
  refine lv_aload_n hx hb dX0_become_57 rfl (lv_at hl 1 rfl) ?_
  refine p_get hx hb hts inX0 hown hK hP hLp1 hKp1 rfl rfl 7 (by decide) (hts _ pq193) rfl dX0_become_58 ?_
  refine lv_topi (fun z58 ez58 => ?_)
  have bz58 := oI_0_7 (Iv_at hIz53 hLp1 hKp1)
  rw [← ez58] at bz58
  refine p_put hx hb hts inX0 tyX0 tyX0_ok nmX0 hown hK hP hD hS hLp0 hKp0 rfl rfl 7 (by decide) (hts _ pq193) rfl (by decide +kernel) (Nat.le_of_ble_eq_true rfl) (oS_0_7 cs _ _ _ _) dX0_become_61 (fun H locs hP hS => ?_)
  obtain ⟨Iz61, hP, hIz61, qIz61⟩ : ∃ Iz61, va_P (dC, dI) vwCl (Wd cs L K Iz61 J Q) H ∧ Iv L K x0 m0 tx tm Iz61 ∧ Iz61 = va_up Iz53 p0 (upd (Iz53 p0) 7 z58) := ⟨_, hP, Iv_put hIz53 hKp0 (oP_0_7 (Iv_at hIz53 hLp0 hKp0) ⟨by omega, by omega⟩) (by decide) (by decide), rfl⟩
  have fr_Iz61 : ∀ b, ¬ (b = p0) → Iz61 b = I b := fun b q => (congrFun qIz61 b).trans ((va_up_ne _ _ (fun z => q z)).trans (fr_Iz53 b q))
  subst hR; subst hQz
  exact W.vret hx hb hr (fun t ht hW => ⟨⟨(), rfl, trivial, ⟨Iz61, J, ⟨hIz61, fr_Iz61, (fun hne k hk => by rcases (show k = 0 ∨ k = 1 ∨ k = 2 ∨ k = 3 ∨ k = 4 ∨ k = 5 ∨ k = 6 ∨ k = 7 by omega) with rfl | rfl | rfl | rfl | rfl | rfl | rfl | rfl; (rw [qIz61, rz_fr _ _ _ _ (by decide), qIz53, rz_fr _ _ _ _ (by decide), qIz45, rz_fr _ _ _ _ (by decide), qIz37, rz_fr _ _ _ _ (by decide), qIz29, rz_fr _ _ _ _ (by decide), qIz21, rz_fr _ _ _ _ (by decide), qIz13, rz_fr _ _ _ _ (by decide), qIz5, rz_at, ez2]); (rw [qIz61, rz_fr _ _ _ _ (by decide), qIz53, rz_fr _ _ _ _ (by decide), qIz45, rz_fr _ _ _ _ (by decide), qIz37, rz_fr _ _ _ _ (by decide), qIz29, rz_fr _ _ _ _ (by decide), qIz21, rz_fr _ _ _ _ (by decide), qIz13, rz_at, ez10, fr_Iz5 p1 hne]); (rw [qIz61, rz_fr _ _ _ _ (by decide), qIz53, rz_fr _ _ _ _ (by decide), qIz45, rz_fr _ _ _ _ (by decide), qIz37, rz_fr _ _ _ _ (by decide), qIz29, rz_fr _ _ _ _ (by decide), qIz21, rz_at, ez18, fr_Iz13 p1 hne]); (rw [qIz61, rz_fr _ _ _ _ (by decide), qIz53, rz_fr _ _ _ _ (by decide), qIz45, rz_fr _ _ _ _ (by decide), qIz37, rz_fr _ _ _ _ (by decide), qIz29, rz_at, ez26, fr_Iz21 p1 hne]); (rw [qIz61, rz_fr _ _ _ _ (by decide), qIz53, rz_fr _ _ _ _ (by decide), qIz45, rz_fr _ _ _ _ (by decide), qIz37, rz_at, ez34, fr_Iz29 p1 hne]); (rw [qIz61, rz_fr _ _ _ _ (by decide), qIz53, rz_fr _ _ _ _ (by decide), qIz45, rz_at, ez42, fr_Iz37 p1 hne]); (rw [qIz61, rz_fr _ _ _ _ (by decide), qIz53, rz_at, ez50, fr_Iz45 p1 hne]); (rw [qIz61, rz_at, ez58, fr_Iz53 p1 hne])), dj_J⟩, by rw [ht]; exact hP⟩⟩, hS.F ht⟩) hS.2.2 dX0_become_64

set_option maxHeartbeats 4000000 in
set_option maxRecDepth 100000 in
theorem s_X0_told (l : Launch) (dC : Nat → ClassId) (dI : Nat → Nat → Nat) (cs : Nat → ClassId) (L : List Nat) (K G : Nat → Nat) (Q : Nat → Nat → Option Nat) (hQ : Sv L K G Q) (x0 m0 : Nat) (tx : GT) (tm : GT × Int) (sz : Nat) (I : Nat → Nat → Int32) (J : Nat → Nat → Int64) (hI : Iv L K x0 m0 tx tm I) (p0 : Nat) (hLp0 : p0 ∈ L) (hKp0 : K p0 = 0) (p1 : Int32) : Met l yX0_told (.code yX0_told cX0_told 2 (some .int) :: pw) ({ frames := 0, cells := 0, slots := 0, locals := 0 }) (sP (dC, dI) cs [.ref p0, .int p1] sz L K I J Q) (va_Qi (fun (r : Int32) (_ : Unit) => (0 ≤ p1.toInt → p1.toInt ≤ 7 → r = I p0 p1.toInt.toNat)) (fun _ _ => True) (fun _ => False)) 0 0 (fun _ => False) := by
  refine Met.ofW (cc := cX0_told) (maxL := 2) (ret := (some .int)) (by decide +kernel) rfl ?_
  intro p e s m args below meth c s₁ B hml hv
  obtain ⟨rfl, hsz, hP, hK, hD0, hN⟩ := hv
  have hx := B.exec
  have hb := B.bytes
  have hr := B.returns
  have hts := fun w (h : w ∈ pw) => atoms_spec (ws := Cond.code yX0_told cX0_told 2 (some .int) :: pw) B.pre w (List.mem_cons_of_mem _ h)
  have hown : s.vm.findClass RX0 = some m.cls := findClass_of_methodNamed B.named
  have hlocks := B.notSynchronized
  subst hsz
  have hBB : 999 ≤ tm.2 ∧ tm.2 ≤ 6000000 := hI.2.2.2.2.1
  have hD := hD0
  obtain ⟨H, hHe⟩ : ∃ H : Heap, H = s.heap := ⟨_, rfl⟩
  have hS : va_S (fun _ => False) s.heap H [] := by rw [hHe]; exact va_S.rf
  rw [← hHe] at hP
  have hl := lv_entry ([.ref p0, .int p1]) (n := 2) (Nat.le_of_ble_eq_true rfl)
  rw [lg_entry_eq]
  generalize (lg_sl ([.ref p0, .int p1]) ++ List.replicate (2 - (lg_sl ([.ref p0, .int p1])).length) Slot.unset).toArray = ls at hl ⊢
  have hl : lv_has ls 2 [(0, .ref p0), (1, .int p1)] := hl
  rw [← hHe]
  refine namedW (fun R Qz hR hQz => ?_)
  refine lv_iload_n hx hb dX0_told_0 rfl (lv_at hl 1 rfl) ?_
  refine lv_topi (fun z1 ez1 => ?_)
  rcases sw7 z1 with rfl | rfl | rfl | rfl | rfl | rfl | rfl | hsw1
  · refine lv_tableIn (off := 43) (tgt := 44) hx hb dX0_told_1 (by decide +kernel) (by decide +kernel) (by decide +kernel) (by decide) ?_
    have sv1 : p1.toInt = 0 := by rw [← ez1]; decide +kernel
    refine lv_aload_n hx hb dX0_told_44 rfl (lv_at hl 0 rfl) ?_
    refine p_get hx hb hts inX0 hown hK hP hLp0 hKp0 rfl rfl 0 (by decide) (hts _ pq169) rfl dX0_told_45 ?_
    refine lv_topi (fun z45 ez45 => ?_)
    have bz45 := oI_0_0 (Iv_at hI hLp0 hKp0)
    rw [← ez45] at bz45
    subst hR; subst hQz
    exact W.iret (v := z45) hx hb hr (fun t ht hW => ⟨⟨z45, (), rfl, (fun w1 w2 => by rw [ez45]; congr 1; first | omega | (have e1 := congrArg Int32.toInt ez1; omega)), trivial⟩, hS.F ht⟩) hS.2.2 dX0_told_48
  · refine lv_tableIn (off := 48) (tgt := 49) hx hb dX0_told_1 (by decide +kernel) (by decide +kernel) (by decide +kernel) (by decide) ?_
    have sv1 : p1.toInt = 1 := by rw [← ez1]; decide +kernel
    refine lv_aload_n hx hb dX0_told_49 rfl (lv_at hl 0 rfl) ?_
    refine p_get hx hb hts inX0 hown hK hP hLp0 hKp0 rfl rfl 1 (by decide) (hts _ pq172) rfl dX0_told_50 ?_
    refine lv_topi (fun z50 ez50 => ?_)
    have cgz50 := congrArg Int32.toInt ez50
    have bz50 := oI_0_1 (Iv_at hI hLp0 hKp0)
    rw [← ez50] at bz50
    subst hR; subst hQz
    exact W.iret (v := z50) hx hb hr (fun t ht hW => ⟨⟨z50, (), rfl, (fun w1 w2 => by rw [ez50]; congr 1; first | omega | (have e1 := congrArg Int32.toInt ez1; omega)), trivial⟩, hS.F ht⟩) hS.2.2 dX0_told_53
  · refine lv_tableIn (off := 53) (tgt := 54) hx hb dX0_told_1 (by decide +kernel) (by decide +kernel) (by decide +kernel) (by decide) ?_
    have sv1 : p1.toInt = 2 := by rw [← ez1]; decide +kernel
    refine lv_aload_n hx hb dX0_told_54 rfl (lv_at hl 0 rfl) ?_
    refine p_get hx hb hts inX0 hown hK hP hLp0 hKp0 rfl rfl 2 (by decide) (hts _ pq175) rfl dX0_told_55 ?_
    refine lv_topi (fun z55 ez55 => ?_)
    have cgz55 := congrArg Int32.toInt ez55
    have bz55 := oI_0_2 (Iv_at hI hLp0 hKp0)
    rw [← ez55] at bz55
    subst hR; subst hQz
    exact W.iret (v := z55) hx hb hr (fun t ht hW => ⟨⟨z55, (), rfl, (fun w1 w2 => by rw [ez55]; congr 1; first | omega | (have e1 := congrArg Int32.toInt ez1; omega)), trivial⟩, hS.F ht⟩) hS.2.2 dX0_told_58
  · refine lv_tableIn (off := 58) (tgt := 59) hx hb dX0_told_1 (by decide +kernel) (by decide +kernel) (by decide +kernel) (by decide) ?_
    have sv1 : p1.toInt = 3 := by rw [← ez1]; decide +kernel
    refine lv_aload_n hx hb dX0_told_59 rfl (lv_at hl 0 rfl) ?_
    refine p_get hx hb hts inX0 hown hK hP hLp0 hKp0 rfl rfl 3 (by decide) (hts _ pq178) rfl dX0_told_60 ?_
    refine lv_topi (fun z60 ez60 => ?_)
    have bz60 := oI_0_3 (Iv_at hI hLp0 hKp0)
    rw [← ez60] at bz60
    subst hR; subst hQz
    exact W.iret (v := z60) hx hb hr (fun t ht hW => ⟨⟨z60, (), rfl, (fun w1 w2 => by rw [ez60]; congr 1; first | omega | (have e1 := congrArg Int32.toInt ez1; omega)), trivial⟩, hS.F ht⟩) hS.2.2 dX0_told_63
  · refine lv_tableIn (off := 63) (tgt := 64) hx hb dX0_told_1 (by decide +kernel) (by decide +kernel) (by decide +kernel) (by decide) ?_
    have sv1 : p1.toInt = 4 := by rw [← ez1]; decide +kernel
    refine lv_aload_n hx hb dX0_told_64 rfl (lv_at hl 0 rfl) ?_
    refine p_get hx hb hts inX0 hown hK hP hLp0 hKp0 rfl rfl 4 (by decide) (hts _ pq182) rfl dX0_told_65 ?_
    refine lv_topi (fun z65 ez65 => ?_)
    have bz65 := oI_0_4 (Iv_at hI hLp0 hKp0)
    rw [← ez65] at bz65
    subst hR; subst hQz
    exact W.iret (v := z65) hx hb hr (fun t ht hW => ⟨⟨z65, (), rfl, (fun w1 w2 => by rw [ez65]; congr 1; first | omega | (have e1 := congrArg Int32.toInt ez1; omega)), trivial⟩, hS.F ht⟩) hS.2.2 dX0_told_68
  · refine lv_tableIn (off := 68) (tgt := 69) hx hb dX0_told_1 (by decide +kernel) (by decide +kernel) (by decide +kernel) (by decide) ?_
    have sv1 : p1.toInt = 5 := by rw [← ez1]; decide +kernel
    refine lv_aload_n hx hb dX0_told_69 rfl (lv_at hl 0 rfl) ?_
    refine p_get hx hb hts inX0 hown hK hP hLp0 hKp0 rfl rfl 5 (by decide) (hts _ pq186) rfl dX0_told_70 ?_
    refine lv_topi (fun z70 ez70 => ?_)
    have bz70 := oI_0_5 (Iv_at hI hLp0 hKp0)
    rw [← ez70] at bz70
    subst hR; subst hQz
    exact W.iret (v := z70) hx hb hr (fun t ht hW => ⟨⟨z70, (), rfl, (fun w1 w2 => by rw [ez70]; congr 1; first | omega | (have e1 := congrArg Int32.toInt ez1; omega)), trivial⟩, hS.F ht⟩) hS.2.2 dX0_told_73
  · refine lv_tableIn (off := 73) (tgt := 74) hx hb dX0_told_1 (by decide +kernel) (by decide +kernel) (by decide +kernel) (by decide) ?_
    have sv1 : p1.toInt = 6 := by rw [← ez1]; decide +kernel
    refine lv_aload_n hx hb dX0_told_74 rfl (lv_at hl 0 rfl) ?_
    refine p_get hx hb hts inX0 hown hK hP hLp0 hKp0 rfl rfl 6 (by decide) (hts _ pq190) rfl dX0_told_75 ?_
    refine lv_topi (fun z75 ez75 => ?_)
    have bz75 := oI_0_6 (Iv_at hI hLp0 hKp0)
    rw [← ez75] at bz75
    subst hR; subst hQz
    exact W.iret (v := z75) hx hb hr (fun t ht hW => ⟨⟨z75, (), rfl, (fun w1 w2 => by rw [ez75]; congr 1; first | omega | (have e1 := congrArg Int32.toInt ez1; omega)), trivial⟩, hS.F ht⟩) hS.2.2 dX0_told_78
  · refine lv_tableOut (tgt := 79) hx hb dX0_told_1 hsw1 (by decide) ?_
    refine lv_aload_n hx hb dX0_told_79 rfl (lv_at hl 0 rfl) ?_
    refine p_get hx hb hts inX0 hown hK hP hLp0 hKp0 rfl rfl 7 (by decide) (hts _ pq193) rfl dX0_told_80 ?_
    refine lv_topi (fun z80 ez80 => ?_)
    have bz80 := oI_0_7 (Iv_at hI hLp0 hKp0)
    rw [← ez80] at bz80
    subst hR; subst hQz
    exact W.iret (v := z80) hx hb hr (fun t ht hW => ⟨⟨z80, (), rfl, (fun w1 w2 => by rw [ez80]; congr 1; first | omega | (have e1 := congrArg Int32.toInt ez1; omega)), trivial⟩, hS.F ht⟩) hS.2.2 dX0_told_83

set_option maxHeartbeats 4000000 in
set_option maxRecDepth 100000 in
theorem s_X1_clear (l : Launch) (dC : Nat → ClassId) (dI : Nat → Nat → Nat) (cs : Nat → ClassId) (L : List Nat) (K G : Nat → Nat) (Q : Nat → Nat → Option Nat) (hQ : Sv L K G Q) (x0 m0 : Nat) (tx : GT) (tm : GT × Int) (sz : Nat) (I : Nat → Nat → Int32) (J : Nat → Nat → Int64) (hI : Iv L K x0 m0 tx tm I) (p0 : Nat) (hLp0 : p0 ∈ L) (hKp0 : K p0 = 1) : Met l yX1_clear (.code yX1_clear cX1_clear 1 none :: pw) ({ frames := 0, cells := 0, slots := 0, locals := 0 }) (sP (dC, dI) cs [.ref p0] sz L K I J Q) (va_Qv (fun (_ : Unit) => True) (fun _ t => sB (dC, dI) cs L K Q (fun I1 J1 => Iv L K x0 m0 tx tm I1 ∧ (∀ b, ¬ (b = p0) → I1 b = I b) ∧ ((I1 p0 2).toInt = 0 ∧ (I1 p0 3).toInt = 0) ∧ (I1 p0 2 = 0 ∧ I1 p0 3 = 0 ∧ I1 p0 4 = 0) ∧ J1 = J) t) (fun q => q ∈ L ∨ sz ≤ q)) 0 0 (fun q => q ∈ L ∨ sz ≤ q) := by
  refine Met.ofW (cc := cX1_clear) (maxL := 1) (ret := none) (by decide +kernel) rfl ?_
  intro p e s m args below meth c s₁ B hml hv
  obtain ⟨rfl, hsz, hP, hK, hD0, hN⟩ := hv
  have hx := B.exec
  have hb := B.bytes
  have hr := B.returns
  have hts := fun w (h : w ∈ pw) => atoms_spec (ws := Cond.code yX1_clear cX1_clear 1 none :: pw) B.pre w (List.mem_cons_of_mem _ h)
  have hown : s.vm.findClass RX1 = some m.cls := findClass_of_methodNamed B.named
  have hlocks := B.notSynchronized
  subst hsz
  have hBB : 999 ≤ tm.2 ∧ tm.2 ≤ 6000000 := hI.2.2.2.2.1
  have dj_J : J = J := rfl
  have fr_I : ∀ b, ¬ (b = p0) → I b = I b := fun _ _ => rfl
  obtain ⟨A, hAe⟩ : ∃ A : Nat → Prop, A = (fun q => q ∈ L ∨ s.heap.size ≤ q) := ⟨_, rfl⟩
  rw [← hAe]
  have hAL : ∀ q, q ∈ L → A q := fun q h => by rw [hAe]; exact Or.inl h
  have hA : ∀ q, s.heap.size ≤ q → A q := fun q h => by rw [hAe]; exact Or.inr h
  have hD : ∀ F, va_D A (va_pl L F) := fun F => (hD0 F).weaken (fun k q hk _ => hAL _ (pl_mem hk))
  obtain ⟨H, hHe⟩ : ∃ H : Heap, H = s.heap := ⟨_, rfl⟩
  have hS : va_S A s.heap H [] := by rw [hHe]; exact va_S.rf
  rw [← hHe] at hP
  have hl := lv_entry ([.ref p0]) (n := 1) (Nat.le_of_ble_eq_true rfl)
  rw [lg_entry_eq]
  generalize (lg_sl ([.ref p0]) ++ List.replicate (1 - (lg_sl ([.ref p0])).length) Slot.unset).toArray = ls at hl ⊢
  have hl : lv_has ls 1 [(0, .ref p0)] := hl
  rw [← hHe]
  refine namedW (fun R Qz hR hQz => ?_)
  refine lv_aload_n hx hb dX1_clear_0 rfl (lv_at hl 0 rfl) ?_
  refine lv_iconst (v := 0) hx hb dX1_clear_1 (by decide +kernel) ?_
  refine p_put hx hb hts inX1 tyX1 tyX1_ok nmX1 hown hK hP hD hS hLp0 hKp0 rfl rfl 2 (by decide) (hts _ pq221) rfl (by decide +kernel) (Nat.le_of_ble_eq_true rfl) (oS_1_2 cs _ _ _ _) dX1_clear_2 (fun H locs hP hS => ?_)
  obtain ⟨Iz2, hP, hIz2, qIz2⟩ : ∃ Iz2, va_P (dC, dI) vwCl (Wd cs L K Iz2 J Q) H ∧ Iv L K x0 m0 tx tm Iz2 ∧ Iz2 = va_up I p0 (upd (I p0) 2 (0 : Int32)) := ⟨_, hP, Iv_put hI hKp0 (oP_1_2 (Iv_at hI hLp0 hKp0) ⟨by decide +kernel, by decide +kernel⟩) (by decide) (by decide), rfl⟩
  have fr_Iz2 : ∀ b, ¬ (b = p0) → Iz2 b = I b := fun b q => (congrFun qIz2 b).trans ((va_up_ne _ _ (fun z => q z)).trans (fr_I b q))
  refine lv_aload_n hx hb dX1_clear_5 rfl (lv_at hl 0 rfl) ?_
  refine lv_iconst (v := 0) hx hb dX1_clear_6 (by decide +kernel) ?_
  refine p_put hx hb hts inX1 tyX1 tyX1_ok nmX1 hown hK hP hD hS hLp0 hKp0 rfl rfl 3 (by decide) (hts _ pq224) rfl (by decide +kernel) (Nat.le_of_ble_eq_true rfl) (oS_1_3 cs _ _ _ _) dX1_clear_7 (fun H locs hP hS => ?_)
  obtain ⟨Iz7, hP, hIz7, qIz7⟩ : ∃ Iz7, va_P (dC, dI) vwCl (Wd cs L K Iz7 J Q) H ∧ Iv L K x0 m0 tx tm Iz7 ∧ Iz7 = va_up Iz2 p0 (upd (Iz2 p0) 3 (0 : Int32)) := ⟨_, hP, Iv_put hIz2 hKp0 (oP_1_3 (Iv_at hIz2 hLp0 hKp0) ⟨by decide +kernel, by decide +kernel⟩) (by decide) (by decide), rfl⟩
  have fr_Iz7 : ∀ b, ¬ (b = p0) → Iz7 b = I b := fun b q => (congrFun qIz7 b).trans ((va_up_ne _ _ (fun z => q z)).trans (fr_Iz2 b q))
  refine lv_aload_n hx hb dX1_clear_10 rfl (lv_at hl 0 rfl) ?_
  refine lv_iconst (v := 0) hx hb dX1_clear_11 (by decide +kernel) ?_
  refine p_put hx hb hts inX1 tyX1 tyX1_ok nmX1 hown hK hP hD hS hLp0 hKp0 rfl rfl 4 (by decide) (hts _ pq228) rfl (by decide +kernel) (Nat.le_of_ble_eq_true rfl) (oS_1_4 cs _ _ _ _) dX1_clear_12 (fun H locs hP hS => ?_)
  obtain ⟨Iz12, hP, hIz12, qIz12⟩ : ∃ Iz12, va_P (dC, dI) vwCl (Wd cs L K Iz12 J Q) H ∧ Iv L K x0 m0 tx tm Iz12 ∧ Iz12 = va_up Iz7 p0 (upd (Iz7 p0) 4 (0 : Int32)) := ⟨_, hP, Iv_put hIz7 hKp0 (oP_1_4 (Iv_at hIz7 hLp0 hKp0)) (by decide) (by decide), rfl⟩
  have fr_Iz12 : ∀ b, ¬ (b = p0) → Iz12 b = I b := fun b q => (congrFun qIz12 b).trans ((va_up_ne _ _ (fun z => q z)).trans (fr_Iz7 b q))
  subst hR; subst hQz
  exact W.vret hx hb hr (fun t ht hW => ⟨⟨(), rfl, trivial, ⟨Iz12, J, ⟨hIz12, fr_Iz12, ⟨by rw [qIz12, rz_fr _ _ _ _ (by decide), qIz7, rz_fr _ _ _ _ (by decide), qIz2, rz_at]; decide +kernel, by rw [qIz12, rz_fr _ _ _ _ (by decide), qIz7, rz_at]; decide +kernel⟩, ⟨by rw [qIz12, rz_fr _ _ _ _ (by decide), qIz7, rz_fr _ _ _ _ (by decide), qIz2, rz_at], by rw [qIz12, rz_fr _ _ _ _ (by decide), qIz7, rz_at], by rw [qIz12, rz_at]⟩, dj_J⟩, by rw [ht]; exact hP⟩⟩, hS.F ht⟩) hS.2.2 dX1_clear_15

set_option maxHeartbeats 4000000 in
set_option maxRecDepth 100000 in
theorem s_X1_become (l : Launch) (dC : Nat → ClassId) (dI : Nat → Nat → Nat) (cs : Nat → ClassId) (L : List Nat) (K G : Nat → Nat) (Q : Nat → Nat → Option Nat) (hQ : Sv L K G Q) (x0 m0 : Nat) (tx : GT) (tm : GT × Int) (sz : Nat) (I : Nat → Nat → Int32) (J : Nat → Nat → Int64) (hI : Iv L K x0 m0 tx tm I) (p0 : Nat) (hLp0 : p0 ∈ L) (hKp0 : K p0 = 1) (p1 : Nat) (hLp1 : p1 ∈ L) (hKp1 : K p1 = 1) : Met l yX1_become (.code yX1_become cX1_become 3 none :: pw) ({ frames := 2, cells := 0, slots := 0, locals := 81 }) (sP (dC, dI) cs [.ref p0, .ref p1] sz L K I J Q) (va_Qv (fun (_ : Unit) => True) (fun _ t => sB (dC, dI) cs L K Q (fun I1 J1 => Iv L K x0 m0 tx tm I1 ∧ (∀ b, ¬ ((G b = G p0 ∨ G b / 100 = G p0) ∧ ¬ K b = 6) → I1 b = I b) ∧ (I1 p0 3 = I p1 3 ∧ (∀ b, K b = 1 → ¬ b = p0 → I1 b = I b) ∧ ∀ b, ¬ K b = 0 → ¬ K b = 1 → ¬ K b = 3 → I1 b = I b) ∧ (neF (G p0) (G p1) → ∀ c : Fx, okF c → cxF Q I J p1 c → cxF Q I1 J1 p0 c) ∧ (∀ b, ¬ (K b = 12 ∧ (G b / 100 = G p0)) → J1 b = J b)) t) (fun q => q ∈ L ∨ sz ≤ q)) 0 0 (fun q => q ∈ L ∨ sz ≤ q) := by
  refine Met.ofW (cc := cX1_become) (maxL := 3) (ret := none) (by decide +kernel) rfl ?_
  intro p e s m args below meth c s₁ B hml hv
  obtain ⟨rfl, hsz, hP, hK, hD0, hN⟩ := hv
  have hx := B.exec
  have hb := B.bytes
  have hr := B.returns
  have hts := fun w (h : w ∈ pw) => atoms_spec (ws := Cond.code yX1_become cX1_become 3 none :: pw) B.pre w (List.mem_cons_of_mem _ h)
  have hown : s.vm.findClass RX1 = some m.cls := findClass_of_methodNamed B.named
  have hlocks := B.notSynchronized
  subst hsz
  have hBB : 999 ≤ tm.2 ∧ tm.2 ≤ 6000000 := hI.2.2.2.2.1
  have dj_J : (∀ b, ¬ (K b = 12 ∧ (G b / 100 = G p0)) → J b = J b) := fun _ _ => rfl
  have fr_I : ∀ b, ¬ ((G b = G p0 ∨ G b / 100 = G p0) ∧ ¬ K b = 6) → I b = I b := fun _ _ => rfl
  obtain ⟨A, hAe⟩ : ∃ A : Nat → Prop, A = (fun q => q ∈ L ∨ s.heap.size ≤ q) := ⟨_, rfl⟩
  rw [← hAe]
  have hAL : ∀ q, q ∈ L → A q := fun q h => by rw [hAe]; exact Or.inl h
  have hA : ∀ q, s.heap.size ≤ q → A q := fun q h => by rw [hAe]; exact Or.inr h
  have hD : ∀ F, va_D A (va_pl L F) := fun F => (hD0 F).weaken (fun k q hk _ => hAL _ (pl_mem hk))
  obtain ⟨H, hHe⟩ : ∃ H : Heap, H = s.heap := ⟨_, rfl⟩
  have hS : va_S A s.heap H [] := by rw [hHe]; exact va_S.rf
  rw [← hHe] at hP
  have hl := lv_entry ([.ref p0, .ref p1]) (n := 3) (Nat.le_of_ble_eq_true rfl)
  rw [lg_entry_eq]
  generalize (lg_sl ([.ref p0, .ref p1]) ++ List.replicate (3 - (lg_sl ([.ref p0, .ref p1])).length) Slot.unset).toArray = ls at hl ⊢
  have hl : lv_has ls 3 [(0, .ref p0), (1, .ref p1)] := hl
  rw [← hHe]
  refine namedW (fun R Qz hR hQz => ?_)
  refine lv_aload_n hx hb dX1_become_0 rfl (lv_at hl 0 rfl) ?_
  refine lv_aload_n hx hb dX1_become_1 rfl (lv_at hl 1 rfl) ?_
  refine p_get hx hb hts inX1 hown hK hP hLp1 hKp1 rfl rfl 2 (by decide) (hts _ pq221) rfl dX1_become_2 ?_
  refine lv_topi (fun z2 ez2 => ?_)
  have bz2 := oI_1_2 (Iv_at hI hLp1 hKp1)
  rw [← ez2] at bz2
  refine p_put hx hb hts inX1 tyX1 tyX1_ok nmX1 hown hK hP hD hS hLp0 hKp0 rfl rfl 2 (by decide) (hts _ pq221) rfl (by decide +kernel) (Nat.le_of_ble_eq_true rfl) (oS_1_2 cs _ _ _ _) dX1_become_5 (fun H locs hP hS => ?_)
  obtain ⟨Iz5, hP, hIz5, qIz5⟩ : ∃ Iz5, va_P (dC, dI) vwCl (Wd cs L K Iz5 J Q) H ∧ Iv L K x0 m0 tx tm Iz5 ∧ Iz5 = va_up I p0 (upd (I p0) 2 z2) := ⟨_, hP, Iv_put hI hKp0 (oP_1_2 (Iv_at hI hLp0 hKp0) ⟨by omega, by omega⟩) (by decide) (by decide), rfl⟩
  have fr_Iz5 : ∀ b, ¬ ((G b = G p0 ∨ G b / 100 = G p0) ∧ ¬ K b = 6) → Iz5 b = I b := fun b q => (congrFun qIz5 b).trans ((va_up_ne _ _ (fun z => q (by rw [z]; exact ⟨(by omega), by rw [hKp0]; decide⟩))).trans (fr_I b q))
  refine lv_aload_n hx hb dX1_become_8 rfl (lv_at hl 0 rfl) ?_
  refine lv_aload_n hx hb dX1_become_9 rfl (lv_at hl 1 rfl) ?_
  refine p_get hx hb hts inX1 hown hK hP hLp1 hKp1 rfl rfl 3 (by decide) (hts _ pq224) rfl dX1_become_10 ?_
  refine lv_topi (fun z10 ez10 => ?_)
  have cgz10 := congrArg Int32.toInt ez10
  have bz10 := oI_1_3 (Iv_at hIz5 hLp1 hKp1)
  rw [← ez10] at bz10
  refine p_put hx hb hts inX1 tyX1 tyX1_ok nmX1 hown hK hP hD hS hLp0 hKp0 rfl rfl 3 (by decide) (hts _ pq224) rfl (by decide +kernel) (Nat.le_of_ble_eq_true rfl) (oS_1_3 cs _ _ _ _) dX1_become_13 (fun H locs hP hS => ?_)
  obtain ⟨Iz13, hP, hIz13, qIz13⟩ : ∃ Iz13, va_P (dC, dI) vwCl (Wd cs L K Iz13 J Q) H ∧ Iv L K x0 m0 tx tm Iz13 ∧ Iz13 = va_up Iz5 p0 (upd (Iz5 p0) 3 z10) := ⟨_, hP, Iv_put hIz5 hKp0 (oP_1_3 (Iv_at hIz5 hLp0 hKp0) ⟨by omega, by omega⟩) (by decide) (by decide), rfl⟩
  have fr_Iz13 : ∀ b, ¬ ((G b = G p0 ∨ G b / 100 = G p0) ∧ ¬ K b = 6) → Iz13 b = I b := fun b q => (congrFun qIz13 b).trans ((va_up_ne _ _ (fun z => q (by rw [z]; exact ⟨(by omega), by rw [hKp0]; decide⟩))).trans (fr_Iz5 b q))
  refine lv_aload_n hx hb dX1_become_16 rfl (lv_at hl 0 rfl) ?_
  refine lv_aload_n hx hb dX1_become_17 rfl (lv_at hl 1 rfl) ?_
  refine p_get hx hb hts inX1 hown hK hP hLp1 hKp1 rfl rfl 4 (by decide) (hts _ pq228) rfl dX1_become_18 ?_
  refine lv_topi (fun z18 ez18 => ?_)
  refine p_put hx hb hts inX1 tyX1 tyX1_ok nmX1 hown hK hP hD hS hLp0 hKp0 rfl rfl 4 (by decide) (hts _ pq228) rfl (by decide +kernel) (Nat.le_of_ble_eq_true rfl) (oS_1_4 cs _ _ _ _) dX1_become_21 (fun H locs hP hS => ?_)
  obtain ⟨Iz21, hP, hIz21, qIz21⟩ : ∃ Iz21, va_P (dC, dI) vwCl (Wd cs L K Iz21 J Q) H ∧ Iv L K x0 m0 tx tm Iz21 ∧ Iz21 = va_up Iz13 p0 (upd (Iz13 p0) 4 z18) := ⟨_, hP, Iv_put hIz13 hKp0 (oP_1_4 (Iv_at hIz13 hLp0 hKp0)) (by decide) (by decide), rfl⟩
  have fr_Iz21 : ∀ b, ¬ ((G b = G p0 ∨ G b / 100 = G p0) ∧ ¬ K b = 6) → Iz21 b = I b := fun b q => (congrFun qIz21 b).trans ((va_up_ne _ _ (fun z => q (by rw [z]; exact ⟨(by omega), by rw [hKp0]; decide⟩))).trans (fr_Iz13 b q))
  refine lv_iconst (v := 0) hx hb dX1_become_24 (by decide +kernel) ?_
  refine lv_istore_n (lv' := [(2, .int 0), (0, .ref p0), (1, .ref p1)]) hx hb dX1_become_25 rfl hl (by decide) rfl (fun ls hl => ?_)
  have key26 := blocks (fun n => ∀ (v26_2 : Int32) (I26 : Nat → Nat → Int32) (J26 : Nat → Nat → Int64) (H : Heap) (lo : List Loc) (ls : Array Slot), (9 - v26_2.toInt).toNat = n → ((0) ≤ v26_2.toInt ∧ v26_2.toInt ≤ 8) → Iv L K x0 m0 tx tm I26 → (∀ b, ¬ ((G b = G p0 ∨ G b / 100 = G p0) ∧ ¬ K b = 6) → I26 b = I b) → (∀ b, ¬ (K b = 12 ∧ (G b / 100 = G p0)) → J26 b = J b) → (I26 p0 2 = I p1 2 ∧ I26 p0 4 = I p1 4) → (neF (G p0) (G p1) → ∀ j : Nat, j < v26_2.toInt.toNat → cpM Q I J I26 J26 (fm Q p0 j) (fm Q p1 j)) → I26 p0 3 = I p1 3 → (∀ b, K b = 1 → ¬ b = p0 → I26 b = I b) → (∀ b, ¬ K b = 0 → ¬ K b = 1 → ¬ K b = 3 → I26 b = I b) → va_P (dC, dI) vwCl (Wd cs L K I26 J26 Q) H → va_S A s.heap H lo → lv_has ls 3 [(0, .ref p0), (1, .ref p1), (2, .int v26_2)] → W p l e R s m (([.ref p0, .ref p1] : List Value).toArray) below meth c H lo 0 0 Qz (F0 m 26 ls [])) (by
    intro n ih26
    intro v26_2 I26 J26 H lo ls hmu26 bv26_2 hI26 fr_I26 dj_J26 hk2 h26 hbc hbk hbx hP hS hl
    refine lv_iload_n hx hb dX1_become_26 rfl (lv_at hl 2 rfl) ?_
    refine lv_aload_n hx hb dX1_become_27 rfl (lv_at hl 0 rfl) ?_
    refine p_get hx hb hts inX1 hown hK hP hLp0 hKp0 rfl rfl 2 (by decide) (hts _ pq221) rfl dX1_become_28 ?_
    refine lv_topi (fun z28 ez28 => ?_)
    have bz28 := oI_1_2 (Iv_at hI26 hLp0 hKp0)
    rw [← ez28] at bz28
    refine lv_icmp_ge (tgt := 55) hx hb dX1_become_31 (by decide) (fun c31 => ?_) (fun c31 => ?_)
    · have t31 := tq_le (k := z28.toInt) (q := v26_2.toInt) c31 rfl rfl
      refine lv_iconst (v := 0) hx hb dX1_become_55 (by decide +kernel) ?_
      refine lv_istore_n (lv' := [(2, .int 0), (0, .ref p0), (1, .ref p1)]) hx hb dX1_become_56 rfl hl (by decide) rfl (fun ls hl => ?_)
      have key57 := blocks (fun n => ∀ (v57_2 : Int32) (I57 : Nat → Nat → Int32) (H : Heap) (lo : List Loc) (ls : Array Slot), (11 - v57_2.toInt).toNat = n → ((0) ≤ v57_2.toInt ∧ v57_2.toInt ≤ 10) → Iv L K x0 m0 tx tm I57 → (∀ b, ¬ ((G b = G p0 ∨ G b / 100 = G p0) ∧ ¬ K b = 6) → I57 b = I b) → (I57 p0 2 = I p1 2 ∧ I57 p0 4 = I p1 4) → (neF (G p0) (G p1) → (∀ j : Nat, j < v26_2.toInt.toNat → cpM Q I J I57 J26 (fm Q p0 j) (fm Q p1 j)) ∧ ∀ j : Nat, j < v57_2.toInt.toNat → ∀ k, k < 8 → I57 (fb Q p0 j) k = I (fb Q p1 j) k) → I57 p0 3 = I p1 3 → (∀ b, K b = 1 → ¬ b = p0 → I57 b = I b) → (∀ b, ¬ K b = 0 → ¬ K b = 1 → ¬ K b = 3 → I57 b = I b) → va_P (dC, dI) vwCl (Wd cs L K I57 J26 Q) H → va_S A s.heap H lo → lv_has ls 3 [(0, .ref p0), (1, .ref p1), (2, .int v57_2)] → W p l e R s m (([.ref p0, .ref p1] : List Value).toArray) below meth c H lo 0 0 Qz (F0 m 57 ls [])) (by
        intro n ih57
        intro v57_2 I57 H lo ls hmu57 bv57_2 hI57 fr_I57 hl2 h57 hbd hbl hby hP hS hl
        refine lv_iload_n hx hb dX1_become_57 rfl (lv_at hl 2 rfl) ?_
        refine lv_aload_n hx hb dX1_become_58 rfl (lv_at hl 0 rfl) ?_
        refine p_get hx hb hts inX1 hown hK hP hLp0 hKp0 rfl rfl 3 (by decide) (hts _ pq224) rfl dX1_become_59 ?_
        refine lv_topi (fun z59 ez59 => ?_)
        have cgz59 := congrArg Int32.toInt ez59
        have bz59 := oI_1_3 (Iv_at hI57 hLp0 hKp0)
        rw [← ez59] at bz59
        refine lv_icmp_ge (tgt := 86) hx hb dX1_become_62 (by decide) (fun c62 => ?_) (fun c62 => ?_)
        · have t62 := tq_le (k := z59.toInt) (q := v57_2.toInt) c62 rfl rfl
          subst hR; subst hQz
          exact W.vret hx hb hr (fun t ht hW => ⟨⟨(), rfl, trivial, ⟨I57, J26, ⟨hI57, fr_I57, ⟨hbd, hbl, hby⟩, (fun ne c ok h => cxF_cp ok h hl2.1 hbd hl2.2 (h57 ne).1 (by have e := congrArg Int32.toInt (ez28.trans hk2.1); omega) (h57 ne).2 (by have e := congrArg Int32.toInt (ez59.trans hbd); omega)), dj_J26⟩, by rw [ht]; exact hP⟩⟩, hS.F ht⟩) hS.2.2 dX1_become_86
        · have t62 := tq_nle (k := z59.toInt) (q := v57_2.toInt) c62 rfl rfl
          refine lv_aload_n hx hb dX1_become_65 rfl (lv_at hl 0 rfl) ?_
          obtain ⟨y66, ey66, hLy66, hKy66, hGy66⟩ := oQ_1_1 (Sv_at hQ hLp0 hKp0)
          refine p_get (v := .ref y66) hx hb hts inX1 hown hK hP hLp0 hKp0 rfl rfl 1 (by decide) (hts _ pq217) (congrArg (fun q => some (va_rf q)) ey66) dX1_become_66 ?_
          refine lv_iload_n hx hb dX1_become_69 rfl (lv_at hl 2 rfl) ?_
          obtain ⟨y70, ey70, hLy70, hKy70, hGy70⟩ := (Sv_at hQ hLy66 hKy66).1 v57_2.toNatClampNeg (clamp_lt (n := 10) (in_of (by omega) (by omega)))
          refine p_aaldR hx hb hK hP 4 hLy66 hKy66 rfl rfl (in_of (by omega) (by omega)) ey70 dX1_become_70 ?_
          refine lv_aload_n hx hb dX1_become_71 rfl (lv_at hl 1 rfl) ?_
          obtain ⟨y72, ey72, hLy72, hKy72, hGy72⟩ := oQ_1_1 (Sv_at hQ hLp1 hKp1)
          refine p_get (v := .ref y72) hx hb hts inX1 hown hK hP hLp1 hKp1 rfl rfl 1 (by decide) (hts _ pq217) (congrArg (fun q => some (va_rf q)) ey72) dX1_become_72 ?_
          refine lv_iload_n hx hb dX1_become_75 rfl (lv_at hl 2 rfl) ?_
          obtain ⟨y76, ey76, hLy76, hKy76, hGy76⟩ := (Sv_at hQ hLy72 hKy72).1 v57_2.toNatClampNeg (clamp_lt (n := 10) (in_of (by omega) (by omega)))
          refine p_aaldR hx hb hK hP 4 hLy72 hKy72 rfl rfl (in_of (by omega) (by omega)) ey76 dX1_become_76 ?_
          refine sw_v (Z := (fun I1 J1 => Iv L K x0 m0 tx tm I1 ∧ (∀ b, ¬ (b = y70) → I1 b = I57 b) ∧ (¬ y76 = y70 → ∀ k, k < 8 → I1 y70 k = I57 y76 k) ∧ J1 = J26)) (va_runV (As := [.ref y76]) (rest := []) ⟨hx, hb, hml, hown, hts⟩ (s_X0_become l dC dI cs L K G Q hQ x0 m0 tx tm H.size I57 J26 hI57 y70 hLy70 hKy70 y76 hLy76 hKy76) (cwV 1 hts (gV pq600 pq601 pq602 pq77 pq603) rfl rfl rfl (by decide +kernel) ⟨(by rw [hR]; exact (Nat.le_of_ble_eq_true rfl)), (by rw [hR]; exact (Nat.le_of_ble_eq_true rfl))⟩) (sP_V hP hD hK hN hLy70 hKy70 rfl rfl) rfl rfl hl.1 rfl (lv_room (Nat.le_of_ble_eq_true rfl)) dX1_become_77 ⟨(by rw [hR]; exact (Nat.le_of_ble_eq_true rfl)), (by rw [hR]; exact (Nat.le_of_ble_eq_true rfl))⟩) hS hAL hA (fun Iz77 Jz77 H locs hz77 hIz77 hP hS => ?_)
          obtain ⟨hIz77, frc77, fz77, djc77⟩ := hIz77
          obtain rfl : J26 = Jz77 := djc77.symm
          have fr_Iz77 : ∀ b, ¬ ((G b = G p0 ∨ G b / 100 = G p0) ∧ ¬ K b = 6) → Iz77 b = I b := fun b q => (frc77 b (fun z => q (by rw [z]; exact ⟨(by omega), by rw [hKy70]; decide⟩))).trans (fr_I57 b q)
          obtain ⟨z80, ez80⟩ : ∃ y : Int32, y = v57_2 + 1 := ⟨_, rfl⟩
          refine lv_iinc (v := z80) (lv' := [(2, .int z80), (0, .ref p0), (1, .ref p1)]) hx hb dX1_become_80 hl (k := 2) rfl (by rw [ez80]; rfl) (by decide) rfl (fun ls hl => ?_)
          have bz80 := tq_add (k := v57_2.toInt) (q := 1) ez80 rfl (by decide +kernel) (by omega) (by omega)
          refine lv_goto (tgt := 57) hx hb dX1_become_83 (by decide) ?_
          exact ih57 _ (by omega) z80 Iz77 _ _ _ rfl ⟨by omega, by omega⟩ hIz77 fr_Iz77 ⟨by rw [frc77 p0 (ne_k hKp0 hKy70 (by decide))]; exact hl2.1, by rw [frc77 p0 (ne_k hKp0 hKy70 (by decide))]; exact hl2.2⟩ (fun ne => by have e0 : fb Q p0 v57_2.toInt.toNat = y70 := fb_of ey66 ey70; have e1 : fb Q p1 v57_2.toInt.toNat = y76 := fb_of ey72 ey76; rw [show z80.toInt.toNat = v57_2.toInt.toNat + 1 by omega]; exact ⟨fun j hj => ⟨fun k hk h2 => by rw [frc77 _ (ne_k (fm_g (i := j) hQ hLp0 hKp0 (by omega)).2.1 hKy70 (by decide))]; exact ((h57 ne).1 j hj).1 k hk h2, ((h57 ne).1 j hj).2⟩, bcb_step hQ hLp0 hKp0 hLp1 hKp1 ne.1 (by omega) (h57 ne).2 fr_I57 (by rw [e0]; exact frc77) (by rw [e0, e1]; exact fz77) (by have := ne.2; omega)⟩) ((congrFun (frc77 p0 (ne_k hKp0 hKy70 (by decide))) 3).trans hbd) (fun b hb hn => (frc77 b (ne_k hb hKy70 (by decide))).trans (hbl b hb hn)) (fun b h0 h1 h3 => (frc77 b (fun z => h0 (by rw [z]; exact hKy70))).trans (hby b h0 h1 h3)) hP hS (lv_sub hl [1, 2, 0] rfl))
      exact key57 _ 0 I26 _ _ _ rfl ⟨by decide +kernel, by decide +kernel⟩ hI26 fr_I26 hk2 (fun ne => ⟨h26 ne, fun j hj => absurd hj (by rw [show (0 : Int32).toInt.toNat = 0 from by decide +kernel]; omega)⟩) hbc hbk hbx hP hS (lv_sub hl [1, 2, 0] rfl)
    · have t31 := tq_nle (k := z28.toInt) (q := v26_2.toInt) c31 rfl rfl
      refine lv_aload_n hx hb dX1_become_34 rfl (lv_at hl 0 rfl) ?_
      obtain ⟨y35, ey35, hLy35, hKy35, hGy35⟩ := oQ_1_0 (Sv_at hQ hLp0 hKp0)
      refine p_get (v := .ref y35) hx hb hts inX1 hown hK hP hLp0 hKp0 rfl rfl 0 (by decide) (hts _ pq213) (congrArg (fun q => some (va_rf q)) ey35) dX1_become_35 ?_
      refine lv_iload_n hx hb dX1_become_38 rfl (lv_at hl 2 rfl) ?_
      obtain ⟨y39, ey39, hLy39, hKy39, hGy39⟩ := (Sv_at hQ hLy35 hKy35).1 v26_2.toNatClampNeg (clamp_lt (n := 8) (in_of (by omega) (by omega)))
      have hjy39 : v26_2.toNatClampNeg < 8 := clamp_lt (i := v26_2) (n := 8) (in_of (by omega) (by omega))
      refine p_aaldR hx hb hK hP 3 hLy35 hKy35 rfl rfl (in_of (by omega) (by omega)) ey39 dX1_become_39 ?_
      refine lv_aload_n hx hb dX1_become_40 rfl (lv_at hl 1 rfl) ?_
      obtain ⟨y41, ey41, hLy41, hKy41, hGy41⟩ := oQ_1_0 (Sv_at hQ hLp1 hKp1)
      refine p_get (v := .ref y41) hx hb hts inX1 hown hK hP hLp1 hKp1 rfl rfl 0 (by decide) (hts _ pq213) (congrArg (fun q => some (va_rf q)) ey41) dX1_become_41 ?_
      refine lv_iload_n hx hb dX1_become_44 rfl (lv_at hl 2 rfl) ?_
      obtain ⟨y45, ey45, hLy45, hKy45, hGy45⟩ := (Sv_at hQ hLy41 hKy41).1 v26_2.toNatClampNeg (clamp_lt (n := 8) (in_of (by omega) (by omega)))
      have hjy45 : v26_2.toNatClampNeg < 8 := clamp_lt (i := v26_2) (n := 8) (in_of (by omega) (by omega))
      refine p_aaldR hx hb hK hP 3 hLy41 hKy41 rfl rfl (in_of (by omega) (by omega)) ey45 dX1_become_45 ?_
      refine sw_v (Z := (fun I1 J1 => Iv L K x0 m0 tx tm I1 ∧ (∀ b, ¬ (b = y39) → I1 b = I26 b) ∧ (¬ y45 = y39 → ∀ k, k < 8 → ¬ k = 2 → I1 y39 k = I26 y45 k) ∧ (∀ k, k < 80 → J1 (wo Q y39) k = J26 (wo Q y45) k) ∧ (∀ b, ¬ (K b = 12 ∧ (G b = G y39)) → J1 b = J26 b))) (va_runV (As := [.ref y45]) (rest := []) ⟨hx, hb, hml, hown, hts⟩ (s_X3_become l dC dI cs L K G Q hQ x0 m0 tx tm H.size I26 J26 hI26 y39 hLy39 hKy39 y45 hLy45 hKy45) (cwV 1 hts (gV pq593 pq594 pq595 pq76 pq596) rfl rfl rfl (by decide +kernel) ⟨(by rw [hR]; exact (Nat.le_of_ble_eq_true rfl)), (by rw [hR]; exact (Nat.le_of_ble_eq_true rfl))⟩) (sP_V hP hD hK hN hLy39 hKy39 rfl rfl) rfl rfl hl.1 rfl (lv_room (Nat.le_of_ble_eq_true rfl)) dX1_become_46 ⟨(by rw [hR]; exact (Nat.le_of_ble_eq_true rfl)), (by rw [hR]; exact (Nat.le_of_ble_eq_true rfl))⟩) hS hAL hA (fun Iz46 Jz46 H locs hz46 hIz46 hP hS => ?_)
      obtain ⟨hIz46, frc46, fz46, jz46, djc46⟩ := hIz46
      have dj_Jz46 : (∀ b, ¬ (K b = 12 ∧ (G b / 100 = G p0)) → Jz46 b = J b) := fun b hc => (djc46 b (fun z => hc (by exact ⟨z.1, by have z2 := z.2; omega⟩))).trans (dj_J26 b hc)
      have fr_Iz46 : ∀ b, ¬ ((G b = G p0 ∨ G b / 100 = G p0) ∧ ¬ K b = 6) → Iz46 b = I b := fun b q => (frc46 b (fun z => q (by rw [z]; exact ⟨(by omega), by rw [hKy39]; decide⟩))).trans (fr_I26 b q)
      obtain ⟨z49, ez49⟩ : ∃ y : Int32, y = v26_2 + 1 := ⟨_, rfl⟩
      refine lv_iinc (v := z49) (lv' := [(2, .int z49), (0, .ref p0), (1, .ref p1)]) hx hb dX1_become_49 hl (k := 2) rfl (by rw [ez49]; rfl) (by decide) rfl (fun ls hl => ?_)
      have bz49 := tq_add (k := v26_2.toInt) (q := 1) ez49 rfl (by decide +kernel) (by omega) (by omega)
      refine lv_goto (tgt := 26) hx hb dX1_become_52 (by decide) ?_
      exact ih26 _ (by omega) z49 Iz46 Jz46 _ _ _ rfl ⟨by omega, by omega⟩ hIz46 fr_Iz46 dj_Jz46 ⟨by rw [frc46 p0 (ne_k hKp0 hKy39 (by decide))]; exact hk2.1, by rw [frc46 p0 (ne_k hKp0 hKy39 (by decide))]; exact hk2.2⟩ (fun ne => by have e0 : fm Q p0 v26_2.toInt.toNat = y39 := fm_of ey35 ey39; have e1 : fm Q p1 v26_2.toInt.toNat = y45 := fm_of ey41 ey45; rw [show z49.toInt.toNat = v26_2.toInt.toNat + 1 by omega]; exact bcm_step hQ hLp0 hKp0 hLp1 hKp1 ne.1 (by omega) (h26 ne) fr_I26 dj_J26 (by rw [e0]; exact frc46) (by rw [e0, e1]; exact fz46) (by rw [e0, e1]; exact jz46) (by rw [e0]; exact djc46)) ((congrFun (frc46 p0 (ne_k hKp0 hKy39 (by decide))) 3).trans hbc) (fun b hb hn => (frc46 b (ne_k hb hKy39 (by decide))).trans (hbk b hb hn)) (fun b h0 h1 h3 => (frc46 b (fun z => h3 (by rw [z]; exact hKy39))).trans (hbx b h0 h1 h3)) hP hS (lv_sub hl [1, 2, 0] rfl))
  exact key26 _ 0 Iz21 J _ _ _ rfl ⟨by decide +kernel, by decide +kernel⟩ hIz21 fr_Iz21 dj_J ⟨by rw [qIz21, rz_fr _ _ _ _ (by decide), qIz13, rz_fr _ _ _ _ (by decide), qIz5, rz_at, ez2], by rw [qIz21, rz_at, ez18, qIz13, rz_fr _ _ _ _ (by decide), qIz5, rz_fr _ _ _ _ (by decide)]⟩ (fun _ j hj => absurd hj (by rw [show (0 : Int32).toInt.toNat = 0 from by decide +kernel]; omega)) (by rw [qIz21, rz_fr _ _ _ _ (by decide), qIz13, rz_at, ez10, qIz5, rz_fr _ _ _ _ (by decide)]) (fun b hb hn => by rw [qIz21, va_up_ne _ _ hn, qIz13, va_up_ne _ _ hn, qIz5, va_up_ne _ _ hn]) (fun b h0 h1 h3 => by rw [qIz21, va_up_ne _ _ (fun z => h1 (by rw [z]; exact hKp0)), qIz13, va_up_ne _ _ (fun z => h1 (by rw [z]; exact hKp0)), qIz5, va_up_ne _ _ (fun z => h1 (by rw [z]; exact hKp0))]) hP hS (lv_sub hl [1, 2, 0] rfl)

set_option maxHeartbeats 4000000 in
set_option maxRecDepth 100000 in
theorem s_X1_dotsOfAll (l : Launch) (dC : Nat → ClassId) (dI : Nat → Nat → Nat) (cs : Nat → ClassId) (L : List Nat) (K G : Nat → Nat) (Q : Nat → Nat → Option Nat) (hQ : Sv L K G Q) (x0 m0 : Nat) (tx : GT) (tm : GT × Int) (sz : Nat) (I : Nat → Nat → Int32) (J : Nat → Nat → Int64) (hI : Iv L K x0 m0 tx tm I) (p0 : Nat) (hLp0 : p0 ∈ L) (hKp0 : K p0 = 1) : Met l yX1_dotsOfAll (.code yX1_dotsOfAll cX1_dotsOfAll 3 (some .int) :: pw) ({ frames := 0, cells := 0, slots := 0, locals := 0 }) (sP (dC, dI) cs [.ref p0] sz L K I J Q) (va_Qi (fun (r : Int32) (_ : Unit) => (∀ c : Fx, cxF Q I J p0 c → r = sumT c (c.1 0).toInt.toNat)) (fun _ _ => True) (fun _ => False)) 0 0 (fun _ => False) := by
  refine Met.ofW (cc := cX1_dotsOfAll) (maxL := 3) (ret := (some .int)) (by decide +kernel) rfl ?_
  intro p e s m args below meth c s₁ B hml hv
  obtain ⟨rfl, hsz, hP, hK, hD0, hN⟩ := hv
  have hx := B.exec
  have hb := B.bytes
  have hr := B.returns
  have hts := fun w (h : w ∈ pw) => atoms_spec (ws := Cond.code yX1_dotsOfAll cX1_dotsOfAll 3 (some .int) :: pw) B.pre w (List.mem_cons_of_mem _ h)
  have hown : s.vm.findClass RX1 = some m.cls := findClass_of_methodNamed B.named
  have hlocks := B.notSynchronized
  subst hsz
  have hBB : 999 ≤ tm.2 ∧ tm.2 ≤ 6000000 := hI.2.2.2.2.1
  have hD := hD0
  obtain ⟨H, hHe⟩ : ∃ H : Heap, H = s.heap := ⟨_, rfl⟩
  have hS : va_S (fun _ => False) s.heap H [] := by rw [hHe]; exact va_S.rf
  rw [← hHe] at hP
  have hl := lv_entry ([.ref p0]) (n := 3) (Nat.le_of_ble_eq_true rfl)
  rw [lg_entry_eq]
  generalize (lg_sl ([.ref p0]) ++ List.replicate (3 - (lg_sl ([.ref p0])).length) Slot.unset).toArray = ls at hl ⊢
  have hl : lv_has ls 3 [(0, .ref p0)] := hl
  rw [← hHe]
  refine namedW (fun R Qz hR hQz => ?_)
  refine lv_iconst (v := 0) hx hb dX1_dotsOfAll_0 (by decide +kernel) ?_
  refine lv_istore_n (lv' := [(1, .int 0), (0, .ref p0)]) hx hb dX1_dotsOfAll_1 rfl hl (by decide) rfl (fun ls hl => ?_)
  refine lv_iconst (v := 0) hx hb dX1_dotsOfAll_2 (by decide +kernel) ?_
  refine lv_istore_n (lv' := [(2, .int 0), (1, .int 0), (0, .ref p0)]) hx hb dX1_dotsOfAll_3 rfl hl (by decide) rfl (fun ls hl => ?_)
  have key4 := blocks (fun n => ∀ (v4_1 : Int32) (v4_2 : Int32) (H : Heap) (lo : List Loc) (ls : Array Slot), (9 - v4_2.toInt).toNat = n → ((0) ≤ v4_2.toInt ∧ v4_2.toInt ≤ 8) → (∀ c : Fx, cxF Q I J p0 c → v4_1 = sumT c v4_2.toInt.toNat) → (∀ c : Fx, cxF Q I J p0 c → v4_2.toInt ≤ (c.1 0).toInt ∨ v4_2.toInt = 0) → va_P (dC, dI) vwCl (Wd cs L K I J Q) H → va_S (fun _ => False) s.heap H lo → lv_has ls 3 [(0, .ref p0), (1, .int v4_1), (2, .int v4_2)] → W p l e R s m (([.ref p0] : List Value).toArray) below meth c H lo 0 0 Qz (F0 m 4 ls [])) (by
    intro n ih4
    intro v4_1 v4_2 H lo ls hmu4 bv4_2 hd hw4 hP hS hl
    refine lv_iload_n hx hb dX1_dotsOfAll_4 rfl (lv_at hl 2 rfl) ?_
    refine lv_aload_n hx hb dX1_dotsOfAll_5 rfl (lv_at hl 0 rfl) ?_
    refine p_get hx hb hts inX1 hown hK hP hLp0 hKp0 rfl rfl 2 (by decide) (hts _ pq221) rfl dX1_dotsOfAll_6 ?_
    refine lv_topi (fun z6 ez6 => ?_)
    have bz6 := oI_1_2 (Iv_at hI hLp0 hKp0)
    rw [← ez6] at bz6
    refine lv_icmp_ge (tgt := 30) hx hb dX1_dotsOfAll_9 (by decide) (fun c9 => ?_) (fun c9 => ?_)
    · have t9 := tq_le (k := z6.toInt) (q := v4_2.toInt) c9 rfl rfl
      refine lv_iload_n hx hb dX1_dotsOfAll_30 rfl (lv_at hl 1 rfl) ?_
      subst hR; subst hQz
      exact W.iret (v := v4_1) hx hb hr (fun t ht hW => ⟨⟨v4_1, (), rfl, (fun c h => by have e6 := congrArg Int32.toInt (ez6.trans h.1); rw [hd c h]; congr 1; have := hw4 c h; omega), trivial⟩, hS.F ht⟩) hS.2.2 dX1_dotsOfAll_31
    · have t9 := tq_nle (k := z6.toInt) (q := v4_2.toInt) c9 rfl rfl
      refine lv_iload_n hx hb dX1_dotsOfAll_12 rfl (lv_at hl 1 rfl) ?_
      refine lv_aload_n hx hb dX1_dotsOfAll_13 rfl (lv_at hl 0 rfl) ?_
      obtain ⟨y14, ey14, hLy14, hKy14, hGy14⟩ := oQ_1_0 (Sv_at hQ hLp0 hKp0)
      refine p_get (v := .ref y14) hx hb hts inX1 hown hK hP hLp0 hKp0 rfl rfl 0 (by decide) (hts _ pq213) (congrArg (fun q => some (va_rf q)) ey14) dX1_dotsOfAll_14 ?_
      refine lv_iload_n hx hb dX1_dotsOfAll_17 rfl (lv_at hl 2 rfl) ?_
      obtain ⟨y18, ey18, hLy18, hKy18, hGy18⟩ := (Sv_at hQ hLy14 hKy14).1 v4_2.toNatClampNeg (clamp_lt (n := 8) (in_of (by omega) (by omega)))
      have hjy18 : v4_2.toNatClampNeg < 8 := clamp_lt (i := v4_2) (n := 8) (in_of (by omega) (by omega))
      refine p_aaldR hx hb hK hP 3 hLy14 hKy14 rfl rfl (in_of (by omega) (by omega)) ey18 dX1_dotsOfAll_18 ?_
      refine p_get hx hb hts inX3 hown hK hP hLy18 hKy18 rfl rfl 3 (by decide) (hts _ pq131) rfl dX1_dotsOfAll_19 ?_
      refine lv_topi (fun z19 ez19 => ?_)
      refine lv_iadd hx hb dX1_dotsOfAll_22 ?_
      refine lv_topi (fun z22 ez22 => ?_)
      refine lv_istore_n (lv' := [(1, .int z22), (0, .ref p0), (2, .int v4_2)]) hx hb dX1_dotsOfAll_23 rfl hl (by decide) rfl (fun ls hl => ?_)
      obtain ⟨z24, ez24⟩ : ∃ y : Int32, y = v4_2 + 1 := ⟨_, rfl⟩
      refine lv_iinc (v := z24) (lv' := [(2, .int z24), (1, .int z22), (0, .ref p0)]) hx hb dX1_dotsOfAll_24 hl (k := 2) rfl (by rw [ez24]; rfl) (by decide) rfl (fun ls hl => ?_)
      have bz24 := tq_add (k := v4_2.toInt) (q := 1) ez24 rfl (by decide +kernel) (by omega) (by omega)
      refine lv_goto (tgt := 4) hx hb dX1_dotsOfAll_27 (by decide) ?_
      exact ih4 _ (by omega) z22 z24 _ _ _ rfl ⟨by omega, by omega⟩ (fun c h => by rw [show z24.toInt.toNat = v4_2.toInt.toNat + 1 by omega, ez22, hd c h]; show _ = sumT c v4_2.toInt.toNat + _; congr 1; have e6 := ez6.trans h.1; have w := h.2.2.2.1 v4_2.toInt.toNat (by rw [← e6]; omega); rw [show fm Q p0 v4_2.toInt.toNat = y18 from fm_of ey14 ey18] at w; rw [ez19]; exact oi_eq w.2.2.2.1) (fun c h => by have e6 := congrArg Int32.toInt (ez6.trans h.1); omega) hP hS (lv_sub hl [2, 1, 0] rfl))
  exact key4 _ 0 0 _ _ _ rfl ⟨by decide +kernel, by decide +kernel⟩ (fun c h => by rw [show (0 : Int32).toInt.toNat = 0 from by decide +kernel]; rfl) (fun c h => Or.inr (by decide +kernel)) hP hS (lv_sub hl [2, 1, 0] rfl)
