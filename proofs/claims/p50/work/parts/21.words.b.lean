def yX4_readMask : MethodName := ⟨RX4, "readMask", "(LMaskTouch$Field;)Z"⟩
abbrev cX4_readMask : ByteArray := prog_6_method_3_code
abbrev cX4_readField : ByteArray := prog_6_method_2_code
def yX4_readField : MethodName := ⟨RX4, "readField", "(ILMaskTouch$Field;)I"⟩
theorem dX4_readField_0 : decode cX4_readField 0 = .ok (.aload_n 0, 1) := by decide +kernel
theorem dX4_readField_1 : decode cX4_readField 1 = .ok (.iload_n 1, 1) := by decide +kernel
theorem dX4_readField_2 : decode cX4_readField 2 = .ok (.aload_n 0, 1) := by decide +kernel
theorem dX4_readField_3 : decode cX4_readField 3 = .ok (.getfield 27, 3) := by decide +kernel
theorem dX4_readField_6 : decode cX4_readField 6 = .ok (.arraylength, 1) := by decide +kernel
theorem dX4_readField_7 : decode cX4_readField 7 = .ok (.invokestatic 31, 3) := by decide +kernel
theorem dX4_readField_10 : decode cX4_readField 10 = .ok (.putfield 9, 3) := by decide +kernel
theorem dX4_readField_13 : decode cX4_readField 13 = .ok (.aload_n 0, 1) := by decide +kernel
theorem dX4_readField_14 : decode cX4_readField 14 = .ok (.iconst 0, 1) := by decide +kernel
theorem dX4_readField_15 : decode cX4_readField 15 = .ok (.putfield 15, 3) := by decide +kernel
theorem dX4_readField_18 : decode cX4_readField 18 = .ok (.aload_n 0, 1) := by decide +kernel
theorem dX4_readField_19 : decode cX4_readField 19 = .ok (.iconst 0, 1) := by decide +kernel
theorem dX4_readField_20 : decode cX4_readField 20 = .ok (.putfield 24, 3) := by decide +kernel
theorem dX4_readField_23 : decode cX4_readField 23 = .ok (.aload_n 2, 1) := by decide +kernel
theorem dX4_readField_24 : decode cX4_readField 24 = .ok (.invokevirtual 37, 3) := by decide +kernel
theorem dX4_readField_27 : decode cX4_readField 27 = .ok (.aload_n 0, 1) := by decide +kernel
theorem dX4_readField_28 : decode cX4_readField 28 = .ok (.invokevirtual 42, 3) := by decide +kernel
theorem dX4_readField_31 : decode cX4_readField 31 = .ok (.ifCond .eq 8, 3) := by decide +kernel
theorem dX4_readField_34 : decode cX4_readField 34 = .ok (.aload_n 0, 1) := by decide +kernel
theorem dX4_readField_35 : decode cX4_readField 35 = .ok (.getfield 24, 3) := by decide +kernel
theorem dX4_readField_38 : decode cX4_readField 38 = .ok (.ireturn, 1) := by decide +kernel
theorem dX4_readField_39 : decode cX4_readField 39 = .ok (.iconst 0, 1) := by decide +kernel
theorem dX4_readField_40 : decode cX4_readField 40 = .ok (.istore_n 3, 1) := by decide +kernel
theorem dX4_readField_41 : decode cX4_readField 41 = .ok (.iload_n 3, 1) := by decide +kernel
theorem dX4_readField_42 : decode cX4_readField 42 = .ok (.aload_n 0, 1) := by decide +kernel
theorem dX4_readField_43 : decode cX4_readField 43 = .ok (.getfield 9, 3) := by decide +kernel
theorem dX4_readField_46 : decode cX4_readField 46 = .ok (.if_icmp .ge 99, 3) := by decide +kernel
theorem dX4_readField_49 : decode cX4_readField 49 = .ok (.aload_n 0, 1) := by decide +kernel
theorem dX4_readField_50 : decode cX4_readField 50 = .ok (.invokevirtual 46, 3) := by decide +kernel
theorem dX4_readField_53 : decode cX4_readField 53 = .ok (.aload_n 0, 1) := by decide +kernel
theorem dX4_readField_54 : decode cX4_readField 54 = .ok (.ldc 49, 2) := by decide +kernel
theorem dX4_readField_56 : decode cX4_readField 56 = .ok (.invokevirtual 51, 3) := by decide +kernel
theorem dX4_readField_59 : decode cX4_readField 59 = .ok (.ifCond .eq 11, 3) := by decide +kernel
theorem dX4_readField_62 : decode cX4_readField 62 = .ok (.aload_n 0, 1) := by decide +kernel
theorem dX4_readField_63 : decode cX4_readField 63 = .ok (.aload_n 2, 1) := by decide +kernel
theorem dX4_readField_64 : decode cX4_readField 64 = .ok (.invokevirtual 55, 3) := by decide +kernel
theorem dX4_readField_67 : decode cX4_readField 67 = .ok (.goto 29, 3) := by decide +kernel
theorem dX4_readField_70 : decode cX4_readField 70 = .ok (.aload_n 0, 1) := by decide +kernel
theorem dX4_readField_71 : decode cX4_readField 71 = .ok (.ldc 59, 2) := by decide +kernel
theorem dX4_readField_73 : decode cX4_readField 73 = .ok (.invokevirtual 51, 3) := by decide +kernel
theorem dX4_readField_76 : decode cX4_readField 76 = .ok (.ifCond .eq 11, 3) := by decide +kernel
theorem dX4_readField_79 : decode cX4_readField 79 = .ok (.aload_n 0, 1) := by decide +kernel
theorem dX4_readField_80 : decode cX4_readField 80 = .ok (.aload_n 2, 1) := by decide +kernel
theorem dX4_readField_81 : decode cX4_readField 81 = .ok (.invokevirtual 61, 3) := by decide +kernel
theorem dX4_readField_84 : decode cX4_readField 84 = .ok (.goto 12, 3) := by decide +kernel
theorem dX4_readField_87 : decode cX4_readField 87 = .ok (.aload_n 0, 1) := by decide +kernel
theorem dX4_readField_88 : decode cX4_readField 88 = .ok (.aload_n 0, 1) := by decide +kernel
theorem dX4_readField_89 : decode cX4_readField 89 = .ok (.getfield 15, 3) := by decide +kernel
theorem dX4_readField_92 : decode cX4_readField 92 = .ok (.iconst 1, 1) := by decide +kernel
theorem dX4_readField_93 : decode cX4_readField 93 = .ok (.invokevirtual 64, 3) := by decide +kernel
theorem dX4_readField_96 : decode cX4_readField 96 = .ok (.istore 4, 2) := by decide +kernel
theorem dX4_readField_98 : decode cX4_readField 98 = .ok (.iload 4, 2) := by decide +kernel
theorem dX4_readField_100 : decode cX4_readField 100 = .ok (.ifCond .eq 10, 3) := by decide +kernel
theorem dX4_readField_103 : decode cX4_readField 103 = .ok (.aload_n 0, 1) := by decide +kernel
theorem dX4_readField_104 : decode cX4_readField 104 = .ok (.invokevirtual 42, 3) := by decide +kernel
theorem dX4_readField_107 : decode cX4_readField 107 = .ok (.ifCond .eq 8, 3) := by decide +kernel
theorem dX4_readField_110 : decode cX4_readField 110 = .ok (.aload_n 0, 1) := by decide +kernel
theorem dX4_readField_111 : decode cX4_readField 111 = .ok (.getfield 24, 3) := by decide +kernel
theorem dX4_readField_114 : decode cX4_readField 114 = .ok (.ireturn, 1) := by decide +kernel
theorem dX4_readField_115 : decode cX4_readField 115 = .ok (.aload_n 0, 1) := by decide +kernel
theorem dX4_readField_116 : decode cX4_readField 116 = .ok (.bipush 59, 2) := by decide +kernel
theorem dX4_readField_118 : decode cX4_readField 118 = .ok (.invokevirtual 68, 3) := by decide +kernel
theorem dX4_readField_121 : decode cX4_readField 121 = .ok (.ifCond .ne 18, 3) := by decide +kernel
theorem dX4_readField_124 : decode cX4_readField 124 = .ok (.aload_n 0, 1) := by decide +kernel
theorem dX4_readField_125 : decode cX4_readField 125 = .ok (.aload_n 0, 1) := by decide +kernel
theorem dX4_readField_126 : decode cX4_readField 126 = .ok (.getfield 15, 3) := by decide +kernel
theorem dX4_readField_129 : decode cX4_readField 129 = .ok (.iconst 1, 1) := by decide +kernel
theorem dX4_readField_130 : decode cX4_readField 130 = .ok (.invokevirtual 64, 3) := by decide +kernel
theorem dX4_readField_133 : decode cX4_readField 133 = .ok (.pop, 1) := by decide +kernel
theorem dX4_readField_134 : decode cX4_readField 134 = .ok (.aload_n 0, 1) := by decide +kernel
theorem dX4_readField_135 : decode cX4_readField 135 = .ok (.getfield 24, 3) := by decide +kernel
theorem dX4_readField_138 : decode cX4_readField 138 = .ok (.ireturn, 1) := by decide +kernel
theorem dX4_readField_139 : decode cX4_readField 139 = .ok (.iinc 3 1, 3) := by decide +kernel
theorem dX4_readField_142 : decode cX4_readField 142 = .ok (.goto (-101), 3) := by decide +kernel
theorem dX4_readField_145 : decode cX4_readField 145 = .ok (.aload_n 0, 1) := by decide +kernel
theorem dX4_readField_146 : decode cX4_readField 146 = .ok (.getfield 24, 3) := by decide +kernel
theorem dX4_readField_149 : decode cX4_readField 149 = .ok (.ireturn, 1) := by decide +kernel
theorem dX4_readMask_0 : decode cX4_readMask 0 = .ok (.aload_n 1, 1) := by decide +kernel
theorem dX4_readMask_1 : decode cX4_readMask 1 = .ok (.getfield 72, 3) := by decide +kernel
theorem dX4_readMask_4 : decode cX4_readMask 4 = .ok (.bipush 8, 2) := by decide +kernel
theorem dX4_readMask_6 : decode cX4_readMask 6 = .ok (.if_icmp .lt 13, 3) := by decide +kernel
theorem dX4_readMask_9 : decode cX4_readMask 9 = .ok (.aload_n 0, 1) := by decide +kernel
theorem dX4_readMask_10 : decode cX4_readMask 10 = .ok (.aload_n 0, 1) := by decide +kernel
theorem dX4_readMask_11 : decode cX4_readMask 11 = .ok (.getfield 18, 3) := by decide +kernel
theorem dX4_readMask_14 : decode cX4_readMask 14 = .ok (.iconst 3, 1) := by decide +kernel
theorem dX4_readMask_15 : decode cX4_readMask 15 = .ok (.invokevirtual 64, 3) := by decide +kernel
theorem dX4_readMask_18 : decode cX4_readMask 18 = .ok (.ireturn, 1) := by decide +kernel
theorem dX4_readMask_19 : decode cX4_readMask 19 = .ok (.aload_n 1, 1) := by decide +kernel
theorem dX4_readMask_20 : decode cX4_readMask 20 = .ok (.getfield 75, 3) := by decide +kernel
theorem dX4_readMask_23 : decode cX4_readMask 23 = .ok (.aload_n 1, 1) := by decide +kernel
theorem dX4_readMask_24 : decode cX4_readMask 24 = .ok (.getfield 72, 3) := by decide +kernel
theorem dX4_readMask_27 : decode cX4_readMask 27 = .ok (.aaload, 1) := by decide +kernel
theorem dX4_readMask_28 : decode cX4_readMask 28 = .ok (.astore_n 2, 1) := by decide +kernel
theorem dX4_readMask_29 : decode cX4_readMask 29 = .ok (.aload_n 1, 1) := by decide +kernel
theorem dX4_readMask_30 : decode cX4_readMask 30 = .ok (.dup, 1) := by decide +kernel
theorem dX4_readMask_31 : decode cX4_readMask 31 = .ok (.getfield 72, 3) := by decide +kernel
theorem dX4_readMask_34 : decode cX4_readMask 34 = .ok (.iconst 1, 1) := by decide +kernel
theorem dX4_readMask_35 : decode cX4_readMask 35 = .ok (.iadd, 1) := by decide +kernel
theorem dX4_readMask_36 : decode cX4_readMask 36 = .ok (.putfield 72, 3) := by decide +kernel
theorem dX4_readMask_39 : decode cX4_readMask 39 = .ok (.aload_n 0, 1) := by decide +kernel
theorem dX4_readMask_40 : decode cX4_readMask 40 = .ok (.ldc 79, 2) := by decide +kernel
theorem dX4_readMask_42 : decode cX4_readMask 42 = .ok (.invokevirtual 51, 3) := by decide +kernel
theorem dX4_readMask_45 : decode cX4_readMask 45 = .ok (.ifCond .eq 27, 3) := by decide +kernel
theorem dX4_readMask_48 : decode cX4_readMask 48 = .ok (.aload_n 0, 1) := by decide +kernel
theorem dX4_readMask_49 : decode cX4_readMask 49 = .ok (.aload_n 2, 1) := by decide +kernel
theorem dX4_readMask_50 : decode cX4_readMask 50 = .ok (.invokevirtual 81, 3) := by decide +kernel
theorem dX4_readMask_53 : decode cX4_readMask 53 = .ok (.ifCond .eq 14, 3) := by decide +kernel
theorem dX4_readMask_56 : decode cX4_readMask 56 = .ok (.aload_n 2, 1) := by decide +kernel
theorem dX4_readMask_57 : decode cX4_readMask 57 = .ok (.invokestatic 85, 3) := by decide +kernel
theorem dX4_readMask_60 : decode cX4_readMask 60 = .ok (.ifCond .eq 7, 3) := by decide +kernel
theorem dX4_readMask_63 : decode cX4_readMask 63 = .ok (.iconst 1, 1) := by decide +kernel
theorem dX4_readMask_64 : decode cX4_readMask 64 = .ok (.goto 4, 3) := by decide +kernel
theorem dX4_readMask_67 : decode cX4_readMask 67 = .ok (.iconst 0, 1) := by decide +kernel
theorem dX4_readMask_68 : decode cX4_readMask 68 = .ok (.istore_n 3, 1) := by decide +kernel
theorem dX4_readMask_69 : decode cX4_readMask 69 = .ok (.goto 81, 3) := by decide +kernel
theorem dX4_readMask_72 : decode cX4_readMask 72 = .ok (.aload_n 0, 1) := by decide +kernel
theorem dX4_readMask_73 : decode cX4_readMask 73 = .ok (.ldc 88, 2) := by decide +kernel
theorem dX4_readMask_75 : decode cX4_readMask 75 = .ok (.invokevirtual 51, 3) := by decide +kernel
theorem dX4_readMask_78 : decode cX4_readMask 78 = .ok (.ifCond .eq 27, 3) := by decide +kernel
theorem dX4_readMask_81 : decode cX4_readMask 81 = .ok (.aload_n 0, 1) := by decide +kernel
theorem dX4_readMask_82 : decode cX4_readMask 82 = .ok (.aload_n 2, 1) := by decide +kernel
theorem dX4_readMask_83 : decode cX4_readMask 83 = .ok (.invokevirtual 81, 3) := by decide +kernel
theorem dX4_readMask_86 : decode cX4_readMask 86 = .ok (.ifCond .eq 14, 3) := by decide +kernel
theorem dX4_readMask_89 : decode cX4_readMask 89 = .ok (.aload_n 2, 1) := by decide +kernel
theorem dX4_readMask_90 : decode cX4_readMask 90 = .ok (.invokestatic 90, 3) := by decide +kernel
theorem dX4_readMask_93 : decode cX4_readMask 93 = .ok (.ifCond .eq 7, 3) := by decide +kernel
theorem dX4_readMask_96 : decode cX4_readMask 96 = .ok (.iconst 1, 1) := by decide +kernel
theorem dX4_readMask_97 : decode cX4_readMask 97 = .ok (.goto 4, 3) := by decide +kernel
theorem dX4_readMask_100 : decode cX4_readMask 100 = .ok (.iconst 0, 1) := by decide +kernel
theorem dX4_readMask_101 : decode cX4_readMask 101 = .ok (.istore_n 3, 1) := by decide +kernel
theorem dX4_readMask_102 : decode cX4_readMask 102 = .ok (.goto 48, 3) := by decide +kernel
theorem dX4_readMask_105 : decode cX4_readMask 105 = .ok (.aload_n 0, 1) := by decide +kernel
theorem dX4_readMask_106 : decode cX4_readMask 106 = .ok (.ldc 93, 2) := by decide +kernel
theorem dX4_readMask_108 : decode cX4_readMask 108 = .ok (.invokevirtual 51, 3) := by decide +kernel
theorem dX4_readMask_111 : decode cX4_readMask 111 = .ok (.ifCond .eq 33, 3) := by decide +kernel
theorem dX4_readMask_114 : decode cX4_readMask 114 = .ok (.aload_n 0, 1) := by decide +kernel
theorem dX4_readMask_115 : decode cX4_readMask 115 = .ok (.iconst 0, 1) := by decide +kernel
theorem dX4_readMask_116 : decode cX4_readMask 116 = .ok (.bipush 19, 2) := by decide +kernel
theorem dX4_readMask_118 : decode cX4_readMask 118 = .ok (.invokevirtual 95, 3) := by decide +kernel
theorem dX4_readMask_121 : decode cX4_readMask 121 = .ok (.ifCond .eq 18, 3) := by decide +kernel
theorem dX4_readMask_124 : decode cX4_readMask 124 = .ok (.aload_n 2, 1) := by decide +kernel
theorem dX4_readMask_125 : decode cX4_readMask 125 = .ok (.aload_n 0, 1) := by decide +kernel
theorem dX4_readMask_126 : decode cX4_readMask 126 = .ok (.getfield 21, 3) := by decide +kernel
theorem dX4_readMask_129 : decode cX4_readMask 129 = .ok (.invokestatic 98, 3) := by decide +kernel
theorem dX4_readMask_132 : decode cX4_readMask 132 = .ok (.ifCond .eq 7, 3) := by decide +kernel
theorem dX4_readMask_135 : decode cX4_readMask 135 = .ok (.iconst 1, 1) := by decide +kernel
theorem dX4_readMask_136 : decode cX4_readMask 136 = .ok (.goto 4, 3) := by decide +kernel
theorem dX4_readMask_139 : decode cX4_readMask 139 = .ok (.iconst 0, 1) := by decide +kernel
theorem dX4_readMask_140 : decode cX4_readMask 140 = .ok (.istore_n 3, 1) := by decide +kernel
theorem dX4_readMask_141 : decode cX4_readMask 141 = .ok (.goto 9, 3) := by decide +kernel
theorem dX4_readMask_144 : decode cX4_readMask 144 = .ok (.aload_n 0, 1) := by decide +kernel
theorem dX4_readMask_145 : decode cX4_readMask 145 = .ok (.aload_n 2, 1) := by decide +kernel
theorem dX4_readMask_146 : decode cX4_readMask 146 = .ok (.invokevirtual 102, 3) := by decide +kernel
theorem dX4_readMask_149 : decode cX4_readMask 149 = .ok (.istore_n 3, 1) := by decide +kernel
theorem dX4_readMask_150 : decode cX4_readMask 150 = .ok (.aload_n 2, 1) := by decide +kernel
theorem dX4_readMask_151 : decode cX4_readMask 151 = .ok (.invokevirtual 105, 3) := by decide +kernel
theorem dX4_readMask_154 : decode cX4_readMask 154 = .ok (.iload_n 3, 1) := by decide +kernel
theorem dX4_readMask_155 : decode cX4_readMask 155 = .ok (.ireturn, 1) := by decide +kernel
set_option maxRecDepth 100000 in
theorem pq215 : Cond.fieldLink RX4 75 "MaskTouch$Field" "masks" "[LMaskTouch$Mask;" ∈ pw := pw_mem (i := 215) (by decide +kernel) rfl
set_option maxRecDepth 100000 in
theorem pq409 : Cond.methodLink RX4 37 yX1_clear ∈ pw := pw_mem (i := 409) (by decide +kernel) rfl
set_option maxRecDepth 100000 in
theorem pq410 : Cond.instanceMethod yX1_clear ∈ pw := pw_mem (i := 410) (by decide +kernel) rfl
set_option maxRecDepth 100000 in
theorem pq411 : Cond.selects RX1 yX1_clear yX1_clear ∈ pw := pw_mem (i := 411) (by decide +kernel) rfl
set_option maxRecDepth 100000 in
theorem pq412 : Cond.code yX1_clear cX1_clear 1 none ∈ pw := pw_mem (i := 412) (by rfl) rfl
set_option maxRecDepth 100000 in
theorem pq413 : Cond.methodLink RX4 42 yX4_isAtEnd ∈ pw := pw_mem (i := 413) (by decide +kernel) rfl
set_option maxRecDepth 100000 in
theorem pq414 : Cond.instanceMethod yX4_isAtEnd ∈ pw := pw_mem (i := 414) (by decide +kernel) rfl
set_option maxRecDepth 100000 in
theorem pq415 : Cond.selects RX4 yX4_isAtEnd yX4_isAtEnd ∈ pw := pw_mem (i := 415) (by decide +kernel) rfl
set_option maxRecDepth 100000 in
theorem pq416 : Cond.code yX4_isAtEnd cX4_isAtEnd 1 (some .boolean) ∈ pw := pw_mem (i := 416) (by rfl) rfl
set_option maxRecDepth 100000 in
theorem pq474 : Cond.methodLink RX4 55 yX4_readMask ∈ pw := pw_mem (i := 474) (by decide +kernel) rfl
set_option maxRecDepth 100000 in
theorem pq475 : Cond.instanceMethod yX4_readMask ∈ pw := pw_mem (i := 475) (by decide +kernel) rfl
set_option maxRecDepth 100000 in
theorem pq476 : Cond.selects RX4 yX4_readMask yX4_readMask ∈ pw := pw_mem (i := 476) (by decide +kernel) rfl
set_option maxRecDepth 100000 in
theorem pq477 : Cond.code yX4_readMask cX4_readMask 4 (some .boolean) ∈ pw := pw_mem (i := 477) (by rfl) rfl
set_option maxRecDepth 100000 in
theorem pq483 : Cond.methodLink RX4 81 yX4_readSize ∈ pw := pw_mem (i := 483) (by decide +kernel) rfl
set_option maxRecDepth 100000 in
theorem pq484 : Cond.instanceMethod yX4_readSize ∈ pw := pw_mem (i := 484) (by decide +kernel) rfl
set_option maxRecDepth 100000 in
theorem pq485 : Cond.selects RX4 yX4_readSize yX4_readSize ∈ pw := pw_mem (i := 485) (by decide +kernel) rfl
set_option maxRecDepth 100000 in
theorem pq486 : Cond.code yX4_readSize cX4_readSize 3 (some .boolean) ∈ pw := pw_mem (i := 486) (by rfl) rfl
set_option maxRecDepth 100000 in
theorem pq499 : Cond.methodLink RX4 85 yX4_fillBox ∈ pw := pw_mem (i := 499) (by decide +kernel) rfl
set_option maxRecDepth 100000 in
theorem pq500 : Cond.static yX4_fillBox ∈ pw := pw_mem (i := 500) (by decide +kernel) rfl
set_option maxRecDepth 100000 in
theorem pq501 : Cond.code yX4_fillBox cX4_fillBox 2 (some .boolean) ∈ pw := pw_mem (i := 501) (by rfl) rfl
set_option maxRecDepth 100000 in
theorem pq510 : Cond.methodLink RX4 90 yX4_fillFrame ∈ pw := pw_mem (i := 510) (by decide +kernel) rfl
set_option maxRecDepth 100000 in
theorem pq511 : Cond.static yX4_fillFrame ∈ pw := pw_mem (i := 511) (by decide +kernel) rfl
set_option maxRecDepth 100000 in
theorem pq512 : Cond.code yX4_fillFrame cX4_fillFrame 3 (some .boolean) ∈ pw := pw_mem (i := 512) (by rfl) rfl
set_option maxRecDepth 100000 in
theorem pq522 : Cond.methodLink RX4 98 yX4_fillDisk ∈ pw := pw_mem (i := 522) (by decide +kernel) rfl
set_option maxRecDepth 100000 in
theorem pq523 : Cond.static yX4_fillDisk ∈ pw := pw_mem (i := 523) (by decide +kernel) rfl
set_option maxRecDepth 100000 in
theorem pq524 : Cond.code yX4_fillDisk cX4_fillDisk 4 (some .boolean) ∈ pw := pw_mem (i := 524) (by rfl) rfl
set_option maxRecDepth 100000 in
theorem pq525 : Cond.methodLink RX4 102 yX4_readRows ∈ pw := pw_mem (i := 525) (by decide +kernel) rfl
set_option maxRecDepth 100000 in
theorem pq526 : Cond.instanceMethod yX4_readRows ∈ pw := pw_mem (i := 526) (by decide +kernel) rfl
set_option maxRecDepth 100000 in
theorem pq527 : Cond.selects RX4 yX4_readRows yX4_readRows ∈ pw := pw_mem (i := 527) (by decide +kernel) rfl
set_option maxRecDepth 100000 in
theorem pq528 : Cond.code yX4_readRows cX4_readRows 5 (some .boolean) ∈ pw := pw_mem (i := 528) (by rfl) rfl
set_option maxRecDepth 100000 in
theorem pq541 : Cond.methodLink RX4 105 yX3_measure ∈ pw := pw_mem (i := 541) (by decide +kernel) rfl
set_option maxRecDepth 100000 in
theorem pq558 : Cond.methodLink RX4 61 yX4_readBody ∈ pw := pw_mem (i := 558) (by decide +kernel) rfl
set_option maxRecDepth 100000 in
theorem pq559 : Cond.instanceMethod yX4_readBody ∈ pw := pw_mem (i := 559) (by decide +kernel) rfl
set_option maxRecDepth 100000 in
theorem pq560 : Cond.selects RX4 yX4_readBody yX4_readBody ∈ pw := pw_mem (i := 560) (by decide +kernel) rfl
set_option maxRecDepth 100000 in
theorem pq561 : Cond.code yX4_readBody cX4_readBody 5 (some .boolean) ∈ pw := pw_mem (i := 561) (by rfl) rfl
set_option maxHeartbeats 4000000 in
set_option maxRecDepth 100000 in
theorem s_X4_readMask (l : Launch) (dC : Nat → ClassId) (dI : Nat → Nat → Nat) (cs : Nat → ClassId) (L : List Nat) (K G : Nat → Nat) (Q : Nat → Nat → Option Nat) (hQ : Sv L K G Q) (x0 m0 : Nat) (tx : GT) (tm : GT × Int) (sz : Nat) (I : Nat → Nat → Int32) (J : Nat → Nat → Int64) (hI : Iv L K x0 m0 tx tm I) (p0 : Nat) (hLp0 : p0 ∈ L) (hKp0 : K p0 = 4) (p1 : Nat) (hLp1 : p1 ∈ L) (hKp1 : K p1 = 1) : Met l yX4_readMask (.code yX4_readMask cX4_readMask 4 (some .boolean) :: pw) ({ frames := 5, cells := 0, slots := 0, locals := 108 }) (sPX (dC, dI) cs [.ref p0, .ref p1] sz L K I J Q (fun q => q ∈ L ∨ sz ≤ q) (fun A U H => xS A U H)) (va_Qi (fun (r : Int32) (u : Int32) => u = r ∧ ((0) ≤ r.toInt ∧ r.toInt ≤ 1)) (fun u t => sB (dC, dI) cs L K Q (fun I1 J1 => Iv L K x0 m0 tx tm I1 ∧ (∀ b, ¬ (b = p0 ∨ b = p1 ∨ b = fm Q p1 ((I p1 2).toInt.toNat % 8)) → I1 b = I b) ∧ ((8 ≤ (I p1 2).toInt → u.toInt = 0 ∧ rdF I I1 p0 (8 * (I p0 3).toInt + 3)) ∧ ((I p1 2).toInt < 8 → rdP I I1 p0 u (pfm (tb tx.2.2 (I p0 1).toInt) (I p0 2).toInt) ∧ (I1 p1 2).toInt = (I p1 2).toInt + 1 ∧ I1 p1 3 = I p1 3)) ∧ ((¬ u.toInt = 0 → mkd Q I1 J1 (fm Q p1 ((I p1 2).toInt.toNat % 8)) (Int32.ofInt (fmT (tb tx.2.2 (I p0 1).toInt) (I p0 2).toInt).1) (Int32.ofInt (fmT (tb tx.2.2 (I p0 1).toInt) (I p0 2).toInt).2.1) (fmT (tb tx.2.2 (I p0 1).toInt) (I p0 2).toInt).2.2) ∧ ∀ k, ¬ k = 2 → I1 p1 k = I p1 k) ∧ (∀ b, ¬ (K b = 12 ∧ (G b = G (fm Q p1 ((I p1 2).toInt.toNat % 8)))) → J1 b = J b)) t) (fun q => q ∈ L ∨ sz ≤ q)) 0 0 (fun q => q ∈ L ∨ sz ≤ q) := by
  refine Met.ofW (cc := cX4_readMask) (maxL := 4) (ret := (some .boolean)) (by decide +kernel) rfl ?_
  intro p e s m args below meth c s₁ B hml hv
  obtain ⟨rfl, ⟨hsz, hP, hK, hD0, hN⟩, hXs⟩ := hv
  have hx := B.exec
  have hb := B.bytes
  have hr := B.returns
  have hts := fun w (h : w ∈ pw) => atoms_spec (ws := Cond.code yX4_readMask cX4_readMask 4 (some .boolean) :: pw) B.pre w (List.mem_cons_of_mem _ h)
  have hown : s.vm.findClass RX4 = some m.cls := findClass_of_methodNamed B.named
  have hlocks := B.notSynchronized
  subst hsz
  have hBB : 999 ≤ tm.2 ∧ tm.2 ≤ 6000000 := hI.2.2.2.2.1
  have dj_J : (∀ b, ¬ (K b = 12 ∧ (G b = G (fm Q p1 ((I p1 2).toInt.toNat % 8)))) → J b = J b) := fun _ _ => rfl
  have fr_I : ∀ b, ¬ (b = p0 ∨ b = p1 ∨ b = fm Q p1 ((I p1 2).toInt.toNat % 8)) → I b = I b := fun _ _ => rfl
  obtain ⟨A, hAe⟩ : ∃ A : Nat → Prop, A = (fun q => q ∈ L ∨ s.heap.size ≤ q) := ⟨_, rfl⟩
  rw [← hAe]
  have hAL : ∀ q, q ∈ L → A q := fun q h => by rw [hAe]; exact Or.inl h
  have hA : ∀ q, s.heap.size ≤ q → A q := fun q h => by rw [hAe]; exact Or.inr h
  have hD : ∀ F, va_D A (va_pl L F) := fun F => (hD0 F).weaken (fun k q hk _ => hAL _ (pl_mem hk))
  rw [← hAe] at hXs
  have hxx := hXs
  have hxt := hxx.1
  obtain ⟨H, hHe⟩ : ∃ H : Heap, H = s.heap := ⟨_, rfl⟩
  have hS : va_S A s.heap H [] := by rw [hHe]; exact va_S.rf
  rw [← hHe] at hP
  have hl := lv_entry ([.ref p0, .ref p1]) (n := 4) (Nat.le_of_ble_eq_true rfl)
  rw [lg_entry_eq]
  generalize (lg_sl ([.ref p0, .ref p1]) ++ List.replicate (4 - (lg_sl ([.ref p0, .ref p1])).length) Slot.unset).toArray = ls at hl ⊢
  have hl : lv_has ls 4 [(0, .ref p0), (1, .ref p1)] := hl
  rw [← hHe]
  refine namedW (fun R Qz hR hQz => ?_)
  refine lv_aload_n hx hb dX4_readMask_0 rfl (lv_at hl 1 rfl) ?_
  refine p_get hx hb hts inX1 hown hK hP hLp1 hKp1 rfl rfl 2 (by decide) (hts _ pq222) rfl dX4_readMask_1 ?_
  refine lv_topi (fun z1 ez1 => ?_)
  have bz1 := oI_1_2 (Iv_at hI hLp1 hKp1)
  rw [← ez1] at bz1
  refine lv_bipush (v := 8) hx hb dX4_readMask_4 (by decide +kernel) ?_
  refine lv_icmp_lt (tgt := 19) hx hb dX4_readMask_6 (by decide) (fun c6 => ?_) (fun c6 => ?_)
  · have t6 := tq_lt (k := z1.toInt) (q := (8)) c6 rfl (by decide +kernel)
    refine lv_aload_n hx hb dX4_readMask_19 rfl (lv_at hl 1 rfl) ?_
    obtain ⟨y20, ey20, hLy20, hKy20, hGy20⟩ := oQ_1_0 (Sv_at hQ hLp1 hKp1)
    refine p_get (v := .ref y20) hx hb hts inX1 hown hK hP hLp1 hKp1 rfl rfl 0 (by decide) (hts _ pq215) (congrArg (fun q => some (va_rf q)) ey20) dX4_readMask_20 ?_
    refine lv_aload_n hx hb dX4_readMask_23 rfl (lv_at hl 1 rfl) ?_
    refine p_get hx hb hts inX1 hown hK hP hLp1 hKp1 rfl rfl 2 (by decide) (hts _ pq222) rfl dX4_readMask_24 ?_
    refine lv_topi (fun z24 ez24 => ?_)
    obtain rfl : z1 = z24 := ez1.trans ez24.symm
    obtain ⟨y27, ey27, hLy27, hKy27, hGy27⟩ := (Sv_at hQ hLy20 hKy20).1 z1.toNatClampNeg (clamp_lt (n := 8) (in_of (by omega) (by omega)))
    have hjy27 : z1.toNatClampNeg < 8 := clamp_lt (i := z1) (n := 8) (in_of (by omega) (by omega))
    refine p_aaldR hx hb hK hP 3 hLy20 hKy20 rfl rfl (in_of (by omega) (by omega)) ey27 dX4_readMask_27 ?_
    have fmE : fm Q p1 ((I p1 2).toInt.toNat % 8) = y27 := by rw [← ez1, Nat.mod_eq_of_lt (show z1.toInt.toNat < 8 from hjy27)]; exact fm_of ey20 ey27
    have n10 : ¬ p1 = p0 := ne_k hKp1 hKp0 (by decide)
    have n27 : ¬ p1 = y27 := ne_k hKp1 hKy27 (by decide)
    have gE : G (fm Q p1 ((I p1 2).toInt.toNat % 8)) = G y27 := by rw [fmE]
    refine lv_astore_n (lv' := [(2, .ref y27), (0, .ref p0), (1, .ref p1)]) hx hb dX4_readMask_28 rfl hl (by decide) rfl (fun ls hl => ?_)
    refine lv_aload_n hx hb dX4_readMask_29 rfl (lv_at hl 2 rfl) ?_
    refine lv_dup hx hb dX4_readMask_30 rfl ?_
    refine p_get hx hb hts inX1 hown hK hP hLp1 hKp1 rfl rfl 2 (by decide) (hts _ pq222) rfl dX4_readMask_31 ?_
    refine lv_topi (fun z31 ez31 => ?_)
    obtain rfl : z1 = z31 := ez1.trans ez31.symm
    refine lv_iconst (v := 1) hx hb dX4_readMask_34 (by decide +kernel) ?_
    refine lv_iadd hx hb dX4_readMask_35 ?_
    refine lv_topi (fun z35 ez35 => ?_)
    have bz35 := tq_add (k := z1.toInt) (q := (1)) ez35 rfl (by decide +kernel) (by omega) (by omega)
    refine p_put hx hb hts inX1 tyX1 tyX1_ok nmX1 hown hK hP hD hS hLp1 hKp1 rfl rfl 2 (by decide) (hts _ pq222) rfl (by decide +kernel) (Nat.le_of_ble_eq_true rfl) (oS_1_2 cs _ _ _ _) dX4_readMask_36 (fun H locs hP hS => ?_)
    obtain ⟨Iz36, hP, hIz36, qIz36⟩ : ∃ Iz36, va_P (dC, dI) vwCl (Wd cs L K Iz36 J Q) H ∧ Iv L K x0 m0 tx tm Iz36 ∧ Iz36 = va_up I p1 (upd (I p1) 2 z35) := ⟨_, hP, Iv_put hI hKp1 (oP_1_2 (Iv_at hI hLp1 hKp1) ⟨by omega, by omega⟩) (by decide) (by decide), rfl⟩
    have fr_Iz36 : ∀ b, ¬ (b = p0 ∨ b = p1 ∨ b = fm Q p1 ((I p1 2).toInt.toNat % 8)) → Iz36 b = I b := fun b q => (congrFun qIz36 b).trans ((va_up_ne _ _ (fun z => q (by omega))).trans (fr_I b q))
    have b2 := (oI_4_2 (Iv_at hIz36 hLp0 hKp0)).1
    have bn := (oI_4_1 (Iv_at hIz36 hLp0 hKp0)).2
    refine lv_aload_n hx hb dX4_readMask_39 rfl (lv_at hl 1 rfl) ?_
    obtain ⟨y40, hv40, hx_y40⟩ := hxx.2 (RX4, 79, "box", wBox) (by simp [lits])
    dsimp only at hv40 hx_y40
    refine va_ldcS hx hb hown hv40 dX4_readMask_40 ?_
    refine sw_ir (Z := (fun u => (fun I1 J1 => Iv L K x0 m0 tx tm I1 ∧ (∀ b, ¬ (b = p0) → I1 b = Iz36 b) ∧ rdW tx.2.2 Iz36 I1 p0 u wBox ∧ J1 = J))) (va_runV (As := [.ref y40]) (rest := []) ⟨hx, hb, hml, hown, hts⟩ (s_X4_takeWord l dC dI cs L K G Q hQ x0 m0 tx tm H.size Iz36 J hIz36 p0 hLp0 hKp0 y40 wBox) (cwV 1 hts (gV pq422 pq423 pq424 pq78 pq425) rfl rfl rfl (by decide +kernel) ⟨(by rw [hR]; exact (Nat.le_of_ble_eq_true rfl)), (by rw [hR]; exact (Nat.le_of_ble_eq_true rfl))⟩) (sPX_V hP hD hK hN hLp0 hKp0 rfl rfl (gX_and (gX_s _ _) gX_t) hS ⟨hx_y40, hxt⟩ (fun q h => h.elim (hAL q) (fun h => hA q (Nat.le_trans hS.1 h)))) rfl rfl hl.1 rfl (lv_room (Nat.le_of_ble_eq_true rfl)) dX4_readMask_42 ⟨(by rw [hR]; exact (Nat.le_of_ble_eq_true rfl)), (by rw [hR]; exact (Nat.le_of_ble_eq_true rfl))⟩) hS hAL hA (fun z42 Iz42 Jz42 H locs hz42 hIz42 hP hS => ?_)
    obtain ⟨hIz42, frc42, fz42, djc42⟩ := hIz42
    obtain rfl : J = Jz42 := djc42.symm
    have fr_Iz42 : ∀ b, ¬ (b = p0 ∨ b = p1 ∨ b = fm Q p1 ((I p1 2).toInt.toNat % 8)) → Iz42 b = I b := fun b q => (frc42 b (fun z => q (by omega))).trans (fr_Iz36 b q)
    have bz42 := hz42
    have j150 : ∀ (v150_3 : Int32) (I150 : Nat → Nat → Int32) (J150 : Nat → Nat → Int64) (H : Heap) (lo : List Loc) (ls : Array Slot), ((0) ≤ v150_3.toInt ∧ v150_3.toInt ≤ 1) → Iv L K x0 m0 tx tm I150 → (∀ b, ¬ (b = p0 ∨ b = p1 ∨ b = fm Q p1 ((I p1 2).toInt.toNat % 8)) → I150 b = I b) → (∀ b, ¬ (K b = 12 ∧ (G b = G (fm Q p1 ((I p1 2).toInt.toNat % 8)))) → J150 b = J b) → (¬ v150_3.toInt = 0 → fmH Q I150 J150 y27 (fmT (tb tx.2.2 (Iz36 p0 1).toInt) (Iz36 p0 2).toInt)) → (rdP Iz36 I150 p0 v150_3 (pfm (tb tx.2.2 (Iz36 p0 1).toInt) (Iz36 p0 2).toInt) ∧ I150 p1 = Iz36 p1) → va_P (dC, dI) vwCl (Wd cs L K I150 J150 Q) H → va_S A s.heap H lo → lv_has ls 4 [(0, .ref p0), (1, .ref p1), (2, .ref y27), (3, .int v150_3)] → W p l e R s m (([.ref p0, .ref p1] : List Value).toArray) below meth c H lo 0 0 Qz (F0 m 150 ls []) := by
      intro v150_3 I150 J150 H lo ls bv150_3 hI150 fr_I150 dj_J150 g150 h150 hP hS hl
      refine lv_aload_n hx hb dX4_readMask_150 rfl (lv_at hl 2 rfl) ?_
      refine sw_v (Z := (fun I1 J1 => Iv L K x0 m0 tx tm I1 ∧ (∀ b, ¬ (b = y27) → I1 b = I150 b) ∧ I1 y27 0 = I150 y27 0 ∧ I1 y27 1 = I150 y27 1 ∧ (mcl (I150 y27 0).toInt (I150 y27 1).toInt (J150 (wo Q y27)) → msr (J150 (wo Q y27)) (I1 y27 3).toInt (I1 y27 4).toInt (I1 y27 5).toInt (I1 y27 6).toInt (I1 y27 7).toInt) ∧ J1 = J150)) (va_runV (As := []) (rest := []) ⟨hx, hb, hml, hown, hts⟩ (s_X3_measure l dC dI cs L K G Q hQ x0 m0 tx tm H.size I150 J150 hI150 y27 hLy27 hKy27) (cwV 0 hts (gV pq541 pq542 pq543 pq76 pq544) rfl rfl rfl (by decide +kernel) ⟨(by rw [hR]; exact (Nat.le_of_ble_eq_true rfl)), (by rw [hR]; exact (Nat.le_of_ble_eq_true rfl))⟩) (sP_V hP hD hK hN hLy27 hKy27 rfl rfl) rfl rfl hl.1 rfl (lv_room (Nat.le_of_ble_eq_true rfl)) dX4_readMask_151 ⟨(by rw [hR]; exact (Nat.le_of_ble_eq_true rfl)), (by rw [hR]; exact (Nat.le_of_ble_eq_true rfl))⟩) hS hAL hA (fun Iz151 Jz151 H locs hz151 hIz151 hP hS => ?_)
      obtain ⟨hIz151, frc151, kc151_0_0, kc151_0_1, fz151, djc151⟩ := hIz151
      obtain rfl : J150 = Jz151 := djc151.symm
      have fr_Iz151 : ∀ b, ¬ (b = p0 ∨ b = p1 ∨ b = fm Q p1 ((I p1 2).toInt.toNat % 8)) → Iz151 b = I b := fun b q => (frc151 b (fun z => q (by omega))).trans (fr_I150 b q)
      refine lv_iload_n hx hb dX4_readMask_154 rfl (lv_at hl 3 rfl) ?_
      subst hR; subst hQz
      exact W.zret (v := v150_3) hx hb hr (nar01 (by omega) (by omega)) (fun t ht hW => ⟨⟨v150_3, v150_3, rfl, ⟨rfl, ⟨by omega, by omega⟩⟩, ⟨Iz151, J150, ⟨hIz151, fr_Iz151, ⟨fun h => absurd h (by rw [← ez1]; omega), fun _ => ⟨by have q := rdP_S h150.1 (rd_fr (frc151 p0 (ne_k hKp0 hKy27 (by decide)))); have e := (show Iz36 p0 = I p0 by rw [qIz36, va_up_ne _ _ (ne_k hKp0 hKp1 (by decide))]); rw [e] at q; exact rdP_A (s := (I p0 2).toInt) ⟨by rw [e], by rw [e], by rw [e]⟩ q, by rw [frc151 p1 (ne_k hKp1 hKy27 (by decide)), h150.2, qIz36, rz_at, bz35]; have := congrArg Int32.toInt ez1; omega, by rw [frc151 p1 (ne_k hKp1 hKy27 (by decide)), h150.2, qIz36, rz_fr _ _ _ _ (by decide)]⟩⟩, ⟨fun h => by have e := (show Iz36 p0 = I p0 by rw [qIz36, va_up_ne _ _ (ne_k hKp0 hKp1 (by decide))]); have q := fmH_mk (g150 h) kc151_0_0 kc151_0_1 fz151; rw [e] at q; rw [fmE]; exact q, fun k hk => by rw [frc151 p1 n27, h150.2, qIz36, rz_fr _ _ _ _ hk]⟩, dj_J150⟩, by rw [ht]; exact hP⟩⟩, hS.F ht⟩) hS.2.2 dX4_readMask_155
    refine lv_if_eq (tgt := 72) hx hb dX4_readMask_45 (by decide) (fun c45 => ?_) (fun c45 => ?_)
    · have t45 := tq_eq (k := z42.toInt) (q := (0)) c45 rfl (by decide +kernel)
      refine lv_aload_n hx hb dX4_readMask_72 rfl (lv_at hl 1 rfl) ?_
      obtain ⟨y73, hv73, hx_y73⟩ := hxx.2 (RX4, 88, "frame", wFrame) (by simp [lits])
      dsimp only at hv73 hx_y73
      refine va_ldcS hx hb hown hv73 dX4_readMask_73 ?_
      refine sw_ir (Z := (fun u => (fun I1 J1 => Iv L K x0 m0 tx tm I1 ∧ (∀ b, ¬ (b = p0) → I1 b = Iz42 b) ∧ rdW tx.2.2 Iz42 I1 p0 u wFrame ∧ J1 = J))) (va_runV (As := [.ref y73]) (rest := []) ⟨hx, hb, hml, hown, hts⟩ (s_X4_takeWord l dC dI cs L K G Q hQ x0 m0 tx tm H.size Iz42 J hIz42 p0 hLp0 hKp0 y73 wFrame) (cwV 1 hts (gV pq422 pq423 pq424 pq78 pq425) rfl rfl rfl (by decide +kernel) ⟨(by rw [hR]; exact (Nat.le_of_ble_eq_true rfl)), (by rw [hR]; exact (Nat.le_of_ble_eq_true rfl))⟩) (sPX_V hP hD hK hN hLp0 hKp0 rfl rfl (gX_and (gX_s _ _) gX_t) hS ⟨hx_y73, hxt⟩ (fun q h => h.elim (hAL q) (fun h => hA q (Nat.le_trans hS.1 h)))) rfl rfl hl.1 rfl (lv_room (Nat.le_of_ble_eq_true rfl)) dX4_readMask_75 ⟨(by rw [hR]; exact (Nat.le_of_ble_eq_true rfl)), (by rw [hR]; exact (Nat.le_of_ble_eq_true rfl))⟩) hS hAL hA (fun z75 Iz75 Jz75 H locs hz75 hIz75 hP hS => ?_)
      obtain ⟨hIz75, frc75, fz75, djc75⟩ := hIz75
      obtain rfl : J = Jz75 := djc75.symm
      have fr_Iz75 : ∀ b, ¬ (b = p0 ∨ b = p1 ∨ b = fm Q p1 ((I p1 2).toInt.toNat % 8)) → Iz75 b = I b := fun b q => (frc75 b (fun z => q (by omega))).trans (fr_Iz42 b q)
      have bz75 := hz75
      refine lv_if_eq (tgt := 105) hx hb dX4_readMask_78 (by decide) (fun c78 => ?_) (fun c78 => ?_)
      · have t78 := tq_eq (k := z75.toInt) (q := (0)) c78 rfl (by decide +kernel)
        refine lv_aload_n hx hb dX4_readMask_105 rfl (lv_at hl 1 rfl) ?_
        obtain ⟨y106, hv106, hx_y106⟩ := hxx.2 (RX4, 93, "disk", wDisk) (by simp [lits])
        dsimp only at hv106 hx_y106
        refine va_ldcS hx hb hown hv106 dX4_readMask_106 ?_
        refine sw_ir (Z := (fun u => (fun I1 J1 => Iv L K x0 m0 tx tm I1 ∧ (∀ b, ¬ (b = p0) → I1 b = Iz75 b) ∧ rdW tx.2.2 Iz75 I1 p0 u wDisk ∧ J1 = J))) (va_runV (As := [.ref y106]) (rest := []) ⟨hx, hb, hml, hown, hts⟩ (s_X4_takeWord l dC dI cs L K G Q hQ x0 m0 tx tm H.size Iz75 J hIz75 p0 hLp0 hKp0 y106 wDisk) (cwV 1 hts (gV pq422 pq423 pq424 pq78 pq425) rfl rfl rfl (by decide +kernel) ⟨(by rw [hR]; exact (Nat.le_of_ble_eq_true rfl)), (by rw [hR]; exact (Nat.le_of_ble_eq_true rfl))⟩) (sPX_V hP hD hK hN hLp0 hKp0 rfl rfl (gX_and (gX_s _ _) gX_t) hS ⟨hx_y106, hxt⟩ (fun q h => h.elim (hAL q) (fun h => hA q (Nat.le_trans hS.1 h)))) rfl rfl hl.1 rfl (lv_room (Nat.le_of_ble_eq_true rfl)) dX4_readMask_108 ⟨(by rw [hR]; exact (Nat.le_of_ble_eq_true rfl)), (by rw [hR]; exact (Nat.le_of_ble_eq_true rfl))⟩) hS hAL hA (fun z108 Iz108 Jz108 H locs hz108 hIz108 hP hS => ?_)
        obtain ⟨hIz108, frc108, fz108, djc108⟩ := hIz108
        obtain rfl : J = Jz108 := djc108.symm
        have fr_Iz108 : ∀ b, ¬ (b = p0 ∨ b = p1 ∨ b = fm Q p1 ((I p1 2).toInt.toNat % 8)) → Iz108 b = I b := fun b q => (frc108 b (fun z => q (by omega))).trans (fr_Iz75 b q)
        have bz108 := hz108
        refine lv_if_eq (tgt := 144) hx hb dX4_readMask_111 (by decide) (fun c111 => ?_) (fun c111 => ?_)
        · have t111 := tq_eq (k := z108.toInt) (q := (0)) c111 rfl (by decide +kernel)
          refine lv_aload_n hx hb dX4_readMask_144 rfl (lv_at hl 1 rfl) ?_
          refine lv_aload_n hx hb dX4_readMask_145 rfl (lv_at hl 0 rfl) ?_
          refine sw_ir (Z := (fun u => (fun I1 J1 => Iv L K x0 m0 tx tm I1 ∧ (∀ b, ¬ (b = p0 ∨ b = y27) → I1 b = Iz108 b) ∧ rdP Iz108 I1 p0 u (prw (tb tx.2.2 (Iz108 p0 1).toInt) 41 0 0 (Iz108 p0 2).toInt) ∧ (¬ u.toInt = 0 → ((I1 y27 0).toInt = nwd (tb tx.2.2 (Iz108 p0 1).toInt) (Iz108 p0 2).toInt ∧ (I1 y27 1).toInt = nrw (tb tx.2.2 (Iz108 p0 1).toInt) 41 (Iz108 p0 2).toInt) ∧ ∀ x y : Int, md (J1 (wo Q y27)) x y = rwD (tb tx.2.2 (Iz108 p0 1).toInt) (nwd (tb tx.2.2 (Iz108 p0 1).toInt) (Iz108 p0 2).toInt) (nrw (tb tx.2.2 (Iz108 p0 1).toInt) 41 (Iz108 p0 2).toInt) (Iz108 p0 2).toInt x y) ∧ (∀ b, ¬ (K b = 12 ∧ (G b = G y27)) → J1 b = J b)))) (va_runV (As := [.ref y27]) (rest := []) ⟨hx, hb, hml, hown, hts⟩ (s_X4_readRows l dC dI cs L K G Q hQ x0 m0 tx tm H.size Iz108 J hIz108 p0 hLp0 hKp0 y27 hLy27 hKy27) (cwV 1 hts (gV pq525 pq526 pq527 pq78 pq528) rfl rfl rfl (by decide +kernel) ⟨(by rw [hR]; exact (Nat.le_of_ble_eq_true rfl)), (by rw [hR]; exact (Nat.le_of_ble_eq_true rfl))⟩) (sP_V hP hD hK hN hLp0 hKp0 rfl rfl) rfl rfl hl.1 rfl (lv_room (Nat.le_of_ble_eq_true rfl)) dX4_readMask_146 ⟨(by rw [hR]; exact (Nat.le_of_ble_eq_true rfl)), (by rw [hR]; exact (Nat.le_of_ble_eq_true rfl))⟩) hS hAL hA (fun z146 Iz146 Jz146 H locs hz146 hIz146 hP hS => ?_)
          obtain ⟨hIz146, frc146, fz146, jz146, djc146⟩ := hIz146
          have dj_Jz146 : (∀ b, ¬ (K b = 12 ∧ (G b = G (fm Q p1 ((I p1 2).toInt.toNat % 8)))) → Jz146 b = J b) := fun b hc => (djc146 b (fun z => hc (by exact ⟨z.1, by have z2 := z.2; omega⟩))).trans (dj_J b hc)
          have fr_Iz146 : ∀ b, ¬ (b = p0 ∨ b = p1 ∨ b = fm Q p1 ((I p1 2).toInt.toNat % 8)) → Iz146 b = I b := fun b q => (frc146 b (fun z => q (by omega))).trans (fr_Iz108 b q)
          have bz146 := hz146
          refine lv_istore_n (lv' := [(3, .int z146), (2, .ref y27), (0, .ref p0), (1, .ref p1)]) hx hb dX4_readMask_149 rfl hl (by decide) rfl (fun ls hl => ?_)
          exact j150 z146 Iz146 Jz146 _ _ _ ⟨by omega, by omega⟩ hIz146 fr_Iz146 dj_Jz146 (fun h => by rw [fmT_d fz42 t45 b2 bn fz75 t78 fz108 t111]; have q := jz146 h; exact ⟨q.1.1, q.1.2, q.2⟩) ⟨pfm_d fz42 t45 b2 bn fz75 t78 fz108 t111 fz146, by rw [frc146 p1 (by omega), frc108 p1 (ne_k hKp1 hKp0 (by decide)), frc75 p1 (ne_k hKp1 hKp0 (by decide)), frc42 p1 (ne_k hKp1 hKp0 (by decide))]⟩ hP hS (lv_sub hl [2, 3, 1, 0] rfl)
        · have t111 := tq_ne (k := z108.toInt) (q := (0)) c111 rfl (by decide +kernel)
          refine lv_aload_n hx hb dX4_readMask_114 rfl (lv_at hl 1 rfl) ?_
          refine lv_iconst (v := 0) hx hb dX4_readMask_115 (by decide +kernel) ?_
          refine lv_bipush (v := 19) hx hb dX4_readMask_116 (by decide +kernel) ?_
          refine sw_ir (Z := (fun u => (fun I1 J1 => Iv L K x0 m0 tx tm I1 ∧ (∀ b, ¬ (b = p0) → I1 b = Iz108 b) ∧ (¬ u.toInt = 0 → (0 : Int32).toInt ≤ (I1 p0 4).toInt ∧ (I1 p0 4).toInt ≤ (19 : Int32).toInt) ∧ rdP Iz108 I1 p0 u (pn (tb tx.2.2 (Iz108 p0 1).toInt) (0 : Int32).toInt (19 : Int32).toInt (Iz108 p0 2).toInt) ∧ (¬ u.toInt = 0 → (I1 p0 4).toInt = nv (tb tx.2.2 (Iz108 p0 1).toInt) (Iz108 p0 2).toInt) ∧ J1 = J))) (va_runV (As := [.int 0, .int 19]) (rest := []) ⟨hx, hb, hml, hown, hts⟩ (s_X4_readNumber l dC dI cs L K G Q hQ x0 m0 tx tm H.size Iz108 J hIz108 p0 hLp0 hKp0 0 ⟨by decide +kernel, by decide +kernel⟩ 19 ⟨by decide +kernel, by decide +kernel⟩) (cwV 2 hts (gV pq487 pq488 pq489 pq78 pq490) rfl rfl rfl (by decide +kernel) ⟨(by rw [hR]; exact (Nat.le_of_ble_eq_true rfl)), (by rw [hR]; exact (Nat.le_of_ble_eq_true rfl))⟩) (sP_V hP hD hK hN hLp0 hKp0 rfl rfl) rfl rfl hl.1 rfl (lv_room (Nat.le_of_ble_eq_true rfl)) dX4_readMask_118 ⟨(by rw [hR]; exact (Nat.le_of_ble_eq_true rfl)), (by rw [hR]; exact (Nat.le_of_ble_eq_true rfl))⟩) hS hAL hA (fun z118 Iz118 Jz118 H locs hz118 hIz118 hP hS => ?_)
          obtain ⟨hIz118, frc118, zr118, fz118, jz118, djc118⟩ := hIz118
          obtain rfl : J = Jz118 := djc118.symm
          have fr_Iz118 : ∀ b, ¬ (b = p0 ∨ b = p1 ∨ b = fm Q p1 ((I p1 2).toInt.toNat % 8)) → Iz118 b = I b := fun b q => (frc118 b (fun z => q (by omega))).trans (fr_Iz108 b q)
          have cst118_0 : (0 : Int32).toInt = 0 := by decide +kernel
          have cst118_19 : (19 : Int32).toInt = 19 := by decide +kernel
          have bz118 := hz118
          have j140 : ∀ (w140_0 : Int32) (I140 : Nat → Nat → Int32) (J140 : Nat → Nat → Int64) (H : Heap) (lo : List Loc) (ls : Array Slot), ((0) ≤ w140_0.toInt ∧ w140_0.toInt ≤ 1) → Iv L K x0 m0 tx tm I140 → (∀ b, ¬ (b = p0 ∨ b = p1 ∨ b = fm Q p1 ((I p1 2).toInt.toNat % 8)) → I140 b = I b) → (∀ b, ¬ (K b = 12 ∧ (G b = G (fm Q p1 ((I p1 2).toInt.toNat % 8)))) → J140 b = J b) → (¬ w140_0.toInt = 0 → fmH Q I140 J140 y27 (fmT (tb tx.2.2 (Iz36 p0 1).toInt) (Iz36 p0 2).toInt)) → (rdP Iz36 I140 p0 w140_0 (pfm (tb tx.2.2 (Iz36 p0 1).toInt) (Iz36 p0 2).toInt) ∧ I140 p1 = Iz36 p1) → va_P (dC, dI) vwCl (Wd cs L K I140 J140 Q) H → va_S A s.heap H lo → lv_has ls 4 [(0, .ref p0), (1, .ref p1), (2, .ref y27)] → W p l e R s m (([.ref p0, .ref p1] : List Value).toArray) below meth c H lo 0 0 Qz (F0 m 140 ls [.int w140_0]) := by
            intro w140_0 I140 J140 H lo ls bw140_0 hI140 fr_I140 dj_J140 g140 h140 hP hS hl
            refine lv_istore_n (lv' := [(3, .int w140_0), (0, .ref p0), (1, .ref p1), (2, .ref y27)]) hx hb dX4_readMask_140 rfl hl (by decide) rfl (fun ls hl => ?_)
            refine lv_goto (tgt := 150) hx hb dX4_readMask_141 (by decide) ?_
            exact j150 w140_0 I140 J140 _ _ _ ⟨by omega, by omega⟩ hI140 fr_I140 dj_J140 g140 h140 hP hS (lv_sub hl [1, 2, 3, 0] rfl)
          have j139 : ∀ (H : Heap) (lo : List Loc) (ls : Array Slot), z118.toInt = 0 → va_P (dC, dI) vwCl (Wd cs L K Iz118 J Q) H → va_S A s.heap H lo → lv_has ls 4 [(0, .ref p0), (1, .ref p1), (2, .ref y27)] → W p l e R s m (([.ref p0, .ref p1] : List Value).toArray) below meth c H lo 0 0 Qz (F0 m 139 ls []) := by
            intro H lo ls h139 hP hS hl
            refine lv_iconst (v := 0) hx hb dX4_readMask_139 (by decide +kernel) ?_
            exact j140 0 Iz118 J _ _ _ ⟨by decide +kernel, by decide +kernel⟩ hIz118 fr_Iz118 dj_J (fun h => absurd (by decide +kernel) h) ⟨rdP_0 (pfm_c fz42 t45 b2 bn fz75 t78 fz108 t111 fz118) h139, by rw [frc118 p1 (ne_k hKp1 hKp0 (by decide)), frc108 p1 (ne_k hKp1 hKp0 (by decide)), frc75 p1 (ne_k hKp1 hKp0 (by decide)), frc42 p1 (ne_k hKp1 hKp0 (by decide))]⟩ hP hS (lv_sub hl [0, 1, 2] rfl)
          refine lv_if_eq (tgt := 139) hx hb dX4_readMask_121 (by decide) (fun c121 => ?_) (fun c121 => ?_)
          · have t121 := tq_eq (k := z118.toInt) (q := (0)) c121 rfl (by decide +kernel)
            exact j139  _ _ _ t121 hP hS (lv_sub hl [1, 2, 0] rfl)
          · have t121 := tq_ne (k := z118.toInt) (q := (0)) c121 rfl (by decide +kernel)
            have iz121 := zr118 t121
            refine lv_aload_n hx hb dX4_readMask_124 rfl (lv_at hl 0 rfl) ?_
            refine lv_aload_n hx hb dX4_readMask_125 rfl (lv_at hl 1 rfl) ?_
            refine p_get hx hb hts inX4 hown hK hP hLp0 hKp0 rfl rfl 4 (by decide) (hts _ pq251) rfl dX4_readMask_126 ?_
            refine lv_topi (fun z126 ez126 => ?_)
            have cgz126 := congrArg Int32.toInt ez126
            have bz126 := oI_4_4 (Iv_at hIz118 hLp0 hKp0)
            rw [← ez126] at bz126
            refine sw_i (Z := (fun I1 J1 => Iv L K x0 m0 tx tm I1 ∧ (∀ b, ¬ (b = y27) → I1 b = Iz118 b) ∧ ((I1 y27 0).toInt = 2 * z126.toInt + 1 ∧ (I1 y27 1).toInt = 2 * z126.toInt + 1 ∧ ∀ x y : Int, md (J1 (wo Q y27)) x y = dskD z126.toInt x y) ∧ (∀ b, ¬ (K b = 12 ∧ (G b = G y27)) → J1 b = J b))) (va_runS (As := [.ref y27, .int z126]) (rest := []) ⟨hx, hb, hml, hown, hts⟩ (s_X4_fillDisk l dC dI cs L K G Q hQ x0 m0 tx tm H.size Iz118 J hIz118 y27 hLy27 hKy27 z126 ⟨by omega, by omega⟩) (va_cwS 2 hts (gS pq522 pq523 pq78 pq524) rfl rfl rfl (by decide +kernel) ⟨(by rw [hR]; exact (Nat.le_of_ble_eq_true rfl)), (by rw [hR]; exact (Nat.le_of_ble_eq_true rfl))⟩) (sP_S hP hD hK hN) rfl rfl hl.1 rfl (lv_room (Nat.le_of_ble_eq_true rfl)) dX4_readMask_129 ⟨(by rw [hR]; exact (Nat.le_of_ble_eq_true rfl)), (by rw [hR]; exact (Nat.le_of_ble_eq_true rfl))⟩) hS hAL hA (fun z129 Iz129 Jz129 H locs hz129 hIz129 hP hS => ?_)
            obtain ⟨hIz129, frc129, jz129, djc129⟩ := hIz129
            have dj_Jz129 : (∀ b, ¬ (K b = 12 ∧ (G b = G (fm Q p1 ((I p1 2).toInt.toNat % 8)))) → Jz129 b = J b) := fun b hc => (djc129 b (fun z => hc (by exact ⟨z.1, by have z2 := z.2; omega⟩))).trans (dj_J b hc)
            have fr_Iz129 : ∀ b, ¬ (b = p0 ∨ b = p1 ∨ b = fm Q p1 ((I p1 2).toInt.toNat % 8)) → Iz129 b = I b := fun b q => (frc129 b (fun z => q (by omega))).trans (fr_Iz118 b q)
            have bz129 := hz129
            refine lv_if_eq (tgt := 139) hx hb dX4_readMask_132 (by decide) (fun c132 => by have t132 := tq_eq (k := z129.toInt) (q := (0)) c132 rfl (by decide +kernel); omega) (fun c132 => ?_)
            have t132 := tq_ne (k := z129.toInt) (q := (0)) c132 rfl (by decide +kernel)
            refine lv_iconst (v := 1) hx hb dX4_readMask_135 (by decide +kernel) ?_
            refine lv_goto (tgt := 140) hx hb dX4_readMask_136 (by decide) ?_
            exact j140 1 Iz129 Jz129 _ _ _ ⟨by decide +kernel, by decide +kernel⟩ hIz129 fr_Iz129 dj_Jz129 (fun _ => by rw [fmT_c fz42 t45 b2 bn fz75 t78 fz108 t111]; have e := cgz126.trans (jz118 t121); exact ⟨by rw [jz129.1, e]; rfl, by rw [jz129.2.1, e]; rfl, fun x y => by rw [jz129.2.2 x y, e]; rfl⟩) ⟨rdP_S (rdP_1 (pfm_c fz42 t45 b2 bn fz75 t78 fz108 t111 fz118) t121) (rd_fr (frc129 p0 (ne_k hKp0 hKy27 (by decide)))), by rw [frc129 p1 (ne_k hKp1 hKy27 (by decide)), frc118 p1 (ne_k hKp1 hKp0 (by decide)), frc108 p1 (ne_k hKp1 hKp0 (by decide)), frc75 p1 (ne_k hKp1 hKp0 (by decide)), frc42 p1 (ne_k hKp1 hKp0 (by decide))]⟩ hP hS (lv_sub hl [1, 2, 0] rfl)
      · have t78 := tq_ne (k := z75.toInt) (q := (0)) c78 rfl (by decide +kernel)
        refine lv_aload_n hx hb dX4_readMask_81 rfl (lv_at hl 1 rfl) ?_
        refine lv_aload_n hx hb dX4_readMask_82 rfl (lv_at hl 0 rfl) ?_
        refine sw_ir (Z := (fun u => (fun I1 J1 => Iv L K x0 m0 tx tm I1 ∧ (∀ b, ¬ (b = p0 ∨ b = y27) → I1 b = Iz75 b) ∧ rdP Iz75 I1 p0 u (psz (tb tx.2.2 (Iz75 p0 1).toInt) (Iz75 p0 2).toInt) ∧ (¬ u.toInt = 0 → (((I1 y27 0).toInt = nv (tb tx.2.2 (Iz75 p0 1).toInt) (Iz75 p0 2).toInt ∧ (I1 y27 1).toInt = nv (tb tx.2.2 (Iz75 p0 1).toInt) (pn (tb tx.2.2 (Iz75 p0 1).toInt) 1 100 (Iz75 p0 2).toInt).2) ∧ ∀ k, k < 80 → J1 (wo Q y27) k = 0) ∧ (1 ≤ (I1 y27 0).toInt ∧ (I1 y27 0).toInt ≤ 100) ∧ 1 ≤ (I1 y27 1).toInt ∧ (I1 y27 1).toInt ≤ 40) ∧ (∀ b, ¬ (K b = 12 ∧ (G b = G y27)) → J1 b = J b)))) (va_runV (As := [.ref y27]) (rest := []) ⟨hx, hb, hml, hown, hts⟩ (s_X4_readSize l dC dI cs L K G Q hQ x0 m0 tx tm H.size Iz75 J hIz75 p0 hLp0 hKp0 y27 hLy27 hKy27) (cwV 1 hts (gV pq483 pq484 pq485 pq78 pq486) rfl rfl rfl (by decide +kernel) ⟨(by rw [hR]; exact (Nat.le_of_ble_eq_true rfl)), (by rw [hR]; exact (Nat.le_of_ble_eq_true rfl))⟩) (sP_V hP hD hK hN hLp0 hKp0 rfl rfl) rfl rfl hl.1 rfl (lv_room (Nat.le_of_ble_eq_true rfl)) dX4_readMask_83 ⟨(by rw [hR]; exact (Nat.le_of_ble_eq_true rfl)), (by rw [hR]; exact (Nat.le_of_ble_eq_true rfl))⟩) hS hAL hA (fun z83 Iz83 Jz83 H locs hz83 hIz83 hP hS => ?_)
        obtain ⟨hIz83, frc83, fz83, jz83, djc83⟩ := hIz83
        have dj_Jz83 : (∀ b, ¬ (K b = 12 ∧ (G b = G (fm Q p1 ((I p1 2).toInt.toNat % 8)))) → Jz83 b = J b) := fun b hc => (djc83 b (fun z => hc (by exact ⟨z.1, by have z2 := z.2; omega⟩))).trans (dj_J b hc)
        have fr_Iz83 : ∀ b, ¬ (b = p0 ∨ b = p1 ∨ b = fm Q p1 ((I p1 2).toInt.toNat % 8)) → Iz83 b = I b := fun b q => (frc83 b (fun z => q (by omega))).trans (fr_Iz75 b q)
        have bz83 := hz83
        have j101 : ∀ (w101_0 : Int32) (J101 : Nat → Nat → Int64) (H : Heap) (lo : List Loc) (ls : Array Slot), ((0) ≤ w101_0.toInt ∧ w101_0.toInt ≤ 1) → (∀ b, ¬ (K b = 12 ∧ (G b = G (fm Q p1 ((I p1 2).toInt.toNat % 8)))) → J101 b = J b) → (¬ w101_0.toInt = 0 → fmH Q Iz83 J101 y27 (fmT (tb tx.2.2 (Iz36 p0 1).toInt) (Iz36 p0 2).toInt)) → rdP Iz36 Iz83 p0 w101_0 (pfm (tb tx.2.2 (Iz36 p0 1).toInt) (Iz36 p0 2).toInt) → va_P (dC, dI) vwCl (Wd cs L K Iz83 J101 Q) H → va_S A s.heap H lo → lv_has ls 4 [(0, .ref p0), (1, .ref p1), (2, .ref y27)] → W p l e R s m (([.ref p0, .ref p1] : List Value).toArray) below meth c H lo 0 0 Qz (F0 m 101 ls [.int w101_0]) := by
          intro w101_0 J101 H lo ls bw101_0 dj_J101 g101 h101 hP hS hl
          refine lv_istore_n (lv' := [(3, .int w101_0), (0, .ref p0), (1, .ref p1), (2, .ref y27)]) hx hb dX4_readMask_101 rfl hl (by decide) rfl (fun ls hl => ?_)
          refine lv_goto (tgt := 150) hx hb dX4_readMask_102 (by decide) ?_
          exact j150 w101_0 Iz83 J101 _ _ _ ⟨by omega, by omega⟩ hIz83 fr_Iz83 dj_J101 g101 ⟨h101, by rw [frc83 p1 (by omega), frc75 p1 (ne_k hKp1 hKp0 (by decide)), frc42 p1 (ne_k hKp1 hKp0 (by decide))]⟩ hP hS (lv_sub hl [1, 2, 3, 0] rfl)
        have j100 : ∀ (H : Heap) (lo : List Loc) (ls : Array Slot), z83.toInt = 0 → va_P (dC, dI) vwCl (Wd cs L K Iz83 Jz83 Q) H → va_S A s.heap H lo → lv_has ls 4 [(0, .ref p0), (1, .ref p1), (2, .ref y27)] → W p l e R s m (([.ref p0, .ref p1] : List Value).toArray) below meth c H lo 0 0 Qz (F0 m 100 ls []) := by
          intro H lo ls h100 hP hS hl
          refine lv_iconst (v := 0) hx hb dX4_readMask_100 (by decide +kernel) ?_
          exact j101 0 Jz83 _ _ _ ⟨by decide +kernel, by decide +kernel⟩ dj_Jz83 (fun h => absurd (by decide +kernel) h) (rdP_0 (pfm_b fz42 t45 b2 bn fz75 t78 fz83) h100) hP hS (lv_sub hl [0, 1, 2] rfl)
        refine lv_if_eq (tgt := 100) hx hb dX4_readMask_86 (by decide) (fun c86 => ?_) (fun c86 => ?_)
        · have t86 := tq_eq (k := z83.toInt) (q := (0)) c86 rfl (by decide +kernel)
          exact j100  _ _ _ t86 hP hS (lv_sub hl [1, 2, 0] rfl)
        · have t86 := tq_ne (k := z83.toInt) (q := (0)) c86 rfl (by decide +kernel)
          refine lv_aload_n hx hb dX4_readMask_89 rfl (lv_at hl 0 rfl) ?_
          refine sw_i (Z := (fun I1 J1 => Iv L K x0 m0 tx tm I1 ∧ I1 = Iz83 ∧ ((∀ k, k < 80 → (Jz83 (wo Q y27)) k = 0) → ∀ x y : Int, md (J1 (wo Q y27)) x y = frmD (Iz83 y27 0).toInt (Iz83 y27 1).toInt x y) ∧ (∀ b, ¬ (K b = 12 ∧ (G b = G y27)) → J1 b = Jz83 b))) (va_runS (As := [.ref y27]) (rest := []) ⟨hx, hb, hml, hown, hts⟩ (s_X4_fillFrame l dC dI cs L K G Q hQ x0 m0 tx tm H.size Iz83 Jz83 hIz83 y27 hLy27 hKy27) (va_cwS 1 hts (gS pq510 pq511 pq78 pq512) rfl rfl rfl (by decide +kernel) ⟨(by rw [hR]; exact (Nat.le_of_ble_eq_true rfl)), (by rw [hR]; exact (Nat.le_of_ble_eq_true rfl))⟩) (sP_S hP hD hK hN) rfl rfl hl.1 rfl (lv_room (Nat.le_of_ble_eq_true rfl)) dX4_readMask_90 ⟨(by rw [hR]; exact (Nat.le_of_ble_eq_true rfl)), (by rw [hR]; exact (Nat.le_of_ble_eq_true rfl))⟩) hS hAL hA (fun z90 Iz90 Jz90 H locs hz90 hIz90 hP hS => ?_)
          obtain ⟨hIz90, sm90, jz90, djc90⟩ := hIz90
          have dj_Jz90 : (∀ b, ¬ (K b = 12 ∧ (G b = G (fm Q p1 ((I p1 2).toInt.toNat % 8)))) → Jz90 b = J b) := fun b hc => (djc90 b (fun z => hc (by exact ⟨z.1, by have z2 := z.2; omega⟩))).trans (dj_Jz83 b hc)
          obtain rfl : Iz83 = Iz90 := sm90.symm
          have bz90 := hz90
          refine lv_if_eq (tgt := 100) hx hb dX4_readMask_93 (by decide) (fun c93 => by have t93 := tq_eq (k := z90.toInt) (q := (0)) c93 rfl (by decide +kernel); omega) (fun c93 => ?_)
          have t93 := tq_ne (k := z90.toInt) (q := (0)) c93 rfl (by decide +kernel)
          refine lv_iconst (v := 1) hx hb dX4_readMask_96 (by decide +kernel) ?_
          refine lv_goto (tgt := 101) hx hb dX4_readMask_97 (by decide) ?_
          exact j101 1 Jz90 _ _ _ ⟨by decide +kernel, by decide +kernel⟩ dj_Jz90 (fun _ => by rw [fmT_b fz42 t45 b2 bn fz75 t78]; have a := jz83 t86; exact ⟨a.1.1.1, a.1.1.2, fun x y => by have q := jz90 a.1.2 x y; rw [a.1.1.1, a.1.1.2] at q; exact q⟩) (rdP_1 (pfm_b fz42 t45 b2 bn fz75 t78 fz83) t86) hP hS (lv_sub hl [1, 2, 0] rfl)
    · have t45 := tq_ne (k := z42.toInt) (q := (0)) c45 rfl (by decide +kernel)
      refine lv_aload_n hx hb dX4_readMask_48 rfl (lv_at hl 1 rfl) ?_
      refine lv_aload_n hx hb dX4_readMask_49 rfl (lv_at hl 0 rfl) ?_
      refine sw_ir (Z := (fun u => (fun I1 J1 => Iv L K x0 m0 tx tm I1 ∧ (∀ b, ¬ (b = p0 ∨ b = y27) → I1 b = Iz42 b) ∧ rdP Iz42 I1 p0 u (psz (tb tx.2.2 (Iz42 p0 1).toInt) (Iz42 p0 2).toInt) ∧ (¬ u.toInt = 0 → (((I1 y27 0).toInt = nv (tb tx.2.2 (Iz42 p0 1).toInt) (Iz42 p0 2).toInt ∧ (I1 y27 1).toInt = nv (tb tx.2.2 (Iz42 p0 1).toInt) (pn (tb tx.2.2 (Iz42 p0 1).toInt) 1 100 (Iz42 p0 2).toInt).2) ∧ ∀ k, k < 80 → J1 (wo Q y27) k = 0) ∧ (1 ≤ (I1 y27 0).toInt ∧ (I1 y27 0).toInt ≤ 100) ∧ 1 ≤ (I1 y27 1).toInt ∧ (I1 y27 1).toInt ≤ 40) ∧ (∀ b, ¬ (K b = 12 ∧ (G b = G y27)) → J1 b = J b)))) (va_runV (As := [.ref y27]) (rest := []) ⟨hx, hb, hml, hown, hts⟩ (s_X4_readSize l dC dI cs L K G Q hQ x0 m0 tx tm H.size Iz42 J hIz42 p0 hLp0 hKp0 y27 hLy27 hKy27) (cwV 1 hts (gV pq483 pq484 pq485 pq78 pq486) rfl rfl rfl (by decide +kernel) ⟨(by rw [hR]; exact (Nat.le_of_ble_eq_true rfl)), (by rw [hR]; exact (Nat.le_of_ble_eq_true rfl))⟩) (sP_V hP hD hK hN hLp0 hKp0 rfl rfl) rfl rfl hl.1 rfl (lv_room (Nat.le_of_ble_eq_true rfl)) dX4_readMask_50 ⟨(by rw [hR]; exact (Nat.le_of_ble_eq_true rfl)), (by rw [hR]; exact (Nat.le_of_ble_eq_true rfl))⟩) hS hAL hA (fun z50 Iz50 Jz50 H locs hz50 hIz50 hP hS => ?_)
      obtain ⟨hIz50, frc50, fz50, jz50, djc50⟩ := hIz50
      have dj_Jz50 : (∀ b, ¬ (K b = 12 ∧ (G b = G (fm Q p1 ((I p1 2).toInt.toNat % 8)))) → Jz50 b = J b) := fun b hc => (djc50 b (fun z => hc (by exact ⟨z.1, by have z2 := z.2; omega⟩))).trans (dj_J b hc)
      have fr_Iz50 : ∀ b, ¬ (b = p0 ∨ b = p1 ∨ b = fm Q p1 ((I p1 2).toInt.toNat % 8)) → Iz50 b = I b := fun b q => (frc50 b (fun z => q (by omega))).trans (fr_Iz42 b q)
      have bz50 := hz50
      have j68 : ∀ (w68_0 : Int32) (J68 : Nat → Nat → Int64) (H : Heap) (lo : List Loc) (ls : Array Slot), ((0) ≤ w68_0.toInt ∧ w68_0.toInt ≤ 1) → (∀ b, ¬ (K b = 12 ∧ (G b = G (fm Q p1 ((I p1 2).toInt.toNat % 8)))) → J68 b = J b) → (¬ w68_0.toInt = 0 → fmH Q Iz50 J68 y27 (fmT (tb tx.2.2 (Iz36 p0 1).toInt) (Iz36 p0 2).toInt)) → rdP Iz36 Iz50 p0 w68_0 (pfm (tb tx.2.2 (Iz36 p0 1).toInt) (Iz36 p0 2).toInt) → va_P (dC, dI) vwCl (Wd cs L K Iz50 J68 Q) H → va_S A s.heap H lo → lv_has ls 4 [(0, .ref p0), (1, .ref p1), (2, .ref y27)] → W p l e R s m (([.ref p0, .ref p1] : List Value).toArray) below meth c H lo 0 0 Qz (F0 m 68 ls [.int w68_0]) := by
        intro w68_0 J68 H lo ls bw68_0 dj_J68 g68 h68 hP hS hl
        refine lv_istore_n (lv' := [(3, .int w68_0), (0, .ref p0), (1, .ref p1), (2, .ref y27)]) hx hb dX4_readMask_68 rfl hl (by decide) rfl (fun ls hl => ?_)
        refine lv_goto (tgt := 150) hx hb dX4_readMask_69 (by decide) ?_
        exact j150 w68_0 Iz50 J68 _ _ _ ⟨by omega, by omega⟩ hIz50 fr_Iz50 dj_J68 g68 ⟨h68, by rw [frc50 p1 (by omega), frc42 p1 (ne_k hKp1 hKp0 (by decide))]⟩ hP hS (lv_sub hl [1, 2, 3, 0] rfl)
      have j67 : ∀ (H : Heap) (lo : List Loc) (ls : Array Slot), z50.toInt = 0 → va_P (dC, dI) vwCl (Wd cs L K Iz50 Jz50 Q) H → va_S A s.heap H lo → lv_has ls 4 [(0, .ref p0), (1, .ref p1), (2, .ref y27)] → W p l e R s m (([.ref p0, .ref p1] : List Value).toArray) below meth c H lo 0 0 Qz (F0 m 67 ls []) := by
        intro H lo ls h67 hP hS hl
        refine lv_iconst (v := 0) hx hb dX4_readMask_67 (by decide +kernel) ?_
        exact j68 0 Jz50 _ _ _ ⟨by decide +kernel, by decide +kernel⟩ dj_Jz50 (fun h => absurd (by decide +kernel) h) (rdP_0 (pfm_a fz42 t45 fz50) h67) hP hS (lv_sub hl [0, 1, 2] rfl)
      refine lv_if_eq (tgt := 67) hx hb dX4_readMask_53 (by decide) (fun c53 => ?_) (fun c53 => ?_)
      · have t53 := tq_eq (k := z50.toInt) (q := (0)) c53 rfl (by decide +kernel)
        exact j67  _ _ _ t53 hP hS (lv_sub hl [1, 2, 0] rfl)
      · have t53 := tq_ne (k := z50.toInt) (q := (0)) c53 rfl (by decide +kernel)
        refine lv_aload_n hx hb dX4_readMask_56 rfl (lv_at hl 0 rfl) ?_
        refine sw_i (Z := (fun I1 J1 => Iv L K x0 m0 tx tm I1 ∧ I1 = Iz50 ∧ ((∀ k, k < 80 → (Jz50 (wo Q y27)) k = 0) → 0 ≤ (Iz50 y27 0).toInt ∧ (Iz50 y27 0).toInt ≤ 100 → ∀ x y : Int, md (J1 (wo Q y27)) x y = boxD (Iz50 y27 0).toInt (Iz50 y27 1).toInt x y) ∧ (∀ b, ¬ (K b = 12 ∧ (G b = G y27)) → J1 b = Jz50 b))) (va_runS (As := [.ref y27]) (rest := []) ⟨hx, hb, hml, hown, hts⟩ (s_X4_fillBox l dC dI cs L K G Q hQ x0 m0 tx tm H.size Iz50 Jz50 hIz50 y27 hLy27 hKy27) (va_cwS 1 hts (gS pq499 pq500 pq78 pq501) rfl rfl rfl (by decide +kernel) ⟨(by rw [hR]; exact (Nat.le_of_ble_eq_true rfl)), (by rw [hR]; exact (Nat.le_of_ble_eq_true rfl))⟩) (sP_S hP hD hK hN) rfl rfl hl.1 rfl (lv_room (Nat.le_of_ble_eq_true rfl)) dX4_readMask_57 ⟨(by rw [hR]; exact (Nat.le_of_ble_eq_true rfl)), (by rw [hR]; exact (Nat.le_of_ble_eq_true rfl))⟩) hS hAL hA (fun z57 Iz57 Jz57 H locs hz57 hIz57 hP hS => ?_)
        obtain ⟨hIz57, sm57, jz57, djc57⟩ := hIz57
        have dj_Jz57 : (∀ b, ¬ (K b = 12 ∧ (G b = G (fm Q p1 ((I p1 2).toInt.toNat % 8)))) → Jz57 b = J b) := fun b hc => (djc57 b (fun z => hc (by exact ⟨z.1, by have z2 := z.2; omega⟩))).trans (dj_Jz50 b hc)
        obtain rfl : Iz50 = Iz57 := sm57.symm
        have bz57 := hz57
        refine lv_if_eq (tgt := 67) hx hb dX4_readMask_60 (by decide) (fun c60 => by have t60 := tq_eq (k := z57.toInt) (q := (0)) c60 rfl (by decide +kernel); omega) (fun c60 => ?_)
        have t60 := tq_ne (k := z57.toInt) (q := (0)) c60 rfl (by decide +kernel)
        refine lv_iconst (v := 1) hx hb dX4_readMask_63 (by decide +kernel) ?_
        refine lv_goto (tgt := 68) hx hb dX4_readMask_64 (by decide) ?_
        exact j68 1 Jz57 _ _ _ ⟨by decide +kernel, by decide +kernel⟩ dj_Jz57 (fun _ => by rw [fmT_a fz42 t45]; have a := jz50 t53; exact ⟨a.1.1.1, a.1.1.2, fun x y => by have q := jz57 a.1.2 ⟨by have := a.2; omega, a.2.1.2⟩ x y; rw [a.1.1.1, a.1.1.2] at q; exact q⟩) (rdP_1 (pfm_a fz42 t45 fz50) t53) hP hS (lv_sub hl [1, 2, 0] rfl)
  · have t6 := tq_nlt (k := z1.toInt) (q := (8)) c6 rfl (by decide +kernel)
    refine lv_aload_n hx hb dX4_readMask_9 rfl (lv_at hl 0 rfl) ?_
    refine lv_aload_n hx hb dX4_readMask_10 rfl (lv_at hl 0 rfl) ?_
    refine p_get hx hb hts inX4 hown hK hP hLp0 hKp0 rfl rfl 3 (by decide) (hts _ pq250) rfl dX4_readMask_11 ?_
    refine lv_topi (fun z11 ez11 => ?_)
    have bz11 := oI_4_3 (Iv_at hI hLp0 hKp0)
    rw [← ez11] at bz11
    refine lv_iconst (v := 3) hx hb dX4_readMask_14 (by decide +kernel) ?_
    refine sw_ir (Z := (fun u => (fun I1 J1 => Iv L K x0 m0 tx tm I1 ∧ (∀ b, ¬ (b = p0) → I1 b = I b) ∧ rdF I I1 p0 (8 * z11.toInt + (3 : Int32).toInt) ∧ J1 = J))) (va_runV (As := [.int z11, .int 3]) (rest := []) ⟨hx, hb, hml, hown, hts⟩ (s_X4_failAt l dC dI cs L K G Q hQ x0 m0 tx tm H.size I J hI p0 hLp0 hKp0 z11 ⟨by omega, by omega⟩ 3 ⟨by decide +kernel, by decide +kernel⟩) (cwV 2 hts (gV pq478 pq479 pq480 pq78 pq481) rfl rfl rfl (by decide +kernel) ⟨(by rw [hR]; exact (Nat.le_of_ble_eq_true rfl)), (by rw [hR]; exact (Nat.le_of_ble_eq_true rfl))⟩) (sP_V hP hD hK hN hLp0 hKp0 rfl rfl) rfl rfl hl.1 rfl (lv_room (Nat.le_of_ble_eq_true rfl)) dX4_readMask_15 ⟨(by rw [hR]; exact (Nat.le_of_ble_eq_true rfl)), (by rw [hR]; exact (Nat.le_of_ble_eq_true rfl))⟩) hS hAL hA (fun z15 Iz15 Jz15 H locs hz15 hIz15 hP hS => ?_)
    obtain ⟨hIz15, frc15, fz15, djc15⟩ := hIz15
    obtain rfl : J = Jz15 := djc15.symm
    have fr_Iz15 : ∀ b, ¬ (b = p0 ∨ b = p1 ∨ b = fm Q p1 ((I p1 2).toInt.toNat % 8)) → Iz15 b = I b := fun b q => (frc15 b (fun z => q (by omega))).trans (fr_I b q)
    have cst15_3 : (3 : Int32).toInt = 3 := by decide +kernel
    have bz15 := hz15
    subst hR; subst hQz
    exact W.zret (v := z15) hx hb hr (nar01 (by omega) (by omega)) (fun t ht hW => ⟨⟨z15, z15, rfl, ⟨rfl, ⟨by omega, by omega⟩⟩, ⟨Iz15, J, ⟨hIz15, fr_Iz15, ⟨fun _ => ⟨by omega, by have q := fz15; rw [cst15_3, congrArg Int32.toInt ez11] at q; exact q⟩, fun h => absurd h (by rw [← ez1]; omega)⟩, ⟨fun h => absurd (by omega) h, fun k hk => by rw [frc15 p1 (ne_k hKp1 hKp0 (by decide))]⟩, dj_J⟩, by rw [ht]; exact hP⟩⟩, hS.F ht⟩) hS.2.2 dX4_readMask_18

set_option maxHeartbeats 4000000 in
set_option maxRecDepth 100000 in
theorem s_X4_readField (l : Launch) (dC : Nat → ClassId) (dI : Nat → Nat → Nat) (cs : Nat → ClassId) (L : List Nat) (K G : Nat → Nat) (Q : Nat → Nat → Option Nat) (hQ : Sv L K G Q) (x0 m0 : Nat) (tx : GT) (tm : GT × Int) (sz : Nat) (I : Nat → Nat → Int32) (J : Nat → Nat → Int64) (hI : Iv L K x0 m0 tx tm I) (p0 : Nat) (hLp0 : p0 ∈ L) (hKp0 : K p0 = 4) (p1 : Int32) (bp1 : (0) ≤ p1.toInt ∧ p1.toInt ≤ 400) (p2 : Nat) (hLp2 : p2 ∈ L) (hKp2 : K p2 = 1) : Met l yX4_readField (.code yX4_readField cX4_readField 5 (some .int) :: pw) ({ frames := 7, cells := 0, slots := 0, locals := 153 }) (sPX (dC, dI) cs [.ref p0, .int p1, .ref p2] sz L K I J Q (fun q => q ∈ L ∨ sz ≤ q) (fun A U H => xS A U H)) (va_Qi (fun (r : Int32) (u : Int32) => u = r ∧ ((0) ≤ r.toInt ∧ r.toInt ≤ 9000)) (fun u t => sB (dC, dI) cs L K Q (fun I1 J1 => Iv L K x0 m0 tx tm I1 ∧ (∀ b, ¬ (b = p0 ∨ ((K b = 0 ∨ K b = 1 ∨ K b = 3) ∧ (G b = G p2 ∨ G b / 100 = G p2))) → I1 b = I b) ∧ ((u.toInt = 0 → tellR (tb tx.2.2 p1.toInt) = (I1 p2 3).toInt) ∧ (¬ u.toInt = 0 → tellR (tb tx.2.2 p1.toInt) = -2 - u.toInt)) ∧ (u.toInt = 0 → cxF Q I1 J1 p2 (tellF (tb tx.2.2 p1.toInt)) ∧ okF (tellF (tb tx.2.2 p1.toInt))) ∧ (∀ b, ¬ (K b = 12 ∧ (G b / 100 = G p2)) → J1 b = J b)) t) (fun q => q ∈ L ∨ sz ≤ q)) 0 0 (fun q => q ∈ L ∨ sz ≤ q) := by
  refine Met.ofW (cc := cX4_readField) (maxL := 5) (ret := (some .int)) (by decide +kernel) rfl ?_
  intro p e s m args below meth c s₁ B hml hv
  obtain ⟨rfl, ⟨hsz, hP, hK, hD0, hN⟩, hXs⟩ := hv
  have hx := B.exec
  have hb := B.bytes
  have hr := B.returns
  have hts := fun w (h : w ∈ pw) => atoms_spec (ws := Cond.code yX4_readField cX4_readField 5 (some .int) :: pw) B.pre w (List.mem_cons_of_mem _ h)
  have hown : s.vm.findClass RX4 = some m.cls := findClass_of_methodNamed B.named
  have hlocks := B.notSynchronized
  subst hsz
  have hBB : 999 ≤ tm.2 ∧ tm.2 ≤ 6000000 := hI.2.2.2.2.1
  have dj_J : (∀ b, ¬ (K b = 12 ∧ (G b / 100 = G p2)) → J b = J b) := fun _ _ => rfl
  have fr_I : ∀ b, ¬ (b = p0 ∨ ((K b = 0 ∨ K b = 1 ∨ K b = 3) ∧ (G b = G p2 ∨ G b / 100 = G p2))) → I b = I b := fun _ _ => rfl
  obtain ⟨A, hAe⟩ : ∃ A : Nat → Prop, A = (fun q => q ∈ L ∨ s.heap.size ≤ q) := ⟨_, rfl⟩
  rw [← hAe]
  have hAL : ∀ q, q ∈ L → A q := fun q h => by rw [hAe]; exact Or.inl h
  have hA : ∀ q, s.heap.size ≤ q → A q := fun q h => by rw [hAe]; exact Or.inr h
  have hD : ∀ F, va_D A (va_pl L F) := fun F => (hD0 F).weaken (fun k q hk _ => hAL _ (pl_mem hk))
  rw [← hAe] at hXs
  have hxx := hXs
  have hxt := hxx.1
  obtain ⟨H, hHe⟩ : ∃ H : Heap, H = s.heap := ⟨_, rfl⟩
  have hS : va_S A s.heap H [] := by rw [hHe]; exact va_S.rf
  rw [← hHe] at hP
  have hl := lv_entry ([.ref p0, .int p1, .ref p2]) (n := 5) (Nat.le_of_ble_eq_true rfl)
  rw [lg_entry_eq]
  generalize (lg_sl ([.ref p0, .int p1, .ref p2]) ++ List.replicate (5 - (lg_sl ([.ref p0, .int p1, .ref p2])).length) Slot.unset).toArray = ls at hl ⊢
  have hl : lv_has ls 5 [(0, .ref p0), (1, .int p1), (2, .ref p2)] := hl
  rw [← hHe]
  refine namedW (fun R Qz hR hQz => ?_)
  refine lv_aload_n hx hb dX4_readField_0 rfl (lv_at hl 0 rfl) ?_
  refine lv_iload_n hx hb dX4_readField_1 rfl (lv_at hl 1 rfl) ?_
  refine lv_aload_n hx hb dX4_readField_2 rfl (lv_at hl 0 rfl) ?_
  obtain ⟨y3, ey3, hLy3, hKy3⟩ := oQ_4_0 (Sv_at hQ hLp0 hKp0)
  refine p_get (v := .ref y3) hx hb hts inX4 hown hK hP hLp0 hKp0 rfl rfl 0 (by decide) (hts _ pq247) (congrArg (fun q => some (va_rf q)) ey3) dX4_readField_3 ?_
  refine p_alen (v := 400) hx hb hK hP 0 hLy3 hKy3 rfl rfl rfl dX4_readField_6 ?_
  refine va_mmin hx hb (hml.trans hl.1.symm) hown (hts _ pq406) (hts _ pq407) (hts _ pq82) (hts _ pq408) (by rw [hR]; exact (Nat.le_of_ble_eq_true rfl)) (by rw [hR]; exact (Nat.le_of_ble_eq_true rfl)) (by rw [hR]; exact (Nat.le_of_ble_eq_true rfl)) (by rw [hR]; exact (Nat.le_of_ble_eq_true rfl)) dX4_readField_7 ?_
  refine lv_topi (fun z7 ez7 => ?_)
  have bz7 := tq_min ez7
  have bz7y : (400 : Int32).toInt = 400 := by decide +kernel
  refine p_put hx hb hts inX4 tyX4 tyX4_ok nmX4 hown hK hP hD hS hLp0 hKp0 rfl rfl 1 (by decide) (hts _ pq248) rfl (by decide +kernel) (Nat.le_of_ble_eq_true rfl) (oS_4_1 cs _ _ _ _) dX4_readField_10 (fun H locs hP hS => ?_)
  obtain ⟨Iz10, hP, hIz10, qIz10⟩ : ∃ Iz10, va_P (dC, dI) vwCl (Wd cs L K Iz10 J Q) H ∧ Iv L K x0 m0 tx tm Iz10 ∧ Iz10 = va_up I p0 (upd (I p0) 1 z7) := ⟨_, hP, Iv_put hI hKp0 (oP_4_1 (Iv_at hI hLp0 hKp0) ⟨by omega, by omega⟩) (by decide) (by decide), rfl⟩
  have fr_Iz10 : ∀ b, ¬ (b = p0 ∨ ((K b = 0 ∨ K b = 1 ∨ K b = 3) ∧ (G b = G p2 ∨ G b / 100 = G p2))) → Iz10 b = I b := fun b q => (congrFun qIz10 b).trans ((va_up_ne _ _ (fun z => q (Or.inl z))).trans (fr_I b q))
  refine lv_aload_n hx hb dX4_readField_13 rfl (lv_at hl 0 rfl) ?_
  refine lv_iconst (v := 0) hx hb dX4_readField_14 (by decide +kernel) ?_
  refine p_put hx hb hts inX4 tyX4 tyX4_ok nmX4 hown hK hP hD hS hLp0 hKp0 rfl rfl 2 (by decide) (hts _ pq249) rfl (by decide +kernel) (Nat.le_of_ble_eq_true rfl) (oS_4_2 cs _ _ _ _) dX4_readField_15 (fun H locs hP hS => ?_)
  obtain ⟨Iz15, hP, hIz15, qIz15⟩ : ∃ Iz15, va_P (dC, dI) vwCl (Wd cs L K Iz15 J Q) H ∧ Iv L K x0 m0 tx tm Iz15 ∧ Iz15 = va_up Iz10 p0 (upd (Iz10 p0) 2 (0 : Int32)) := ⟨_, hP, Iv_put hIz10 hKp0 (oP_4_2 (Iv_at hIz10 hLp0 hKp0) ⟨by decide +kernel, by decide +kernel⟩) (by decide) (by decide), rfl⟩
  have fr_Iz15 : ∀ b, ¬ (b = p0 ∨ ((K b = 0 ∨ K b = 1 ∨ K b = 3) ∧ (G b = G p2 ∨ G b / 100 = G p2))) → Iz15 b = I b := fun b q => (congrFun qIz15 b).trans ((va_up_ne _ _ (fun z => q (Or.inl z))).trans (fr_Iz10 b q))
  refine lv_aload_n hx hb dX4_readField_18 rfl (lv_at hl 0 rfl) ?_
  refine lv_iconst (v := 0) hx hb dX4_readField_19 (by decide +kernel) ?_
  refine p_put hx hb hts inX4 tyX4 tyX4_ok nmX4 hown hK hP hD hS hLp0 hKp0 rfl rfl 5 (by decide) (hts _ pq252) rfl (by decide +kernel) (Nat.le_of_ble_eq_true rfl) (oS_4_5 cs _ _ _ _) dX4_readField_20 (fun H locs hP hS => ?_)
  obtain ⟨Iz20, hP, hIz20, qIz20⟩ : ∃ Iz20, va_P (dC, dI) vwCl (Wd cs L K Iz20 J Q) H ∧ Iv L K x0 m0 tx tm Iz20 ∧ Iz20 = va_up Iz15 p0 (upd (Iz15 p0) 5 (0 : Int32)) := ⟨_, hP, Iv_put hIz15 hKp0 (oP_4_5 (Iv_at hIz15 hLp0 hKp0) ⟨by decide +kernel, by decide +kernel⟩) (by decide) (by decide), rfl⟩
  have fr_Iz20 : ∀ b, ¬ (b = p0 ∨ ((K b = 0 ∨ K b = 1 ∨ K b = 3) ∧ (G b = G p2 ∨ G b / 100 = G p2))) → Iz20 b = I b := fun b q => (congrFun qIz20 b).trans ((va_up_ne _ _ (fun z => q (Or.inl z))).trans (fr_Iz15 b q))
  refine lv_aload_n hx hb dX4_readField_23 rfl (lv_at hl 2 rfl) ?_
  refine sw_v (Z := (fun I1 J1 => Iv L K x0 m0 tx tm I1 ∧ (∀ b, ¬ (b = p2) → I1 b = Iz20 b) ∧ ((I1 p2 2).toInt = 0 ∧ (I1 p2 3).toInt = 0) ∧ (I1 p2 2 = 0 ∧ I1 p2 3 = 0 ∧ I1 p2 4 = 0) ∧ J1 = J)) (va_runV (As := []) (rest := []) ⟨hx, hb, hml, hown, hts⟩ (s_X1_clear l dC dI cs L K G Q hQ x0 m0 tx tm H.size Iz20 J hIz20 p2 hLp2 hKp2) (cwV 0 hts (gV pq409 pq410 pq411 pq75 pq412) rfl rfl rfl (by decide +kernel) ⟨(by rw [hR]; exact (Nat.le_of_ble_eq_true rfl)), (by rw [hR]; exact (Nat.le_of_ble_eq_true rfl))⟩) (sP_V hP hD hK hN hLp2 hKp2 rfl rfl) rfl rfl hl.1 rfl (lv_room (Nat.le_of_ble_eq_true rfl)) dX4_readField_24 ⟨(by rw [hR]; exact (Nat.le_of_ble_eq_true rfl)), (by rw [hR]; exact (Nat.le_of_ble_eq_true rfl))⟩) hS hAL hA (fun Iz24 Jz24 H locs hz24 hIz24 hP hS => ?_)
  obtain ⟨hIz24, frc24, fz24, jz24, djc24⟩ := hIz24
  obtain rfl : J = Jz24 := djc24.symm
  have fr_Iz24 : ∀ b, ¬ (b = p0 ∨ ((K b = 0 ∨ K b = 1 ∨ K b = 3) ∧ (G b = G p2 ∨ G b / 100 = G p2))) → Iz24 b = I b := fun b q => (frc24 b (fun z => q (Or.inr ⟨Or.inr (Or.inl (by rw [z]; exact hKp2)), Or.inl (by rw [z])⟩))).trans (fr_Iz20 b q)
  refine lv_aload_n hx hb dX4_readField_27 rfl (lv_at hl 0 rfl) ?_
  refine sw_ir (Z := (fun u => (fun I1 J1 => Iv L K x0 m0 tx tm I1 ∧ (∀ b, ¬ (b = p0) → I1 b = Iz24 b) ∧ (rdA Iz24 I1 p0 (sk (tb tx.2.2 (Iz24 p0 1).toInt) (Iz24 p0 2).toInt) ∧ (u.toInt = 1 → (tb tx.2.2 (Iz24 p0 1).toInt) (sk (tb tx.2.2 (Iz24 p0 1).toInt) (Iz24 p0 2).toInt) = -1000) ∧ (u.toInt = 0 → (sk (tb tx.2.2 (Iz24 p0 1).toInt) (Iz24 p0 2).toInt) < (Iz24 p0 1).toInt)) ∧ J1 = J))) (va_runV (As := []) (rest := []) ⟨hx, hb, hml, hown, hts⟩ (s_X4_isAtEnd l dC dI cs L K G Q hQ x0 m0 tx tm H.size Iz24 J hIz24 p0 hLp0 hKp0) (cwV 0 hts (gV pq413 pq414 pq415 pq78 pq416) rfl rfl rfl (by decide +kernel) ⟨(by rw [hR]; exact (Nat.le_of_ble_eq_true rfl)), (by rw [hR]; exact (Nat.le_of_ble_eq_true rfl))⟩) (sP_V hP hD hK hN hLp0 hKp0 rfl rfl) rfl rfl hl.1 rfl (lv_room (Nat.le_of_ble_eq_true rfl)) dX4_readField_28 ⟨(by rw [hR]; exact (Nat.le_of_ble_eq_true rfl)), (by rw [hR]; exact (Nat.le_of_ble_eq_true rfl))⟩) hS hAL hA (fun z28 Iz28 Jz28 H locs hz28 hIz28 hP hS => ?_)
  obtain ⟨hIz28, frc28, fz28, djc28⟩ := hIz28
  obtain rfl : J = Jz28 := djc28.symm
  have fr_Iz28 : ∀ b, ¬ (b = p0 ∨ ((K b = 0 ∨ K b = 1 ∨ K b = 3) ∧ (G b = G p2 ∨ G b / 100 = G p2))) → Iz28 b = I b := fun b q => (frc28 b (fun z => q (Or.inl z))).trans (fr_Iz24 b q)
  have bz28 := hz28
  have n20 : ¬ p2 = p0 := ne_k hKp2 hKp0 (by decide)
  have l1 : (Iz24 p0 1).toInt = p1.toInt := by rw [frc24 p0 (fun z => n20 z.symm), qIz20, rz_fr _ _ _ _ (by decide), qIz15, rz_fr _ _ _ _ (by decide), qIz10, rz_at]; omega
  have l2 : (Iz24 p0 2).toInt = 0 := by rw [frc24 p0 (fun z => n20 z.symm), qIz20, rz_fr _ _ _ _ (by decide), qIz15, rz_at]; decide +kernel
  have l5 : (Iz24 p0 5).toInt = 0 := by rw [frc24 p0 (fun z => n20 z.symm), qIz20, rz_at]; decide +kernel
  have hby := tpC hQ hI hLp0 hKp0
  rw [l1, l2] at fz28
  refine lv_if_eq (tgt := 39) hx hb dX4_readField_31 (by decide) (fun c31 => ?_) (fun c31 => ?_)
  · have t31 := tq_eq (k := z28.toInt) (q := (0)) c31 rfl (by decide +kernel)
    refine lv_iconst (v := 0) hx hb dX4_readField_39 (by decide +kernel) ?_
    refine lv_istore_n (lv' := [(3, .int 0), (0, .ref p0), (1, .int p1), (2, .ref p2)]) hx hb dX4_readField_40 rfl hl (by decide) rfl (fun ls hl => ?_)
    have key41 := blocks (fun n => ∀ (v41_3 : Int32) (I41 : Nat → Nat → Int32) (J41 : Nat → Nat → Int64) (H : Heap) (lo : List Loc) (ls : Array Slot), (402 - v41_3.toInt).toNat = n → ((0) ≤ v41_3.toInt ∧ v41_3.toInt ≤ 401) → Iv L K x0 m0 tx tm I41 → (∀ b, ¬ (b = p0 ∨ ((K b = 0 ∨ K b = 1 ∨ K b = 3) ∧ (G b = G p2 ∨ G b / 100 = G p2))) → I41 b = I b) → (∀ b, ¬ (K b = 12 ∧ (G b / 100 = G p2)) → J41 b = J b) → (∃ ct : Fx, cxF Q I41 J41 p2 ct ∧ okF ct ∧ tellF (tb tx.2.2 p1.toInt) = toT (tb tx.2.2 p1.toInt) (401 - v41_3.toInt).toNat ct (I41 p0 2).toInt) → (tellR (tb tx.2.2 p1.toInt) = prs (tb tx.2.2 p1.toInt) (401 - v41_3.toInt).toNat (I41 p2 2).toInt (I41 p2 3).toInt (I41 p0 2).toInt ∧ ((I41 p0 1).toInt = p1.toInt ∧ (I41 p0 5).toInt = 0) ∧ 2 * v41_3.toInt ≤ (I41 p0 2).toInt ∧ 0 < p1.toInt ∧ (I41 p0 2).toInt ≤ p1.toInt) → va_P (dC, dI) vwCl (Wd cs L K I41 J41 Q) H → va_S A s.heap H lo → lv_has ls 5 [(0, .ref p0), (1, .int p1), (2, .ref p2), (3, .int v41_3)] → W p l e R s m (([.ref p0, .int p1, .ref p2] : List Value).toArray) below meth c H lo 0 0 Qz (F0 m 41 ls [])) (by
      intro n ih41
      intro v41_3 I41 J41 H lo ls hmu41 bv41_3 hI41 fr_I41 dj_J41 g41 h41 hP hS hl
      refine lv_iload_n hx hb dX4_readField_41 rfl (lv_at hl 3 rfl) ?_
      refine lv_aload_n hx hb dX4_readField_42 rfl (lv_at hl 0 rfl) ?_
      refine p_get hx hb hts inX4 hown hK hP hLp0 hKp0 rfl rfl 1 (by decide) (hts _ pq248) rfl dX4_readField_43 ?_
      refine lv_topi (fun z43 ez43 => ?_)
      have bz43 := oI_4_1 (Iv_at hI41 hLp0 hKp0)
      rw [← ez43] at bz43
      refine lv_icmp_ge (tgt := 145) hx hb dX4_readField_46 (by decide) (fun c46 => ?_) (fun c46 => ?_)
      · have t46 := tq_le (k := z43.toInt) (q := v41_3.toInt) c46 rfl rfl
        refine lv_aload_n hx hb dX4_readField_145 rfl (lv_at hl 0 rfl) ?_
        refine p_get hx hb hts inX4 hown hK hP hLp0 hKp0 rfl rfl 5 (by decide) (hts _ pq252) rfl dX4_readField_146 ?_
        refine lv_topi (fun z146 ez146 => ?_)
        have bz146 := oI_4_5 (Iv_at hI41 hLp0 hKp0)
        rw [← ez146] at bz146
        subst hR; subst hQz
        exact W.iret (v := z146) hx hb hr (fun t ht hW => ⟨⟨z146, z146, rfl, ⟨rfl, ⟨by omega, by omega⟩⟩, ⟨I41, J41, ⟨hI41, fr_I41, (by have q1 := h41.2.2; have q2 := h41.2.1.1; have q3 := congrArg Int32.toInt ez43; omega), (by have q1 := h41.2.2; have q2 := h41.2.1.1; have q3 := congrArg Int32.toInt ez43; omega), dj_J41⟩, by rw [ht]; exact hP⟩⟩, hS.F ht⟩) hS.2.2 dX4_readField_149
      · have t46 := tq_nle (k := z43.toInt) (q := v41_3.toInt) c46 rfl rfl
        have b41 := (oI_4_2 (Iv_at hI41 hLp0 hKp0)).1
        have n41 := (oI_4_1 (Iv_at hI41 hLp0 hKp0)).2
        obtain ⟨ct, hcF, okc, htl⟩ := g41
        have cn0 : I41 p2 2 = ct.1 0 := hcF.1
        have cn1 : I41 p2 3 = ct.1 1 := hcF.2.1
        refine lv_aload_n hx hb dX4_readField_49 rfl (lv_at hl 0 rfl) ?_
        refine sw_v (Z := (fun I1 J1 => Iv L K x0 m0 tx tm I1 ∧ (∀ b, ¬ (b = p0) → I1 b = I41 b) ∧ I1 p0 1 = I41 p0 1 ∧ I1 p0 4 = I41 p0 4 ∧ rdA I41 I1 p0 (sk (tb tx.2.2 (I41 p0 1).toInt) (I41 p0 2).toInt) ∧ J1 = J41)) (va_runV (As := []) (rest := []) ⟨hx, hb, hml, hown, hts⟩ (s_X4_skipBlanks l dC dI cs L K G Q hQ x0 m0 tx tm H.size I41 J41 hI41 p0 hLp0 hKp0) (cwV 0 hts (gV pq417 pq418 pq419 pq78 pq420) rfl rfl rfl (by decide +kernel) ⟨(by rw [hR]; exact (Nat.le_of_ble_eq_true rfl)), (by rw [hR]; exact (Nat.le_of_ble_eq_true rfl))⟩) (sP_V hP hD hK hN hLp0 hKp0 rfl rfl) rfl rfl hl.1 rfl (lv_room (Nat.le_of_ble_eq_true rfl)) dX4_readField_50 ⟨(by rw [hR]; exact (Nat.le_of_ble_eq_true rfl)), (by rw [hR]; exact (Nat.le_of_ble_eq_true rfl))⟩) hS hAL hA (fun Iz50 Jz50 H locs hz50 hIz50 hP hS => ?_)
        obtain ⟨hIz50, frc50, kc50_0_1, kc50_0_4, fz50, djc50⟩ := hIz50
        obtain rfl : J41 = Jz50 := djc50.symm
        have fr_Iz50 : ∀ b, ¬ (b = p0 ∨ ((K b = 0 ∨ K b = 1 ∨ K b = 3) ∧ (G b = G p2 ∨ G b / 100 = G p2))) → Iz50 b = I b := fun b q => (frc50 b (fun z => q (Or.inl z))).trans (fr_I41 b q)
        refine lv_aload_n hx hb dX4_readField_53 rfl (lv_at hl 0 rfl) ?_
        obtain ⟨y54, hv54, hx_y54⟩ := hxx.2 (RX4, 49, "mask", wMask) (by simp [lits])
        dsimp only at hv54 hx_y54
        refine va_ldcS hx hb hown hv54 dX4_readField_54 ?_
        refine sw_ir (Z := (fun u => (fun I1 J1 => Iv L K x0 m0 tx tm I1 ∧ (∀ b, ¬ (b = p0) → I1 b = Iz50 b) ∧ rdW tx.2.2 Iz50 I1 p0 u wMask ∧ J1 = J41))) (va_runV (As := [.ref y54]) (rest := []) ⟨hx, hb, hml, hown, hts⟩ (s_X4_takeWord l dC dI cs L K G Q hQ x0 m0 tx tm H.size Iz50 J41 hIz50 p0 hLp0 hKp0 y54 wMask) (cwV 1 hts (gV pq422 pq423 pq424 pq78 pq425) rfl rfl rfl (by decide +kernel) ⟨(by rw [hR]; exact (Nat.le_of_ble_eq_true rfl)), (by rw [hR]; exact (Nat.le_of_ble_eq_true rfl))⟩) (sPX_V hP hD hK hN hLp0 hKp0 rfl rfl (gX_and (gX_s _ _) gX_t) hS ⟨hx_y54, hxt⟩ (fun q h => h.elim (hAL q) (fun h => hA q (Nat.le_trans hS.1 h)))) rfl rfl hl.1 rfl (lv_room (Nat.le_of_ble_eq_true rfl)) dX4_readField_56 ⟨(by rw [hR]; exact (Nat.le_of_ble_eq_true rfl)), (by rw [hR]; exact (Nat.le_of_ble_eq_true rfl))⟩) hS hAL hA (fun z56 Iz56 Jz56 H locs hz56 hIz56 hP hS => ?_)
        obtain ⟨hIz56, frc56, fz56, djc56⟩ := hIz56
        obtain rfl : J41 = Jz56 := djc56.symm
        have fr_Iz56 : ∀ b, ¬ (b = p0 ∨ ((K b = 0 ∨ K b = 1 ∨ K b = 3) ∧ (G b = G p2 ∨ G b / 100 = G p2))) → Iz56 b = I b := fun b q => (frc56 b (fun z => q (Or.inl z))).trans (fr_Iz50 b q)
        have bz56 := hz56
        have j96 : ∀ (w96_0 : Int32) (I96 : Nat → Nat → Int32) (J96 : Nat → Nat → Int64) (H : Heap) (lo : List Loc) (ls : Array Slot), ((0) ≤ w96_0.toInt ∧ w96_0.toInt ≤ 1) → Iv L K x0 m0 tx tm I96 → (∀ b, ¬ (b = p0 ∨ ((K b = 0 ∨ K b = 1 ∨ K b = 3) ∧ (G b = G p2 ∨ G b / 100 = G p2))) → I96 b = I b) → (∀ b, ¬ (K b = 12 ∧ (G b / 100 = G p2)) → J96 b = J b) → (¬ w96_0.toInt = 0 → cxF Q I96 J96 p2 (pcT (tb tx.2.2 p1.toInt) ct (I41 p0 2).toInt) ∧ okF (pcT (tb tx.2.2 p1.toInt) ct (I41 p0 2).toInt)) → (rdP I41 I96 p0 w96_0 (ppt (tb tx.2.2 p1.toInt) (I41 p2 2).toInt (I41 p2 3).toInt (I41 p0 2).toInt).1 ∧ (w96_0.toInt = 1 → (I96 p2 2).toInt = (ppt (tb tx.2.2 p1.toInt) (I41 p2 2).toInt (I41 p2 3).toInt (I41 p0 2).toInt).2.1 ∧ (I96 p2 3).toInt = (ppt (tb tx.2.2 p1.toInt) (I41 p2 2).toInt (I41 p2 3).toInt (I41 p0 2).toInt).2.2)) → va_P (dC, dI) vwCl (Wd cs L K I96 J96 Q) H → va_S A s.heap H lo → lv_has ls 5 [(0, .ref p0), (1, .int p1), (2, .ref p2), (3, .int v41_3)] → W p l e R s m (([.ref p0, .int p1, .ref p2] : List Value).toArray) below meth c H lo 0 0 Qz (F0 m 96 ls [.int w96_0]) := by
          intro w96_0 I96 J96 H lo ls bw96_0 hI96 fr_I96 dj_J96 g96 h96 hP hS hl
          refine lv_istore (lv' := [(4, .int w96_0), (0, .ref p0), (1, .int p1), (2, .ref p2), (3, .int v41_3)]) hx hb dX4_readField_96 hl (by decide) rfl (fun ls hl => ?_)
          refine lv_iload hx hb dX4_readField_98 (lv_at hl 0 rfl) ?_
          refine lv_if_eq (tgt := 110) hx hb dX4_readField_100 (by decide) (fun c100 => ?_) (fun c100 => ?_)
          · have t100 := tq_eq (k := w96_0.toInt) (q := (0)) c100 rfl (by decide +kernel)
            refine lv_aload_n hx hb dX4_readField_110 rfl (lv_at hl 1 rfl) ?_
            refine p_get hx hb hts inX4 hown hK hP hLp0 hKp0 rfl rfl 5 (by decide) (hts _ pq252) rfl dX4_readField_111 ?_
            refine lv_topi (fun z111 ez111 => ?_)
            have bz111 := oI_4_5 (Iv_at hI96 hLp0 hKp0)
            rw [← ez111] at bz111
            subst hR; subst hQz
            exact W.iret (v := z111) hx hb hr (fun t ht hW => ⟨⟨z111, z111, rfl, ⟨rfl, ⟨by omega, by omega⟩⟩, ⟨I96, J96, ⟨hI96, fr_I96, (by have q := rdP_no h96.1 t100; exact ⟨fun h => absurd (by rw [← q.2.1, ← ez111]; exact h) q.1, fun _ => by rw [h41.1, show (401 - v41_3.toInt).toNat = (400 - v41_3.toInt).toNat + 1 by omega, prs_bad q.1, ez111, q.2.1]⟩), (by have q := rdP_no h96.1 t100; exact fun h => absurd (by rw [← q.2.1, ← ez111]; exact h) q.1), dj_J96⟩, by rw [ht]; exact hP⟩⟩, hS.F ht⟩) hS.2.2 dX4_readField_114
          · have t100 := tq_ne (k := w96_0.toInt) (q := (0)) c100 rfl (by decide +kernel)
            refine lv_aload_n hx hb dX4_readField_103 rfl (lv_at hl 1 rfl) ?_
            refine sw_ir (Z := (fun u => (fun I1 J1 => Iv L K x0 m0 tx tm I1 ∧ (∀ b, ¬ (b = p0) → I1 b = I96 b) ∧ (rdA I96 I1 p0 (sk (tb tx.2.2 (I96 p0 1).toInt) (I96 p0 2).toInt) ∧ (u.toInt = 1 → (tb tx.2.2 (I96 p0 1).toInt) (sk (tb tx.2.2 (I96 p0 1).toInt) (I96 p0 2).toInt) = -1000) ∧ (u.toInt = 0 → (sk (tb tx.2.2 (I96 p0 1).toInt) (I96 p0 2).toInt) < (I96 p0 1).toInt)) ∧ J1 = J96))) (va_runV (As := []) (rest := []) ⟨hx, hb, hml, hown, hts⟩ (s_X4_isAtEnd l dC dI cs L K G Q hQ x0 m0 tx tm H.size I96 J96 hI96 p0 hLp0 hKp0) (cwV 0 hts (gV pq413 pq414 pq415 pq78 pq416) rfl rfl rfl (by decide +kernel) ⟨(by rw [hR]; exact (Nat.le_of_ble_eq_true rfl)), (by rw [hR]; exact (Nat.le_of_ble_eq_true rfl))⟩) (sP_V hP hD hK hN hLp0 hKp0 rfl rfl) rfl rfl hl.1 rfl (lv_room (Nat.le_of_ble_eq_true rfl)) dX4_readField_104 ⟨(by rw [hR]; exact (Nat.le_of_ble_eq_true rfl)), (by rw [hR]; exact (Nat.le_of_ble_eq_true rfl))⟩) hS hAL hA (fun z104 Iz104 Jz104 H locs hz104 hIz104 hP hS => ?_)
            obtain ⟨hIz104, frc104, fz104, djc104⟩ := hIz104
            obtain rfl : J96 = Jz104 := djc104.symm
            have fr_Iz104 : ∀ b, ¬ (b = p0 ∨ ((K b = 0 ∨ K b = 1 ∨ K b = 3) ∧ (G b = G p2 ∨ G b / 100 = G p2))) → Iz104 b = I b := fun b q => (frc104 b (fun z => q (Or.inl z))).trans (fr_I96 b q)
            have bz104 := hz104
            refine lv_if_eq (tgt := 115) hx hb dX4_readField_107 (by decide) (fun c107 => ?_) (fun c107 => ?_)
            · have t107 := tq_eq (k := z104.toInt) (q := (0)) c107 rfl (by decide +kernel)
              have gx := g96 t100
              have ok := rdP_ok h96.1 t100
              have k1 : (Iz104 p0 1).toInt = p1.toInt := by rw [fz104.1.2.1, ok.2.2.1]; exact h41.2.1.1
              have k5 : (Iz104 p0 5).toInt = 0 := by rw [fz104.1.2.2, ok.2.2.2]; exact h41.2.1.2
              have k2 : (Iz104 p0 2).toInt = sk (tb tx.2.2 p1.toInt) (ppt (tb tx.2.2 p1.toInt) (I41 p2 2).toInt (I41 p2 3).toInt (I41 p0 2).toInt).1.2 := by have q := fz104.1.1; rw [ok.2.1, ok.2.2.1, h41.2.1.1] at q; exact q
              have hlt : sk (tb tx.2.2 p1.toInt) (ppt (tb tx.2.2 p1.toInt) (I41 p2 2).toInt (I41 p2 3).toInt (I41 p0 2).toInt).1.2 < p1.toInt := by have q := fz104.2.2 t107; rw [ok.2.1, ok.2.2.1, h41.2.1.1] at q; exact q
              have b104 := (oI_4_2 (Iv_at hIz104 hLp0 hKp0)).1
              have hne : ¬ (tb tx.2.2 p1.toInt) (sk (tb tx.2.2 p1.toInt) (ppt (tb tx.2.2 p1.toInt) (I41 p2 2).toInt (I41 p2 3).toInt (I41 p0 2).toInt).1.2) = -1000 := tb_ne hby (by rw [← k2]; exact b104) hlt
              have b96 := (oI_4_2 (Iv_at hI96 hLp0 hKp0)).1
              have ki : sk (tb tx.2.2 p1.toInt) (sk (tb tx.2.2 p1.toInt) (ppt (tb tx.2.2 p1.toInt) (I41 p2 2).toInt (I41 p2 3).toInt (I41 p0 2).toInt).1.2) = sk (tb tx.2.2 p1.toInt) (ppt (tb tx.2.2 p1.toInt) (I41 p2 2).toInt (I41 p2 3).toInt (I41 p0 2).toInt).1.2 := sk_idem (by rw [← ok.2.1]; exact b96) (by omega)
              refine lv_aload_n hx hb dX4_readField_115 rfl (lv_at hl 1 rfl) ?_
              refine lv_bipush (v := 59) hx hb dX4_readField_116 (by decide +kernel) ?_
              refine sw_ir (Z := (fun u => (fun I1 J1 => Iv L K x0 m0 tx tm I1 ∧ (∀ b, ¬ (b = p0) → I1 b = Iz104 b) ∧ (((tb tx.2.2 (Iz104 p0 1).toInt) (sk (tb tx.2.2 (Iz104 p0 1).toInt) (Iz104 p0 2).toInt) = (59 : Int32).toInt → u.toInt = 1 ∧ rdA Iz104 I1 p0 ((sk (tb tx.2.2 (Iz104 p0 1).toInt) (Iz104 p0 2).toInt) + 1)) ∧ (¬ (tb tx.2.2 (Iz104 p0 1).toInt) (sk (tb tx.2.2 (Iz104 p0 1).toInt) (Iz104 p0 2).toInt) = (59 : Int32).toInt → u.toInt = 0 ∧ rdA Iz104 I1 p0 (sk (tb tx.2.2 (Iz104 p0 1).toInt) (Iz104 p0 2).toInt))) ∧ J1 = J96))) (va_runV (As := [.int 59]) (rest := []) ⟨hx, hb, hml, hown, hts⟩ (s_X4_takeSign l dC dI cs L K G Q hQ x0 m0 tx tm H.size Iz104 J96 hIz104 p0 hLp0 hKp0 59 ⟨by decide +kernel, by decide +kernel⟩) (cwV 1 hts (gV pq537 pq538 pq539 pq78 pq540) rfl rfl rfl (by decide +kernel) ⟨(by rw [hR]; exact (Nat.le_of_ble_eq_true rfl)), (by rw [hR]; exact (Nat.le_of_ble_eq_true rfl))⟩) (sP_V hP hD hK hN hLp0 hKp0 rfl rfl) rfl rfl hl.1 rfl (lv_room (Nat.le_of_ble_eq_true rfl)) dX4_readField_118 ⟨(by rw [hR]; exact (Nat.le_of_ble_eq_true rfl)), (by rw [hR]; exact (Nat.le_of_ble_eq_true rfl))⟩) hS hAL hA (fun z118 Iz118 Jz118 H locs hz118 hIz118 hP hS => ?_)
              obtain ⟨hIz118, frc118, fz118, djc118⟩ := hIz118
              obtain rfl : J96 = Jz118 := djc118.symm
              have fr_Iz118 : ∀ b, ¬ (b = p0 ∨ ((K b = 0 ∨ K b = 1 ∨ K b = 3) ∧ (G b = G p2 ∨ G b / 100 = G p2))) → Iz118 b = I b := fun b q => (frc118 b (fun z => q (Or.inl z))).trans (fr_Iz104 b q)
              have cst118_59 : (59 : Int32).toInt = 59 := by decide +kernel
              have bz118 := hz118
              rw [k1, k2, ki, show (59 : Int32).toInt = 59 from by decide +kernel] at fz118
              refine lv_if_ne (tgt := 139) hx hb dX4_readField_121 (by decide) (fun c121 => ?_) (fun c121 => ?_)
              · have t121 := tq_ne (k := z118.toInt) (q := (0)) c121 rfl (by decide +kernel)
                have hg : (tb tx.2.2 p1.toInt) (sk (tb tx.2.2 p1.toInt) (ppt (tb tx.2.2 p1.toInt) (I41 p2 2).toInt (I41 p2 3).toInt (I41 p0 2).toInt).1.2) = 59 := Classical.byContradiction (fun q => t121 (fz118.2 q).1)
                have gA := (fz118.1 hg).2
                have g2 : (Iz118 p0 2).toInt = sk (tb tx.2.2 p1.toInt) (ppt (tb tx.2.2 p1.toInt) (I41 p2 2).toInt (I41 p2 3).toInt (I41 p0 2).toInt).1.2 + 1 := gA.1
                obtain ⟨z139, ez139⟩ : ∃ y : Int32, y = v41_3 + 1 := ⟨_, rfl⟩
                refine lv_iinc (v := z139) (lv' := [(3, .int z139), (4, .int w96_0), (0, .ref p0), (1, .int p1), (2, .ref p2)]) hx hb dX4_readField_139 hl (k := 4) rfl (by rw [ez139]; rfl) (by decide) rfl (fun ls hl => ?_)
                have bz139 := tq_add (k := v41_3.toInt) (q := 1) ez139 rfl (by decide +kernel) (by omega) (by omega)
                refine lv_goto (tgt := 41) hx hb dX4_readField_142 (by decide) ?_
                exact ih41 _ (by omega) z139 Iz118 J96 _ _ _ rfl ⟨by omega, by omega⟩ hIz118 fr_Iz118 dj_J96 ⟨(pcT (tb tx.2.2 p1.toInt) ct (I41 p0 2).toInt), rf_fr hQ hLp2 hKp2 hKp0 gx.2 (fun b hb => by rw [frc118 b hb, frc104 b hb]) gx.1, gx.2, by rw [htl, show (401 - v41_3.toInt).toNat = (401 - z139.toInt).toNat + 1 by omega, toT_go (t := (tb tx.2.2 p1.toInt)) (c := ct) (i := (I41 p0 2).toInt) (by rw [← cn0, ← cn1]; exact hg), g2, cn0, cn1]⟩ ⟨h41.1.trans (by rw [show (401 - v41_3.toInt).toNat = (401 - z139.toInt).toNat + 1 by omega, prs_go ok.1 hne hg, g2, show (Iz118 p2 2).toInt = (ppt (tb tx.2.2 p1.toInt) (I41 p2 2).toInt (I41 p2 3).toInt (I41 p0 2).toInt).2.1 by rw [frc118 p2 n20, frc104 p2 n20]; exact (h96.2 (by omega)).1, show (Iz118 p2 3).toInt = (ppt (tb tx.2.2 p1.toInt) (I41 p2 2).toInt (I41 p2 3).toInt (I41 p0 2).toInt).2.2 by rw [frc118 p2 n20, frc104 p2 n20]; exact (h96.2 (by omega)).2]), ⟨by rw [gA.2.1]; exact k1, by rw [gA.2.2]; exact k5⟩, by rw [g2]; have a1 := ppt_adv ok.1 b41; have a2 : (ppt (tb tx.2.2 p1.toInt) (I41 p2 2).toInt (I41 p2 3).toInt (I41 p0 2).toInt).1.2 ≤ sk (tb tx.2.2 p1.toInt) (ppt (tb tx.2.2 p1.toInt) (I41 p2 2).toInt (I41 p2 3).toInt (I41 p0 2).toInt).1.2 := rn_le; omega, h41.2.2.2.1, by rw [g2]; have := tb_in hne; omega⟩ hP hS (lv_sub hl [2, 3, 4, 0] rfl)
              · have t121 := tq_eq (k := z118.toInt) (q := (0)) c121 rfl (by decide +kernel)
                have hg : ¬ (tb tx.2.2 p1.toInt) (sk (tb tx.2.2 p1.toInt) (ppt (tb tx.2.2 p1.toInt) (I41 p2 2).toInt (I41 p2 3).toInt (I41 p0 2).toInt).1.2) = 59 := fun q => by have := (fz118.1 q).1; omega
                have g3 : (Iz118 p0 2).toInt = sk (tb tx.2.2 p1.toInt) (ppt (tb tx.2.2 p1.toInt) (I41 p2 2).toInt (I41 p2 3).toInt (I41 p0 2).toInt).1.2 := (fz118.2 hg).2.1
                refine lv_aload_n hx hb dX4_readField_124 rfl (lv_at hl 1 rfl) ?_
                refine lv_aload_n hx hb dX4_readField_125 rfl (lv_at hl 1 rfl) ?_
                refine p_get hx hb hts inX4 hown hK hP hLp0 hKp0 rfl rfl 2 (by decide) (hts _ pq249) rfl dX4_readField_126 ?_
                refine lv_topi (fun z126 ez126 => ?_)
                have cgz126 := congrArg Int32.toInt ez126
                have bz126 := oI_4_2 (Iv_at hIz118 hLp0 hKp0)
                rw [← ez126] at bz126
                refine lv_iconst (v := 1) hx hb dX4_readField_129 (by decide +kernel) ?_
                refine sw_ir (Z := (fun u => (fun I1 J1 => Iv L K x0 m0 tx tm I1 ∧ (∀ b, ¬ (b = p0) → I1 b = Iz118 b) ∧ rdF Iz118 I1 p0 (8 * z126.toInt + (1 : Int32).toInt) ∧ J1 = J96))) (va_runV (As := [.int z126, .int 1]) (rest := []) ⟨hx, hb, hml, hown, hts⟩ (s_X4_failAt l dC dI cs L K G Q hQ x0 m0 tx tm H.size Iz118 J96 hIz118 p0 hLp0 hKp0 z126 ⟨by omega, by omega⟩ 1 ⟨by decide +kernel, by decide +kernel⟩) (cwV 2 hts (gV pq478 pq479 pq480 pq78 pq481) rfl rfl rfl (by decide +kernel) ⟨(by rw [hR]; exact (Nat.le_of_ble_eq_true rfl)), (by rw [hR]; exact (Nat.le_of_ble_eq_true rfl))⟩) (sP_V hP hD hK hN hLp0 hKp0 rfl rfl) rfl rfl hl.1 rfl (lv_room (Nat.le_of_ble_eq_true rfl)) dX4_readField_130 ⟨(by rw [hR]; exact (Nat.le_of_ble_eq_true rfl)), (by rw [hR]; exact (Nat.le_of_ble_eq_true rfl))⟩) hS hAL hA (fun z130 Iz130 Jz130 H locs hz130 hIz130 hP hS => ?_)
                obtain ⟨hIz130, frc130, fz130, djc130⟩ := hIz130
                obtain rfl : J96 = Jz130 := djc130.symm
                have fr_Iz130 : ∀ b, ¬ (b = p0 ∨ ((K b = 0 ∨ K b = 1 ∨ K b = 3) ∧ (G b = G p2 ∨ G b / 100 = G p2))) → Iz130 b = I b := fun b q => (frc130 b (fun z => q (Or.inl z))).trans (fr_Iz118 b q)
                have cst130_1 : (1 : Int32).toInt = 1 := by decide +kernel
                have bz130 := hz130
                refine lv_pop hx hb dX4_readField_133 rfl ?_
                refine lv_aload_n hx hb dX4_readField_134 rfl (lv_at hl 1 rfl) ?_
                refine p_get hx hb hts inX4 hown hK hP hLp0 hKp0 rfl rfl 5 (by decide) (hts _ pq252) rfl dX4_readField_135 ?_
                refine lv_topi (fun z135 ez135 => ?_)
                have bz135 := oI_4_5 (Iv_at hIz130 hLp0 hKp0)
                rw [← ez135] at bz135
                subst hR; subst hQz
                exact W.iret (v := z135) hx hb hr (fun t ht hW => ⟨⟨z135, z135, rfl, ⟨rfl, ⟨by omega, by omega⟩⟩, ⟨Iz130, J96, ⟨hIz130, fr_Iz130, (by have e : (Iz130 p0 5).toInt = 8 * sk (tb tx.2.2 p1.toInt) (ppt (tb tx.2.2 p1.toInt) (I41 p2 2).toInt (I41 p2 3).toInt (I41 p0 2).toInt).1.2 + 1 := (by have q := fz130.1; rw [cst130_1, congrArg Int32.toInt ez126, g3] at q; exact q); have b0 := (oI_4_2 (Iv_at hIz118 hLp0 hKp0)).1; rw [g3] at b0; exact ⟨fun h => absurd h (by rw [ez135, e]; omega), fun _ => by rw [h41.1, show (401 - v41_3.toInt).toNat = (400 - v41_3.toInt).toNat + 1 by omega, prs_sig ok.1 hne hg, ez135, e]⟩), (by have e : (Iz130 p0 5).toInt = 8 * sk (tb tx.2.2 p1.toInt) (ppt (tb tx.2.2 p1.toInt) (I41 p2 2).toInt (I41 p2 3).toInt (I41 p0 2).toInt).1.2 + 1 := (by have q := fz130.1; rw [cst130_1, congrArg Int32.toInt ez126, g3] at q; exact q); have b0 := (oI_4_2 (Iv_at hIz118 hLp0 hKp0)).1; rw [g3] at b0; exact fun h => absurd h (by rw [ez135, e]; omega)), dj_J96⟩, by rw [ht]; exact hP⟩⟩, hS.F ht⟩) hS.2.2 dX4_readField_138
            · have t107 := tq_ne (k := z104.toInt) (q := (0)) c107 rfl (by decide +kernel)
              refine lv_aload_n hx hb dX4_readField_110 rfl (lv_at hl 1 rfl) ?_
              refine p_get hx hb hts inX4 hown hK hP hLp0 hKp0 rfl rfl 5 (by decide) (hts _ pq252) rfl dX4_readField_111 ?_
              refine lv_topi (fun z111 ez111 => ?_)
              have bz111 := oI_4_5 (Iv_at hIz104 hLp0 hKp0)
              rw [← ez111] at bz111
              subst hR; subst hQz
              exact W.iret (v := z111) hx hb hr (fun t ht hW => ⟨⟨z111, z111, rfl, ⟨rfl, ⟨by omega, by omega⟩⟩, ⟨Iz104, J96, ⟨hIz104, fr_Iz104, (by have q := rdP_ok h96.1 t100; exact ⟨fun _ => by rw [h41.1, show (401 - v41_3.toInt).toNat = (400 - v41_3.toInt).toNat + 1 by omega, prs_end q.1 (by have w := fz104.2.1 (by omega); rw [q.2.1, q.2.2.1, h41.2.1.1] at w; exact w), frc104 p2 n20]; exact (h96.2 (by omega)).2.symm, fun h => absurd (by rw [ez111, fz104.1.2.2, q.2.2.2]; exact h41.2.1.2) h⟩), (by have q := rdP_ok h96.1 t100; have gx := g96 t100; exact fun _ => by rw [htl, show (401 - v41_3.toInt).toNat = (400 - v41_3.toInt).toNat + 1 by omega, toT_end (t := (tb tx.2.2 p1.toInt)) (c := ct) (i := (I41 p0 2).toInt) (by rw [← cn0, ← cn1]; have w := fz104.2.1 (by omega); rw [q.2.1, q.2.2.1, h41.2.1.1] at w; rw [w]; decide)]; exact ⟨rf_fr hQ hLp2 hKp2 hKp0 gx.2 frc104 gx.1, gx.2⟩), dj_J96⟩, by rw [ht]; exact hP⟩⟩, hS.F ht⟩) hS.2.2 dX4_readField_114
        refine lv_if_eq (tgt := 70) hx hb dX4_readField_59 (by decide) (fun c59 => ?_) (fun c59 => ?_)
        · have t59 := tq_eq (k := z56.toInt) (q := (0)) c59 rfl (by decide +kernel)
          refine lv_aload_n hx hb dX4_readField_70 rfl (lv_at hl 0 rfl) ?_
          obtain ⟨y71, hv71, hx_y71⟩ := hxx.2 (RX4, 59, "body", wBody) (by simp [lits])
          dsimp only at hv71 hx_y71
          refine va_ldcS hx hb hown hv71 dX4_readField_71 ?_
          refine sw_ir (Z := (fun u => (fun I1 J1 => Iv L K x0 m0 tx tm I1 ∧ (∀ b, ¬ (b = p0) → I1 b = Iz56 b) ∧ rdW tx.2.2 Iz56 I1 p0 u wBody ∧ J1 = J41))) (va_runV (As := [.ref y71]) (rest := []) ⟨hx, hb, hml, hown, hts⟩ (s_X4_takeWord l dC dI cs L K G Q hQ x0 m0 tx tm H.size Iz56 J41 hIz56 p0 hLp0 hKp0 y71 wBody) (cwV 1 hts (gV pq422 pq423 pq424 pq78 pq425) rfl rfl rfl (by decide +kernel) ⟨(by rw [hR]; exact (Nat.le_of_ble_eq_true rfl)), (by rw [hR]; exact (Nat.le_of_ble_eq_true rfl))⟩) (sPX_V hP hD hK hN hLp0 hKp0 rfl rfl (gX_and (gX_s _ _) gX_t) hS ⟨hx_y71, hxt⟩ (fun q h => h.elim (hAL q) (fun h => hA q (Nat.le_trans hS.1 h)))) rfl rfl hl.1 rfl (lv_room (Nat.le_of_ble_eq_true rfl)) dX4_readField_73 ⟨(by rw [hR]; exact (Nat.le_of_ble_eq_true rfl)), (by rw [hR]; exact (Nat.le_of_ble_eq_true rfl))⟩) hS hAL hA (fun z73 Iz73 Jz73 H locs hz73 hIz73 hP hS => ?_)
          obtain ⟨hIz73, frc73, fz73, djc73⟩ := hIz73
          obtain rfl : J41 = Jz73 := djc73.symm
          have fr_Iz73 : ∀ b, ¬ (b = p0 ∨ ((K b = 0 ∨ K b = 1 ∨ K b = 3) ∧ (G b = G p2 ∨ G b / 100 = G p2))) → Iz73 b = I b := fun b q => (frc73 b (fun z => q (Or.inl z))).trans (fr_Iz56 b q)
          have bz73 := hz73
          refine lv_if_eq (tgt := 87) hx hb dX4_readField_76 (by decide) (fun c76 => ?_) (fun c76 => ?_)
          · have t76 := tq_eq (k := z73.toInt) (q := (0)) c76 rfl (by decide +kernel)
            refine lv_aload_n hx hb dX4_readField_87 rfl (lv_at hl 0 rfl) ?_
            refine lv_aload_n hx hb dX4_readField_88 rfl (lv_at hl 0 rfl) ?_
            refine p_get hx hb hts inX4 hown hK hP hLp0 hKp0 rfl rfl 2 (by decide) (hts _ pq249) rfl dX4_readField_89 ?_
            refine lv_topi (fun z89 ez89 => ?_)
            have cgz89 := congrArg Int32.toInt ez89
            have bz89 := oI_4_2 (Iv_at hIz73 hLp0 hKp0)
            rw [← ez89] at bz89
            refine lv_iconst (v := 1) hx hb dX4_readField_92 (by decide +kernel) ?_
            refine sw_ir (Z := (fun u => (fun I1 J1 => Iv L K x0 m0 tx tm I1 ∧ (∀ b, ¬ (b = p0) → I1 b = Iz73 b) ∧ rdF Iz73 I1 p0 (8 * z89.toInt + (1 : Int32).toInt) ∧ J1 = J41))) (va_runV (As := [.int z89, .int 1]) (rest := []) ⟨hx, hb, hml, hown, hts⟩ (s_X4_failAt l dC dI cs L K G Q hQ x0 m0 tx tm H.size Iz73 J41 hIz73 p0 hLp0 hKp0 z89 ⟨by omega, by omega⟩ 1 ⟨by decide +kernel, by decide +kernel⟩) (cwV 2 hts (gV pq478 pq479 pq480 pq78 pq481) rfl rfl rfl (by decide +kernel) ⟨(by rw [hR]; exact (Nat.le_of_ble_eq_true rfl)), (by rw [hR]; exact (Nat.le_of_ble_eq_true rfl))⟩) (sP_V hP hD hK hN hLp0 hKp0 rfl rfl) rfl rfl hl.1 rfl (lv_room (Nat.le_of_ble_eq_true rfl)) dX4_readField_93 ⟨(by rw [hR]; exact (Nat.le_of_ble_eq_true rfl)), (by rw [hR]; exact (Nat.le_of_ble_eq_true rfl))⟩) hS hAL hA (fun z93 Iz93 Jz93 H locs hz93 hIz93 hP hS => ?_)
            obtain ⟨hIz93, frc93, fz93, djc93⟩ := hIz93
            obtain rfl : J41 = Jz93 := djc93.symm
            have fr_Iz93 : ∀ b, ¬ (b = p0 ∨ ((K b = 0 ∨ K b = 1 ∨ K b = 3) ∧ (G b = G p2 ∨ G b / 100 = G p2))) → Iz93 b = I b := fun b q => (frc93 b (fun z => q (Or.inl z))).trans (fr_Iz73 b q)
            have cst93_1 : (1 : Int32).toInt = 1 := by decide +kernel
            have bz93 := hz93
            exact j96 z93 Iz93 J41 _ _ _ ⟨by omega, by omega⟩ hIz93 fr_Iz93 dj_J41 (fun hu => absurd (show z93.toInt = 0 by omega) hu) (by have q := ppt_none (q := p2) (rdW_next fz50 b41 n41 fz56) t59 fz73 t76 ⟨(show z93.toInt = 0 by omega), by have q := fz93; rw [cst93_1, congrArg Int32.toInt ez89] at q; exact q⟩ b41 n41; rw [h41.2.1.1] at q; exact q) hP hS (lv_sub hl [0, 1, 2, 3] rfl)
          · have t76 := tq_ne (k := z73.toInt) (q := (0)) c76 rfl (by decide +kernel)
            refine lv_aload_n hx hb dX4_readField_79 rfl (lv_at hl 0 rfl) ?_
            refine lv_aload_n hx hb dX4_readField_80 rfl (lv_at hl 2 rfl) ?_
            refine sw_ir (Z := (fun u => (fun I1 J1 => Iv L K x0 m0 tx tm I1 ∧ (∀ b, ¬ (b = p0 ∨ b = p2 ∨ b = fb Q p2 ((Iz73 p2 3).toInt.toNat % 10)) → I1 b = Iz73 b) ∧ ((10 ≤ (Iz73 p2 3).toInt → u.toInt = 0 ∧ rdF Iz73 I1 p0 (8 * (Iz73 p0 3).toInt + 3)) ∧ ((Iz73 p2 3).toInt < 10 → rdP Iz73 I1 p0 u (pbd (tb tx.2.2 (Iz73 p0 1).toInt) (Iz73 p2 2).toInt (Iz73 p0 2).toInt) ∧ (u.toInt = 1 → (I1 p2 3).toInt = (Iz73 p2 3).toInt + 1 ∧ I1 p2 2 = Iz73 p2 2))) ∧ ((¬ u.toInt = 0 → I1 (fb Q p2 ((Iz73 p2 3).toInt.toNat % 10)) = bdT (tb tx.2.2 (Iz73 p0 1).toInt) (Iz73 p2 2).toInt (Iz73 p0 2).toInt (Iz73 (fb Q p2 ((Iz73 p2 3).toInt.toNat % 10)))) ∧ ∀ k, ¬ k = 3 → I1 p2 k = Iz73 p2 k) ∧ J1 = J41))) (va_runV (As := [.ref p2]) (rest := []) ⟨hx, hb, hml, hown, hts⟩ (s_X4_readBody l dC dI cs L K G Q hQ x0 m0 tx tm H.size Iz73 J41 hIz73 p0 hLp0 hKp0 p2 hLp2 hKp2) (cwV 1 hts (gV pq558 pq559 pq560 pq78 pq561) rfl rfl rfl (by decide +kernel) ⟨(by rw [hR]; exact (Nat.le_of_ble_eq_true rfl)), (by rw [hR]; exact (Nat.le_of_ble_eq_true rfl))⟩) (sPX_V hP hD hK hN hLp0 hKp0 rfl rfl gX_x hS hxx (fun q h => h.elim (hAL q) (fun h => hA q (Nat.le_trans hS.1 h)))) rfl rfl hl.1 rfl (lv_room (Nat.le_of_ble_eq_true rfl)) dX4_readField_81 ⟨(by rw [hR]; exact (Nat.le_of_ble_eq_true rfl)), (by rw [hR]; exact (Nat.le_of_ble_eq_true rfl))⟩) hS hAL hA (fun z81 Iz81 Jz81 H locs hz81 hIz81 hP hS => ?_)
            obtain ⟨hIz81, frc81, fz81, jz81, djc81⟩ := hIz81
            obtain rfl : J41 = Jz81 := djc81.symm
            have fr_Iz81 : ∀ b, ¬ (b = p0 ∨ ((K b = 0 ∨ K b = 1 ∨ K b = 3) ∧ (G b = G p2 ∨ G b / 100 = G p2))) → Iz81 b = I b := fun b q => (frc81 b (fun z => q (z.elim (fun z => Or.inl z) (fun z => z.elim (fun z => Or.inr ⟨Or.inr (Or.inl (by rw [z]; exact hKp2)), Or.inl (by rw [z])⟩) (fun z => (by have w := fb_g (i := (Iz73 p2 3).toInt.toNat % 10) hQ hLp2 hKp2 (Nat.mod_lt _ (by decide)); have v : b = fb Q p2 ((Iz73 p2 3).toInt.toNat % 10) := z; rw [← v] at w; exact Or.inr ⟨by omega, by omega⟩)))))).trans (fr_Iz73 b q)
            have bz81 := hz81
            refine lv_goto (tgt := 96) hx hb dX4_readField_84 (by decide) ?_
            exact j96 z81 Iz81 J41 _ _ _ ⟨by omega, by omega⟩ hIz81 fr_Iz81 dj_J41 (fun hu => by have q := rf_b hQ hLp2 hKp2 hKp0 okc hcF (rdW_next fz50 b41 n41 fz56) t59 b41 n41 fz73 t76 (fun b hb => by rw [frc73 b hb, frc56 b hb, frc50 b hb]) fz81 jz81 frc81 hu; rw [h41.2.1.1] at q; exact q) (by have q := ppt_body (rdW_next fz50 b41 n41 fz56) t59 fz73 t76 (by rw [frc73 p2 n20, frc56 p2 n20, frc50 p2 n20]) fz81 b41 n41; rw [h41.2.1.1] at q; exact q) hP hS (lv_sub hl [0, 1, 2, 3] rfl)
        · have t59 := tq_ne (k := z56.toInt) (q := (0)) c59 rfl (by decide +kernel)
          refine lv_aload_n hx hb dX4_readField_62 rfl (lv_at hl 0 rfl) ?_
          refine lv_aload_n hx hb dX4_readField_63 rfl (lv_at hl 2 rfl) ?_
          have gF := (fm_g (i := (Iz56 p2 2).toInt.toNat % 8) hQ hLp2 hKp2 (Nat.mod_lt _ (by decide))).2.2
          refine sw_ir (Z := (fun u => (fun I1 J1 => Iv L K x0 m0 tx tm I1 ∧ (∀ b, ¬ (b = p0 ∨ b = p2 ∨ b = fm Q p2 ((Iz56 p2 2).toInt.toNat % 8)) → I1 b = Iz56 b) ∧ ((8 ≤ (Iz56 p2 2).toInt → u.toInt = 0 ∧ rdF Iz56 I1 p0 (8 * (Iz56 p0 3).toInt + 3)) ∧ ((Iz56 p2 2).toInt < 8 → rdP Iz56 I1 p0 u (pfm (tb tx.2.2 (Iz56 p0 1).toInt) (Iz56 p0 2).toInt) ∧ (I1 p2 2).toInt = (Iz56 p2 2).toInt + 1 ∧ I1 p2 3 = Iz56 p2 3)) ∧ ((¬ u.toInt = 0 → mkd Q I1 J1 (fm Q p2 ((Iz56 p2 2).toInt.toNat % 8)) (Int32.ofInt (fmT (tb tx.2.2 (Iz56 p0 1).toInt) (Iz56 p0 2).toInt).1) (Int32.ofInt (fmT (tb tx.2.2 (Iz56 p0 1).toInt) (Iz56 p0 2).toInt).2.1) (fmT (tb tx.2.2 (Iz56 p0 1).toInt) (Iz56 p0 2).toInt).2.2) ∧ ∀ k, ¬ k = 2 → I1 p2 k = Iz56 p2 k) ∧ (∀ b, ¬ (K b = 12 ∧ (G b = G (fm Q p2 ((Iz56 p2 2).toInt.toNat % 8)))) → J1 b = J41 b)))) (va_runV (As := [.ref p2]) (rest := []) ⟨hx, hb, hml, hown, hts⟩ (s_X4_readMask l dC dI cs L K G Q hQ x0 m0 tx tm H.size Iz56 J41 hIz56 p0 hLp0 hKp0 p2 hLp2 hKp2) (cwV 1 hts (gV pq474 pq475 pq476 pq78 pq477) rfl rfl rfl (by decide +kernel) ⟨(by rw [hR]; exact (Nat.le_of_ble_eq_true rfl)), (by rw [hR]; exact (Nat.le_of_ble_eq_true rfl))⟩) (sPX_V hP hD hK hN hLp0 hKp0 rfl rfl gX_x hS hxx (fun q h => h.elim (hAL q) (fun h => hA q (Nat.le_trans hS.1 h)))) rfl rfl hl.1 rfl (lv_room (Nat.le_of_ble_eq_true rfl)) dX4_readField_64 ⟨(by rw [hR]; exact (Nat.le_of_ble_eq_true rfl)), (by rw [hR]; exact (Nat.le_of_ble_eq_true rfl))⟩) hS hAL hA (fun z64 Iz64 Jz64 H locs hz64 hIz64 hP hS => ?_)
          obtain ⟨hIz64, frc64, fz64, jz64, djc64⟩ := hIz64
          have dj_Jz64 : (∀ b, ¬ (K b = 12 ∧ (G b / 100 = G p2)) → Jz64 b = J b) := fun b hc => (djc64 b (fun z => hc (by exact ⟨z.1, by have z2 := z.2; omega⟩))).trans (dj_J41 b hc)
          have fr_Iz64 : ∀ b, ¬ (b = p0 ∨ ((K b = 0 ∨ K b = 1 ∨ K b = 3) ∧ (G b = G p2 ∨ G b / 100 = G p2))) → Iz64 b = I b := fun b q => (frc64 b (fun z => q (z.elim (fun z => Or.inl z) (fun z => z.elim (fun z => Or.inr ⟨Or.inr (Or.inl (by rw [z]; exact hKp2)), Or.inl (by rw [z])⟩) (fun z => (by have w := fm_g (i := (Iz56 p2 2).toInt.toNat % 8) hQ hLp2 hKp2 (Nat.mod_lt _ (by decide)); have v : b = fm Q p2 ((Iz56 p2 2).toInt.toNat % 8) := z; rw [← v] at w; exact Or.inr ⟨by omega, by omega⟩)))))).trans (fr_Iz56 b q)
          have bz64 := hz64
          refine lv_goto (tgt := 96) hx hb dX4_readField_67 (by decide) ?_
          exact j96 z64 Iz64 Jz64 _ _ _ ⟨by omega, by omega⟩ hIz64 fr_Iz64 dj_Jz64 (fun hu => by have q := rf_m hQ hLp2 hKp2 hKp0 okc hcF (rdW_next fz50 b41 n41 fz56) t59 (fun b hb => by rw [frc56 b hb, frc50 b hb]) fz64 jz64 frc64 djc64 hu; rw [h41.2.1.1] at q; exact q) (by have q := ppt_mask (rdW_next fz50 b41 n41 fz56) t59 (by rw [frc56 p2 n20, frc50 p2 n20]) fz64 b41; rw [h41.2.1.1] at q; exact q) hP hS (lv_sub hl [0, 1, 2, 3] rfl))
    exact key41 _ 0 Iz28 J _ _ _ rfl ⟨by decide +kernel, by decide +kernel⟩ hIz28 fr_Iz28 dj_J ⟨fx0, rf_fr hQ hLp2 hKp2 hKp0 okF_0 frc28 (cxF_0 jz24.1 jz24.2.1 jz24.2.2), okF_0, by rw [fz28.1.1]; unfold tellF; rw [if_neg (tb_ne hby (by have := (oI_4_2 (Iv_at hIz28 hLp0 hKp0)).1; rw [fz28.1.1] at this; exact this) (fz28.2.2 t31))]; exact (toT_sk (k := 400) (sk_idem (Int.le_refl _) (by omega))).symm⟩ ⟨by rw [show (Iz28 p2 2).toInt = 0 by rw [frc28 p2 n20]; exact fz24.1, show (Iz28 p2 3).toInt = 0 by rw [frc28 p2 n20]; exact fz24.2, fz28.1.1]; unfold tellR; rw [if_neg (tb_ne hby (by have := (oI_4_2 (Iv_at hIz28 hLp0 hKp0)).1; rw [fz28.1.1] at this; exact this) (fz28.2.2 t31))]; exact (prs_sk (k := 400) (sk_idem (Int.le_refl _) (by omega))).symm, ⟨by rw [fz28.1.2.1]; exact l1, by rw [fz28.1.2.2]; exact l5⟩, by have := (oI_4_2 (Iv_at hIz28 hLp0 hKp0)).1; rw [show (0 : Int32).toInt = 0 from by decide +kernel]; omega, by have h1 := fz28.2.2 t31; have h2 := (oI_4_2 (Iv_at hIz28 hLp0 hKp0)).1; rw [fz28.1.1] at h2; omega, by rw [fz28.1.1]; have := fz28.2.2 t31; omega⟩ hP hS (lv_sub hl [1, 2, 3, 0] rfl)
  · have t31 := tq_ne (k := z28.toInt) (q := (0)) c31 rfl (by decide +kernel)
    refine lv_aload_n hx hb dX4_readField_34 rfl (lv_at hl 0 rfl) ?_
    refine p_get hx hb hts inX4 hown hK hP hLp0 hKp0 rfl rfl 5 (by decide) (hts _ pq252) rfl dX4_readField_35 ?_
    refine lv_topi (fun z35 ez35 => ?_)
    have bz35 := oI_4_5 (Iv_at hIz28 hLp0 hKp0)
    rw [← ez35] at bz35
    subst hR; subst hQz
    exact W.iret (v := z35) hx hb hr (fun t ht hW => ⟨⟨z35, z35, rfl, ⟨rfl, ⟨by omega, by omega⟩⟩, ⟨Iz28, J, ⟨hIz28, fr_Iz28, ⟨fun _ => by unfold tellR; rw [if_pos (fz28.2.1 (by omega)), frc28 p2 n20, fz24.2], fun h => absurd (by rw [ez35, fz28.1.2.2]; exact l5) h⟩, (fun _ => by unfold tellF; rw [if_pos (fz28.2.1 (by omega))]; exact ⟨rf_fr hQ hLp2 hKp2 hKp0 okF_0 frc28 (cxF_0 jz24.1 jz24.2.1 jz24.2.2), okF_0⟩), dj_J⟩, by rw [ht]; exact hP⟩⟩, hS.F ht⟩) hS.2.2 dX4_readField_38
