def yX6_actBySketch : MethodName := ⟨RX6, "actBySketch", "(I)V"⟩
abbrev cX6_actBySketch : ByteArray := prog_1_method_18_code
abbrev cX6_grow : ByteArray := prog_1_method_11_code
abbrev cX6_join : ByteArray := prog_1_method_13_code
abbrev cX6_quarter : ByteArray := prog_1_method_17_code
abbrev cX6_thin : ByteArray := prog_1_method_12_code
def yX6_grow : MethodName := ⟨RX6, "grow", "(I)I"⟩
def yX6_join : MethodName := ⟨RX6, "join", "(IIIII)I"⟩
def yX6_quarter : MethodName := ⟨RX6, "quarter", "(I)I"⟩
def yX6_thin : MethodName := ⟨RX6, "thin", "(I)I"⟩
theorem dX6_actBySketch_0 : decode cX6_actBySketch 0 = .ok (.aload_n 0, 1) := by decide +kernel
theorem dX6_actBySketch_1 : decode cX6_actBySketch 1 = .ok (.invokevirtual 106, 3) := by decide +kernel
theorem dX6_actBySketch_4 : decode cX6_actBySketch 4 = .ok (.aload_n 0, 1) := by decide +kernel
theorem dX6_actBySketch_5 : decode cX6_actBySketch 5 = .ok (.getfield 20, 3) := by decide +kernel
theorem dX6_actBySketch_8 : decode cX6_actBySketch 8 = .ok (.getfield 133, 3) := by decide +kernel
theorem dX6_actBySketch_11 : decode cX6_actBySketch 11 = .ok (.iload_n 1, 1) := by decide +kernel
theorem dX6_actBySketch_12 : decode cX6_actBySketch 12 = .ok (.aaload, 1) := by decide +kernel
theorem dX6_actBySketch_13 : decode cX6_actBySketch 13 = .ok (.aload_n 0, 1) := by decide +kernel
theorem dX6_actBySketch_14 : decode cX6_actBySketch 14 = .ok (.getfield 48, 3) := by decide +kernel
theorem dX6_actBySketch_17 : decode cX6_actBySketch 17 = .ok (.invokevirtual 186, 3) := by decide +kernel
theorem dX6_actBySketch_20 : decode cX6_actBySketch 20 = .ok (.aload_n 0, 1) := by decide +kernel
theorem dX6_actBySketch_21 : decode cX6_actBySketch 21 = .ok (.getfield 41, 3) := by decide +kernel
theorem dX6_actBySketch_24 : decode cX6_actBySketch 24 = .ok (.invokevirtual 115, 3) := by decide +kernel
theorem dX6_actBySketch_27 : decode cX6_actBySketch 27 = .ok (.return_, 1) := by decide +kernel
theorem dX6_grow_0 : decode cX6_grow 0 = .ok (.aload_n 0, 1) := by decide +kernel
theorem dX6_grow_1 : decode cX6_grow 1 = .ok (.iload_n 1, 1) := by decide +kernel
theorem dX6_grow_2 : decode cX6_grow 2 = .ok (.invokevirtual 130, 3) := by decide +kernel
theorem dX6_grow_5 : decode cX6_grow 5 = .ok (.ifCond .ne 5, 3) := by decide +kernel
theorem dX6_grow_8 : decode cX6_grow 8 = .ok (.iconst (-1), 1) := by decide +kernel
theorem dX6_grow_9 : decode cX6_grow 9 = .ok (.ireturn, 1) := by decide +kernel
theorem dX6_grow_10 : decode cX6_grow 10 = .ok (.aload_n 0, 1) := by decide +kernel
theorem dX6_grow_11 : decode cX6_grow 11 = .ok (.getfield 20, 3) := by decide +kernel
theorem dX6_grow_14 : decode cX6_grow 14 = .ok (.getfield 133, 3) := by decide +kernel
theorem dX6_grow_17 : decode cX6_grow 17 = .ok (.iload_n 1, 1) := by decide +kernel
theorem dX6_grow_18 : decode cX6_grow 18 = .ok (.aaload, 1) := by decide +kernel
theorem dX6_grow_19 : decode cX6_grow 19 = .ok (.getfield 150, 3) := by decide +kernel
theorem dX6_grow_22 : decode cX6_grow 22 = .ok (.istore_n 2, 1) := by decide +kernel
theorem dX6_grow_23 : decode cX6_grow 23 = .ok (.aload_n 0, 1) := by decide +kernel
theorem dX6_grow_24 : decode cX6_grow 24 = .ok (.getfield 48, 3) := by decide +kernel
theorem dX6_grow_27 : decode cX6_grow 27 = .ok (.aload_n 0, 1) := by decide +kernel
theorem dX6_grow_28 : decode cX6_grow 28 = .ok (.getfield 20, 3) := by decide +kernel
theorem dX6_grow_31 : decode cX6_grow 31 = .ok (.getfield 133, 3) := by decide +kernel
theorem dX6_grow_34 : decode cX6_grow 34 = .ok (.iload_n 1, 1) := by decide +kernel
theorem dX6_grow_35 : decode cX6_grow 35 = .ok (.aaload, 1) := by decide +kernel
theorem dX6_grow_36 : decode cX6_grow 36 = .ok (.invokevirtual 153, 3) := by decide +kernel
theorem dX6_grow_39 : decode cX6_grow 39 = .ok (.aload_n 0, 1) := by decide +kernel
theorem dX6_grow_40 : decode cX6_grow 40 = .ok (.getfield 48, 3) := by decide +kernel
theorem dX6_grow_43 : decode cX6_grow 43 = .ok (.getfield 150, 3) := by decide +kernel
theorem dX6_grow_46 : decode cX6_grow 46 = .ok (.iload_n 2, 1) := by decide +kernel
theorem dX6_grow_47 : decode cX6_grow 47 = .ok (.if_icmp .ne 6, 3) := by decide +kernel
theorem dX6_grow_50 : decode cX6_grow 50 = .ok (.bipush (-2), 2) := by decide +kernel
theorem dX6_grow_52 : decode cX6_grow 52 = .ok (.ireturn, 1) := by decide +kernel
theorem dX6_grow_53 : decode cX6_grow 53 = .ok (.aload_n 0, 1) := by decide +kernel
theorem dX6_grow_54 : decode cX6_grow 54 = .ok (.iload_n 1, 1) := by decide +kernel
theorem dX6_grow_55 : decode cX6_grow 55 = .ok (.invokevirtual 157, 3) := by decide +kernel
theorem dX6_grow_58 : decode cX6_grow 58 = .ok (.aload_n 0, 1) := by decide +kernel
theorem dX6_grow_59 : decode cX6_grow 59 = .ok (.getfield 48, 3) := by decide +kernel
theorem dX6_grow_62 : decode cX6_grow 62 = .ok (.getfield 150, 3) := by decide +kernel
theorem dX6_grow_65 : decode cX6_grow 65 = .ok (.iload_n 2, 1) := by decide +kernel
theorem dX6_grow_66 : decode cX6_grow 66 = .ok (.isub, 1) := by decide +kernel
theorem dX6_grow_67 : decode cX6_grow 67 = .ok (.ireturn, 1) := by decide +kernel
theorem dX6_join_0 : decode cX6_join 0 = .ok (.aload_n 0, 1) := by decide +kernel
theorem dX6_join_1 : decode cX6_join 1 = .ok (.iload_n 1, 1) := by decide +kernel
theorem dX6_join_2 : decode cX6_join 2 = .ok (.invokevirtual 130, 3) := by decide +kernel
theorem dX6_join_5 : decode cX6_join 5 = .ok (.ifCond .eq 39, 3) := by decide +kernel
theorem dX6_join_8 : decode cX6_join 8 = .ok (.aload_n 0, 1) := by decide +kernel
theorem dX6_join_9 : decode cX6_join 9 = .ok (.iload_n 2, 1) := by decide +kernel
theorem dX6_join_10 : decode cX6_join 10 = .ok (.invokevirtual 130, 3) := by decide +kernel
theorem dX6_join_13 : decode cX6_join 13 = .ok (.ifCond .eq 31, 3) := by decide +kernel
theorem dX6_join_16 : decode cX6_join 16 = .ok (.iload_n 3, 1) := by decide +kernel
theorem dX6_join_17 : decode cX6_join 17 = .ok (.bipush 99, 2) := by decide +kernel
theorem dX6_join_19 : decode cX6_join 19 = .ok (.invokestatic 90, 3) := by decide +kernel
theorem dX6_join_22 : decode cX6_join 22 = .ok (.ifCond .eq 22, 3) := by decide +kernel
theorem dX6_join_25 : decode cX6_join 25 = .ok (.iload 4, 2) := by decide +kernel
theorem dX6_join_27 : decode cX6_join 27 = .ok (.bipush 99, 2) := by decide +kernel
theorem dX6_join_29 : decode cX6_join 29 = .ok (.invokestatic 90, 3) := by decide +kernel
theorem dX6_join_32 : decode cX6_join 32 = .ok (.ifCond .eq 12, 3) := by decide +kernel
theorem dX6_join_35 : decode cX6_join 35 = .ok (.iload 5, 2) := by decide +kernel
theorem dX6_join_37 : decode cX6_join 37 = .ok (.iconst 3, 1) := by decide +kernel
theorem dX6_join_38 : decode cX6_join 38 = .ok (.invokestatic 109, 3) := by decide +kernel
theorem dX6_join_41 : decode cX6_join 41 = .ok (.ifCond .ne 5, 3) := by decide +kernel
theorem dX6_join_44 : decode cX6_join 44 = .ok (.iconst (-1), 1) := by decide +kernel
theorem dX6_join_45 : decode cX6_join 45 = .ok (.ireturn, 1) := by decide +kernel
theorem dX6_join_46 : decode cX6_join 46 = .ok (.aload_n 0, 1) := by decide +kernel
theorem dX6_join_47 : decode cX6_join 47 = .ok (.getfield 48, 3) := by decide +kernel
theorem dX6_join_50 : decode cX6_join 50 = .ok (.aload_n 0, 1) := by decide +kernel
theorem dX6_join_51 : decode cX6_join 51 = .ok (.getfield 20, 3) := by decide +kernel
theorem dX6_join_54 : decode cX6_join 54 = .ok (.getfield 133, 3) := by decide +kernel
theorem dX6_join_57 : decode cX6_join 57 = .ok (.iload_n 1, 1) := by decide +kernel
theorem dX6_join_58 : decode cX6_join 58 = .ok (.aaload, 1) := by decide +kernel
theorem dX6_join_59 : decode cX6_join 59 = .ok (.aload_n 0, 1) := by decide +kernel
theorem dX6_join_60 : decode cX6_join 60 = .ok (.getfield 20, 3) := by decide +kernel
theorem dX6_join_63 : decode cX6_join 63 = .ok (.getfield 133, 3) := by decide +kernel
theorem dX6_join_66 : decode cX6_join 66 = .ok (.iload_n 2, 1) := by decide +kernel
theorem dX6_join_67 : decode cX6_join 67 = .ok (.aaload, 1) := by decide +kernel
theorem dX6_join_68 : decode cX6_join 68 = .ok (.iload_n 3, 1) := by decide +kernel
theorem dX6_join_69 : decode cX6_join 69 = .ok (.iload 4, 2) := by decide +kernel
theorem dX6_join_71 : decode cX6_join 71 = .ok (.iload 5, 2) := by decide +kernel
theorem dX6_join_73 : decode cX6_join 73 = .ok (.invokevirtual 163, 3) := by decide +kernel
theorem dX6_join_76 : decode cX6_join 76 = .ok (.aload_n 0, 1) := by decide +kernel
theorem dX6_join_77 : decode cX6_join 77 = .ok (.iload_n 1, 1) := by decide +kernel
theorem dX6_join_78 : decode cX6_join 78 = .ok (.invokevirtual 157, 3) := by decide +kernel
theorem dX6_join_81 : decode cX6_join 81 = .ok (.aload_n 0, 1) := by decide +kernel
theorem dX6_join_82 : decode cX6_join 82 = .ok (.getfield 48, 3) := by decide +kernel
theorem dX6_join_85 : decode cX6_join 85 = .ok (.getfield 150, 3) := by decide +kernel
theorem dX6_join_88 : decode cX6_join 88 = .ok (.ireturn, 1) := by decide +kernel
theorem dX6_quarter_0 : decode cX6_quarter 0 = .ok (.aload_n 0, 1) := by decide +kernel
theorem dX6_quarter_1 : decode cX6_quarter 1 = .ok (.iload_n 1, 1) := by decide +kernel
theorem dX6_quarter_2 : decode cX6_quarter 2 = .ok (.invokevirtual 130, 3) := by decide +kernel
theorem dX6_quarter_5 : decode cX6_quarter 5 = .ok (.ifCond .ne 5, 3) := by decide +kernel
theorem dX6_quarter_8 : decode cX6_quarter 8 = .ok (.iconst (-1), 1) := by decide +kernel
theorem dX6_quarter_9 : decode cX6_quarter 9 = .ok (.ireturn, 1) := by decide +kernel
theorem dX6_quarter_10 : decode cX6_quarter 10 = .ok (.aload_n 0, 1) := by decide +kernel
theorem dX6_quarter_11 : decode cX6_quarter 11 = .ok (.getfield 20, 3) := by decide +kernel
theorem dX6_quarter_14 : decode cX6_quarter 14 = .ok (.getfield 133, 3) := by decide +kernel
theorem dX6_quarter_17 : decode cX6_quarter 17 = .ok (.iload_n 1, 1) := by decide +kernel
theorem dX6_quarter_18 : decode cX6_quarter 18 = .ok (.aaload, 1) := by decide +kernel
theorem dX6_quarter_19 : decode cX6_quarter 19 = .ok (.getfield 170, 3) := by decide +kernel
theorem dX6_quarter_22 : decode cX6_quarter 22 = .ok (.bipush 40, 2) := by decide +kernel
theorem dX6_quarter_24 : decode cX6_quarter 24 = .ok (.if_icmp .le 6, 3) := by decide +kernel
theorem dX6_quarter_27 : decode cX6_quarter 27 = .ok (.bipush (-2), 2) := by decide +kernel
theorem dX6_quarter_29 : decode cX6_quarter 29 = .ok (.ireturn, 1) := by decide +kernel
theorem dX6_quarter_30 : decode cX6_quarter 30 = .ok (.aload_n 0, 1) := by decide +kernel
theorem dX6_quarter_31 : decode cX6_quarter 31 = .ok (.getfield 48, 3) := by decide +kernel
theorem dX6_quarter_34 : decode cX6_quarter 34 = .ok (.aload_n 0, 1) := by decide +kernel
theorem dX6_quarter_35 : decode cX6_quarter 35 = .ok (.getfield 20, 3) := by decide +kernel
theorem dX6_quarter_38 : decode cX6_quarter 38 = .ok (.getfield 133, 3) := by decide +kernel
theorem dX6_quarter_41 : decode cX6_quarter 41 = .ok (.iload_n 1, 1) := by decide +kernel
theorem dX6_quarter_42 : decode cX6_quarter 42 = .ok (.aaload, 1) := by decide +kernel
theorem dX6_quarter_43 : decode cX6_quarter 43 = .ok (.invokevirtual 201, 3) := by decide +kernel
theorem dX6_quarter_46 : decode cX6_quarter 46 = .ok (.aload_n 0, 1) := by decide +kernel
theorem dX6_quarter_47 : decode cX6_quarter 47 = .ok (.iload_n 1, 1) := by decide +kernel
theorem dX6_quarter_48 : decode cX6_quarter 48 = .ok (.invokevirtual 157, 3) := by decide +kernel
theorem dX6_quarter_51 : decode cX6_quarter 51 = .ok (.aload_n 0, 1) := by decide +kernel
theorem dX6_quarter_52 : decode cX6_quarter 52 = .ok (.getfield 48, 3) := by decide +kernel
theorem dX6_quarter_55 : decode cX6_quarter 55 = .ok (.getfield 170, 3) := by decide +kernel
theorem dX6_quarter_58 : decode cX6_quarter 58 = .ok (.ireturn, 1) := by decide +kernel
theorem dX6_thin_0 : decode cX6_thin 0 = .ok (.aload_n 0, 1) := by decide +kernel
theorem dX6_thin_1 : decode cX6_thin 1 = .ok (.iload_n 1, 1) := by decide +kernel
theorem dX6_thin_2 : decode cX6_thin 2 = .ok (.invokevirtual 130, 3) := by decide +kernel
theorem dX6_thin_5 : decode cX6_thin 5 = .ok (.ifCond .ne 5, 3) := by decide +kernel
theorem dX6_thin_8 : decode cX6_thin 8 = .ok (.iconst (-1), 1) := by decide +kernel
theorem dX6_thin_9 : decode cX6_thin 9 = .ok (.ireturn, 1) := by decide +kernel
theorem dX6_thin_10 : decode cX6_thin 10 = .ok (.aload_n 0, 1) := by decide +kernel
theorem dX6_thin_11 : decode cX6_thin 11 = .ok (.getfield 20, 3) := by decide +kernel
theorem dX6_thin_14 : decode cX6_thin 14 = .ok (.getfield 133, 3) := by decide +kernel
theorem dX6_thin_17 : decode cX6_thin 17 = .ok (.iload_n 1, 1) := by decide +kernel
theorem dX6_thin_18 : decode cX6_thin 18 = .ok (.aaload, 1) := by decide +kernel
theorem dX6_thin_19 : decode cX6_thin 19 = .ok (.getfield 150, 3) := by decide +kernel
theorem dX6_thin_22 : decode cX6_thin 22 = .ok (.istore_n 2, 1) := by decide +kernel
theorem dX6_thin_23 : decode cX6_thin 23 = .ok (.aload_n 0, 1) := by decide +kernel
theorem dX6_thin_24 : decode cX6_thin 24 = .ok (.getfield 48, 3) := by decide +kernel
theorem dX6_thin_27 : decode cX6_thin 27 = .ok (.aload_n 0, 1) := by decide +kernel
theorem dX6_thin_28 : decode cX6_thin 28 = .ok (.getfield 20, 3) := by decide +kernel
theorem dX6_thin_31 : decode cX6_thin 31 = .ok (.getfield 133, 3) := by decide +kernel
theorem dX6_thin_34 : decode cX6_thin 34 = .ok (.iload_n 1, 1) := by decide +kernel
theorem dX6_thin_35 : decode cX6_thin 35 = .ok (.aaload, 1) := by decide +kernel
theorem dX6_thin_36 : decode cX6_thin 36 = .ok (.invokevirtual 160, 3) := by decide +kernel
theorem dX6_thin_39 : decode cX6_thin 39 = .ok (.aload_n 0, 1) := by decide +kernel
theorem dX6_thin_40 : decode cX6_thin 40 = .ok (.getfield 48, 3) := by decide +kernel
theorem dX6_thin_43 : decode cX6_thin 43 = .ok (.getfield 150, 3) := by decide +kernel
theorem dX6_thin_46 : decode cX6_thin 46 = .ok (.iload_n 2, 1) := by decide +kernel
theorem dX6_thin_47 : decode cX6_thin 47 = .ok (.if_icmp .ne 6, 3) := by decide +kernel
theorem dX6_thin_50 : decode cX6_thin 50 = .ok (.bipush (-2), 2) := by decide +kernel
theorem dX6_thin_52 : decode cX6_thin 52 = .ok (.ireturn, 1) := by decide +kernel
theorem dX6_thin_53 : decode cX6_thin 53 = .ok (.aload_n 0, 1) := by decide +kernel
theorem dX6_thin_54 : decode cX6_thin 54 = .ok (.iload_n 1, 1) := by decide +kernel
theorem dX6_thin_55 : decode cX6_thin 55 = .ok (.invokevirtual 157, 3) := by decide +kernel
theorem dX6_thin_58 : decode cX6_thin 58 = .ok (.iload_n 2, 1) := by decide +kernel
theorem dX6_thin_59 : decode cX6_thin 59 = .ok (.aload_n 0, 1) := by decide +kernel
theorem dX6_thin_60 : decode cX6_thin 60 = .ok (.getfield 48, 3) := by decide +kernel
theorem dX6_thin_63 : decode cX6_thin 63 = .ok (.getfield 150, 3) := by decide +kernel
theorem dX6_thin_66 : decode cX6_thin 66 = .ok (.isub, 1) := by decide +kernel
theorem dX6_thin_67 : decode cX6_thin 67 = .ok (.ireturn, 1) := by decide +kernel
set_option maxRecDepth 100000 in
theorem pq5 : Cond.selects RX6 yX6_actBySketch yX6_actBySketch ∈ pw := pw_mem (i := 5) (by decide +kernel) rfl
set_option maxRecDepth 100000 in
theorem pq681 : Cond.methodLink RX6 153 yX3_becomeGrown ∈ pw := pw_mem (i := 681) (by decide +kernel) rfl
set_option maxRecDepth 100000 in
theorem pq682 : Cond.instanceMethod yX3_becomeGrown ∈ pw := pw_mem (i := 682) (by decide +kernel) rfl
set_option maxRecDepth 100000 in
theorem pq683 : Cond.selects RX3 yX3_becomeGrown yX3_becomeGrown ∈ pw := pw_mem (i := 683) (by decide +kernel) rfl
set_option maxRecDepth 100000 in
theorem pq684 : Cond.code yX3_becomeGrown cX3_becomeGrown 11 none ∈ pw := pw_mem (i := 684) (by rfl) rfl
set_option maxRecDepth 100000 in
theorem pq687 : Cond.methodLink RX6 157 yX6_actBySketch ∈ pw := pw_mem (i := 687) (by decide +kernel) rfl
set_option maxRecDepth 100000 in
theorem pq689 : Cond.instanceMethod yX6_actBySketch ∈ pw := pw_mem (i := 689) (by decide +kernel) rfl
set_option maxRecDepth 100000 in
theorem pq690 : Cond.code yX6_actBySketch cX6_actBySketch 2 none ∈ pw := pw_mem (i := 690) (by rfl) rfl
set_option maxRecDepth 100000 in
theorem pq691 : Cond.methodLink RX6 186 yX3_become ∈ pw := pw_mem (i := 691) (by decide +kernel) rfl
set_option maxRecDepth 100000 in
theorem pq696 : Cond.methodLink RX6 160 yX3_becomeThinned ∈ pw := pw_mem (i := 696) (by decide +kernel) rfl
set_option maxRecDepth 100000 in
theorem pq697 : Cond.instanceMethod yX3_becomeThinned ∈ pw := pw_mem (i := 697) (by decide +kernel) rfl
set_option maxRecDepth 100000 in
theorem pq698 : Cond.selects RX3 yX3_becomeThinned yX3_becomeThinned ∈ pw := pw_mem (i := 698) (by decide +kernel) rfl
set_option maxRecDepth 100000 in
theorem pq699 : Cond.code yX3_becomeThinned cX3_becomeThinned 7 none ∈ pw := pw_mem (i := 699) (by rfl) rfl
set_option maxRecDepth 100000 in
theorem pq704 : Cond.methodLink RX6 163 yX3_becomeJoined ∈ pw := pw_mem (i := 704) (by decide +kernel) rfl
set_option maxRecDepth 100000 in
theorem pq705 : Cond.instanceMethod yX3_becomeJoined ∈ pw := pw_mem (i := 705) (by decide +kernel) rfl
set_option maxRecDepth 100000 in
theorem pq706 : Cond.selects RX3 yX3_becomeJoined yX3_becomeJoined ∈ pw := pw_mem (i := 706) (by decide +kernel) rfl
set_option maxRecDepth 100000 in
theorem pq707 : Cond.code yX3_becomeJoined cX3_becomeJoined 12 none ∈ pw := pw_mem (i := 707) (by rfl) rfl
set_option maxRecDepth 100000 in
theorem pq729 : Cond.methodLink RX6 201 yX3_becomeQuartered ∈ pw := pw_mem (i := 729) (by decide +kernel) rfl
set_option maxRecDepth 100000 in
theorem pq730 : Cond.instanceMethod yX3_becomeQuartered ∈ pw := pw_mem (i := 730) (by decide +kernel) rfl
set_option maxRecDepth 100000 in
theorem pq731 : Cond.selects RX3 yX3_becomeQuartered yX3_becomeQuartered ∈ pw := pw_mem (i := 731) (by decide +kernel) rfl
set_option maxRecDepth 100000 in
theorem pq732 : Cond.code yX3_becomeQuartered cX3_becomeQuartered 4 none ∈ pw := pw_mem (i := 732) (by rfl) rfl
set_option maxHeartbeats 4000000 in
set_option maxRecDepth 100000 in
theorem s_X6_actBySketch (l : Launch) (dC : Nat → ClassId) (dI : Nat → Nat → Nat) (cs : Nat → ClassId) (L0 : List Nat) (K0 G0 : Nat → Nat) (Q0 : Nat → Nat → Option Nat) (hQ : Sv L0 K0 G0 Q0) (x0 m0 : Nat) (tx : GT) (tm : GT × Int) (hx0 : x0 ∈ L0) (hm0 : m0 ∈ L0) (sz : Nat) (I : Nat → Nat → Int32) (J : Nat → Nat → Int64) (hI : Iv L0 K0 x0 m0 tx tm I) (p0 : Nat) (hLp0 : p0 ∈ L0) (hKp0 : K0 p0 = 6) (p1 : Int32) (bp1 : (0) ≤ p1.toInt ∧ p1.toInt ≤ 7) : Met l yX6_actBySketch (.code yX6_actBySketch cX6_actBySketch 2 none :: pw) ({ frames := 5, cells := 29, slots := 807, locals := 131 }) (sP (dC, dI) cs [.ref p0, .int p1] sz L0 K0 I J Q0) (va_Qv (fun (_ : Unit) => True) (fun _ t => sA (dC, dI) cs L0 K0 G0 Q0 x0 m0 tx tm sz (fun L K G Q I1 J1 => ((∀ (σ : Sx) (w h : Int32) (f : Nat → Int64), cxA Q0 I J p0 σ → okm w.toInt h.toInt f → cxM Q0 I J (sk_ Q0 p0) w h f → cxA Q I1 J1 p0 (setM σ.1 p1.toInt.toNat w h f, (rem σ).2)) ∧ I1 (sk_ Q p0) = I (sk_ Q0 p0)) ∧ (∀ b, b ∈ L0 → (K0 b = 7 ∨ K0 b = 18 ∨ K0 b = 19 ∨ K0 b = 20 ∨ K0 b = 24) → I1 b = I b) ∧ (∀ b, b ∈ L0 → ¬ (K0 b = 12) → J1 b = J b)) t) (fun q => q ∈ L0 ∨ sz ≤ q)) 29 807 (fun q => q ∈ L0 ∨ sz ≤ q) := by
  refine Met.ofW (cc := cX6_actBySketch) (maxL := 2) (ret := none) (by decide +kernel) rfl ?_
  intro p e s m args below meth c s₁ B hml hv
  obtain ⟨rfl, hsz, hP, hK, hD0, hN⟩ := hv
  have hx := B.exec
  have hb := B.bytes
  have hr := B.returns
  have hts := fun w (h : w ∈ pw) => atoms_spec (ws := Cond.code yX6_actBySketch cX6_actBySketch 2 none :: pw) B.pre w (List.mem_cons_of_mem _ h)
  have hown : s.vm.findClass RX6 = some m.cls := findClass_of_methodNamed B.named
  have hlocks := B.notSynchronized
  subst hsz
  have hBB : 999 ≤ tm.2 ∧ tm.2 ≤ 6000000 := hI.2.2.2.2.1
  have dn_I : (∀ b, b ∈ L0 → (K0 b = 7 ∨ K0 b = 18 ∨ K0 b = 19 ∨ K0 b = 20 ∨ K0 b = 24) → I b = I b) := fun _ _ _ => rfl
  have dj_J : (∀ b, b ∈ L0 → ¬ (K0 b = 12) → J b = J b) := fun _ _ _ => rfl
  obtain ⟨A, hAe⟩ : ∃ A : Nat → Prop, A = (fun q => q ∈ L0 ∨ s.heap.size ≤ q) := ⟨_, rfl⟩
  rw [← hAe]
  have hAL : ∀ q, q ∈ L0 → A q := fun q h => by rw [hAe]; exact Or.inl h
  have hA : ∀ q, s.heap.size ≤ q → A q := fun q h => by rw [hAe]; exact Or.inr h
  have hD : ∀ F, va_D A (va_pl L0 F) := fun F => (hD0 F).weaken (fun k q hk _ => hAL _ (pl_mem hk))
  obtain ⟨H, hHe⟩ : ∃ H : Heap, H = s.heap := ⟨_, rfl⟩
  have hS : va_S A s.heap H [] := by rw [hHe]; exact va_S.rf
  rw [← hHe] at hP
  have hl := lv_entry ([.ref p0, .int p1]) (n := 2) (Nat.le_of_ble_eq_true rfl)
  rw [lg_entry_eq]
  generalize (lg_sl ([.ref p0, .int p1]) ++ List.replicate (2 - (lg_sl ([.ref p0, .int p1])).length) Slot.unset).toArray = ls at hl ⊢
  have hl : lv_has ls 2 [(0, .ref p0), (1, .int p1)] := hl
  rw [← hHe]
  refine namedW (fun R Qz hR hQz => ?_)
  have hAe2 : ∀ q, A q → q ∈ L0 ∨ H.size ≤ q := fun q h => by rw [hHe]; rw [hAe] at h; exact h
  have hQ0 := hQ
  have hK0p0 := hKp0
  have hL0p0 := hLp0
  obtain ⟨L, K, G, Q, hX, hQ, hI, hP, hD, hAL, hx0, hm0, hLp0, hKp0, rx0⟩ : ∃ L K G Q, extW L0 K0 G0 Q0 L K G Q ∧ Sv L K G Q ∧ Iv L K x0 m0 tx tm I ∧ va_P (dC, dI) vwCl (Wd cs L K I J Q) H ∧ (∀ F, va_D A (va_pl L F)) ∧ (∀ q, q ∈ L → A q) ∧ x0 ∈ L ∧ m0 ∈ L ∧ p0 ∈ L ∧ K p0 = 6 ∧ (∀ σ : Sx, cxA Q0 I J p0 σ → cxA Q I J p0 σ) := ⟨L0, K0, G0, Q0, extW_refl, hQ, hI, hP, hD, hAL, hx0, hm0, hLp0, hKp0, fun _ h => h⟩
  refine lv_aload_n hx hb dX6_actBySketch_0 rfl (lv_at hl 0 rfl) ?_
  refine sa_v (va_runV (As := []) (rest := []) ⟨hx, hb, hml, hown, hts⟩ (s_X6_remember l dC dI cs L K G Q hQ x0 m0 tx tm hx0 hm0 H.size I J hI p0 hLp0 hKp0) (cwV 0 hts (gV pq643 pq645 pq3 pq74 pq646) rfl rfl rfl (by decide +kernel) ⟨(by rw [hR]; exact (Nat.le_of_ble_eq_true rfl)), (by rw [hR]; exact (Nat.le_of_ble_eq_true rfl))⟩) (sP_V hP hD hK hN hLp0 hKp0 rfl rfl) rfl rfl hl.1 rfl (lv_room (Nat.le_of_ble_eq_true rfl)) dX6_actBySketch_1 ⟨(by rw [hR]; exact (Nat.le_of_ble_eq_true rfl)), (by rw [hR]; exact (Nat.le_of_ble_eq_true rfl))⟩) hS hAL hA (fun L K G Q Iz1 Jz1 H locs hz1 hE hQn hIz1 hDn hALn hP zp1 hS => ?_)
  obtain ⟨zp1, rz1, dnc1, djc1⟩ := zp1
  have dn_Iz1 : (∀ b, b ∈ L0 → (K0 b = 7 ∨ K0 b = 18 ∨ K0 b = 19 ∨ K0 b = 20 ∨ K0 b = 24) → Iz1 b = I b) := fun b hb hc => (dnc1 b (hX b hb).1 (by have w := (hX b hb).2.1; omega)).trans (dn_I b hb hc)
  have dj_Jz1 : (∀ b, b ∈ L0 → ¬ (K0 b = 12) → Jz1 b = J b) := fun b hb hc => (djc1 b (hX b hb).1 (fun z => hc (by have w1 := (hX b hb).2.1; have w2 := (hX b hb).2.2.1; rw [w1] at z; first | exact z | exact z.1))).trans (dj_J b hb hc)
  have sr1 : ∀ (w h : Int32) (f : Nat → Int64), cxM Q0 I J (sk_ Q0 p0) w h f → cxM Q Iz1 Jz1 (sk_ Q p0) w h f := fun w h f q => sk_rem hQ hE hLp0 hKp0 zp1 djc1 (by rw [ext_sk hX hL0p0 hK0p0]; exact cxM_fr hQ0 hX (sk_g hQ0 hL0p0 hK0p0).1 (sk_g hQ0 hL0p0 hK0p0).2.1 rfl rfl q)
  have si1 : Iz1 (sk_ Q p0) = I (sk_ Q0 p0) := (sk_remI hQ hE hLp0 hKp0 zp1).trans (by rw [ext_sk hX hL0p0 hK0p0])
  have rr1 := fun (σ : Sx) (h : cxA Q0 I J p0 σ) => rz1 σ (rx0 σ h)
  have hKp0 := (hE p0 hLp0).2.1.trans hKp0
  have hLp0 := (hE p0 hLp0).1
  have hx0 := (hE x0 hx0).1
  have hm0 := (hE m0 hm0).1
  have hX := extW_trans hX hE
  have hQ := hQn
  have hD := hDn
  have hAL := hALn
  refine W.widen (k := 29) (n := 807) (Nat.le_of_ble_eq_true rfl) (Nat.le_of_ble_eq_true rfl) ?_
  refine lv_aload_n hx hb dX6_actBySketch_4 rfl (lv_at hl 0 rfl) ?_
  obtain ⟨y5, ey5, hLy5, hKy5, hGy5⟩ := oQ_6_2 (Sv_at hQ hLp0 hKp0)
  refine p_get (v := .ref y5) hx hb hts inX6 hown hK hP hLp0 hKp0 rfl rfl 2 (by decide) (hts _ pq351) (congrArg (fun q => some (va_rf q)) ey5) dX6_actBySketch_5 ?_
  obtain ⟨y8, ey8, hLy8, hKy8, hGy8⟩ := oQ_1_0 (Sv_at hQ hLy5 hKy5)
  refine p_get (v := .ref y8) hx hb hts inX1 hown hK hP hLy5 hKy5 rfl rfl 0 (by decide) (hts _ pq216) (congrArg (fun q => some (va_rf q)) ey8) dX6_actBySketch_8 ?_
  refine lv_iload_n hx hb dX6_actBySketch_11 rfl (lv_at hl 1 rfl) ?_
  obtain ⟨y12, ey12, hLy12, hKy12, hGy12⟩ := (Sv_at hQ hLy8 hKy8).1 p1.toNatClampNeg (clamp_lt (n := 8) (in_of (by omega) (by omega)))
  have hjy12 : p1.toNatClampNeg < 8 := clamp_lt (i := p1) (n := 8) (in_of (by omega) (by omega))
  refine p_aaldR hx hb hK hP 3 hLy8 hKy8 rfl rfl (in_of (by omega) (by omega)) ey12 dX6_actBySketch_12 ?_
  refine lv_aload_n hx hb dX6_actBySketch_13 rfl (lv_at hl 0 rfl) ?_
  obtain ⟨y14, ey14, hLy14, hKy14, hGy14⟩ := oQ_6_6 (Sv_at hQ hLp0 hKp0)
  refine p_get (v := .ref y14) hx hb hts inX6 hown hK hP hLp0 hKp0 rfl rfl 6 (by decide) (hts _ pq355) (congrArg (fun q => some (va_rf q)) ey14) dX6_actBySketch_14 ?_
  refine sw_v (Z := (fun I1 J1 => Iv L K x0 m0 tx tm I1 ∧ (∀ b, ¬ (b = y12) → I1 b = Iz1 b) ∧ (¬ y14 = y12 → ∀ k, k < 8 → ¬ k = 2 → I1 y12 k = Iz1 y14 k) ∧ (∀ k, k < 80 → J1 (wo Q y12) k = Jz1 (wo Q y14) k) ∧ (∀ b, ¬ (K b = 12 ∧ (G b = G y12)) → J1 b = Jz1 b))) (va_runV (As := [.ref y14]) (rest := []) ⟨hx, hb, hml, hown, hts⟩ (s_X3_become l dC dI cs L K G Q hQ x0 m0 tx tm H.size Iz1 Jz1 hIz1 y12 hLy12 hKy12 y14 hLy14 hKy14) (cwV 1 hts (gV pq691 pq594 pq595 pq76 pq596) rfl rfl rfl (by decide +kernel) ⟨(by rw [hR]; exact (Nat.le_of_ble_eq_true rfl)), (by rw [hR]; exact (Nat.le_of_ble_eq_true rfl))⟩) (sP_V hP hD hK hN hLy12 hKy12 rfl rfl) rfl rfl hl.1 rfl (lv_room (Nat.le_of_ble_eq_true rfl)) dX6_actBySketch_17 ⟨(by rw [hR]; exact (Nat.le_of_ble_eq_true rfl)), (by rw [hR]; exact (Nat.le_of_ble_eq_true rfl))⟩) hS hAL hA (fun Iz17 Jz17 H locs hz17 hIz17 hP hS => ?_)
  obtain ⟨hIz17, frc17, fz17, jz17, djc17⟩ := hIz17
  have dj_Jz17 : (∀ b, b ∈ L0 → ¬ (K0 b = 12) → Jz17 b = J b) := fun b hb hc => (djc17 b (fun z => hc (by have w1 := (hX b hb).2.1; have w2 := (hX b hb).2.2.1; rw [w1] at z; exact z.1))).trans (dj_Jz1 b hb hc)
  have dn_Iz17 : (∀ b, b ∈ L0 → (K0 b = 7 ∨ K0 b = 18 ∨ K0 b = 19 ∨ K0 b = 20 ∨ K0 b = 24) → Iz17 b = I b) := fun b hb hc => (frc17 b (fun z => by have w := (hX b hb).2.1; have q := hKy12; rw [← z] at q; omega)).trans (dn_Iz1 b hb hc)
  refine lv_aload_n hx hb dX6_actBySketch_20 rfl (lv_at hl 0 rfl) ?_
  obtain ⟨y21, ey21, hLy21, hKy21, hGy21⟩ := oQ_6_5 (Sv_at hQ hLp0 hKp0)
  refine p_get (v := .ref y21) hx hb hts inX6 hown hK hP hLp0 hKp0 rfl rfl 5 (by decide) (hts _ pq354) (congrArg (fun q => some (va_rf q)) ey21) dX6_actBySketch_21 ?_
  refine sw_v (Z := (fun I1 J1 => Iv L K x0 m0 tx tm I1 ∧ (∀ b, ¬ ((K b = 3) ∧ G b / 100 = 2) → I1 b = Iz17 b) ∧ (∀ c : Fx, okF c → cxF Q Iz17 Jz17 (nf Q y21) c → cxS Q I1 J1 y21 c) ∧ (∀ b, ¬ (K b = 12 ∧ (G b / 100 = 2)) → J1 b = Jz17 b))) (va_runV (As := []) (rest := []) ⟨hx, hb, hml, hown, hts⟩ (s_X5_redraw l dC dI cs L K G Q hQ x0 m0 tx tm H.size Iz17 Jz17 hIz17 y21 hLy21 hKy21) (cwV 0 hts (gV pq604 pq605 pq606 pq79 pq607) rfl rfl rfl (by decide +kernel) ⟨(by rw [hR]; exact (Nat.le_of_ble_eq_true rfl)), (by rw [hR]; exact (Nat.le_of_ble_eq_true rfl))⟩) (sP_V hP hD hK hN hLy21 hKy21 rfl rfl) rfl rfl hl.1 rfl (lv_room (Nat.le_of_ble_eq_true rfl)) dX6_actBySketch_24 ⟨(by rw [hR]; exact (Nat.le_of_ble_eq_true rfl)), (by rw [hR]; exact (Nat.le_of_ble_eq_true rfl))⟩) hS hAL hA (fun Iz24 Jz24 H locs hz24 hIz24 hP hS => ?_)
  obtain ⟨hIz24, frc24, jz24, djc24⟩ := hIz24
  have dj_Jz24 : (∀ b, b ∈ L0 → ¬ (K0 b = 12) → Jz24 b = J b) := fun b hb hc => (djc24 b (fun z => hc (by have w1 := (hX b hb).2.1; have w2 := (hX b hb).2.2.1; rw [w1] at z; exact z.1))).trans (dj_Jz17 b hb hc)
  have dn_Iz24 : (∀ b, b ∈ L0 → (K0 b = 7 ∨ K0 b = 18 ∨ K0 b = 19 ∨ K0 b = 20 ∨ K0 b = 24) → Iz24 b = I b) := fun b hb hc => (frc24 b (by have w := (hX b hb).2.1; omega)).trans (dn_Iz17 b hb hc)
  subst hR; subst hQz
  exact W.vret hx hb hr (fun t ht hW => ⟨⟨(), rfl, trivial, ⟨L, K, G, Q, Iz24, Jz24, hX, hQ, hIz24, fun F => (hD F).weaken (fun _ _ _ _ => trivial), fun q h => hAe2 q (hAL q h), by rw [ht]; exact hP, ⟨⟨fun σ w h f A ok q => by have em : fm Q (an Q p0) p1.toInt.toNat = y12 := (by rw [show an Q p0 = y5 from gd_of ey5]; exact fm_of ey8 ey12); have esk : sk_ Q p0 = y14 := gd_of ey14; have q1 := sr1 w h f q; have q2 := sk_mask (m := p1.toInt.toNat) (I1 := Iz17) (J1 := Jz17) hQ hLp0 hKp0 (by omega) (by rw [em, esk]; exact fz17) (by rw [em, esk]; exact jz17) q1; have B := cxH_mask (σ := rem σ) hQ hLp0 hKp0 (by omega) ok q2 (by rw [em]; exact frc17) (by rw [em]; exact djc17) (rr1 σ A).1; rw [rem_1] at B; exact cxA_redraw hQ hLp0 hKp0 (by rw [show se Q p0 = y21 from gd_of ey21]; exact jz24) frc24 djc24 B, by have g := sk_g hQ hLp0 hKp0; rw [frc24 _ (fun z => by have := g.2.2; omega), frc17 _ (fun z => by have := g.2.2; rw [z] at this; omega)]; exact si1⟩, dn_Iz24, dj_Jz24⟩⟩⟩, hS.F ht⟩) hS.2.2 dX6_actBySketch_27

set_option maxHeartbeats 4000000 in
set_option maxRecDepth 100000 in
theorem s_X6_grow (l : Launch) (dC : Nat → ClassId) (dI : Nat → Nat → Nat) (cs : Nat → ClassId) (L0 : List Nat) (K0 G0 : Nat → Nat) (Q0 : Nat → Nat → Option Nat) (hQ : Sv L0 K0 G0 Q0) (x0 m0 : Nat) (tx : GT) (tm : GT × Int) (hx0 : x0 ∈ L0) (hm0 : m0 ∈ L0) (sz : Nat) (I : Nat → Nat → Int32) (J : Nat → Nat → Int64) (hI : Iv L0 K0 x0 m0 tx tm I) (p0 : Nat) (hLp0 : p0 ∈ L0) (hKp0 : K0 p0 = 6) (p1 : Int32) : Met l yX6_grow (.code yX6_grow cX6_grow 3 (some .int) :: pw) ({ frames := 6, cells := 29, slots := 807, locals := 152 }) (sP (dC, dI) cs [.ref p0, .int p1] sz L0 K0 I J Q0) (va_Qi (fun (r : Int32) (_ : Unit) => (∀ σ : Sx, cxA Q0 I J p0 σ → r.toInt = (chA σ p1 (mkw (growD (mW σ p1).toInt (mH σ p1).toInt (mF σ p1))) true).1)) (fun _ t => sA (dC, dI) cs L0 K0 G0 Q0 x0 m0 tx tm sz (fun L K G Q I1 J1 => (∀ σ : Sx, cxA Q0 I J p0 σ → cxA Q I1 J1 p0 (chA σ p1 (mkw (growD (mW σ p1).toInt (mH σ p1).toInt (mF σ p1))) true).2) ∧ (∀ b, b ∈ L0 → (K0 b = 7 ∨ K0 b = 18 ∨ K0 b = 19 ∨ K0 b = 20 ∨ K0 b = 24) → I1 b = I b) ∧ (∀ b, b ∈ L0 → ¬ (K0 b = 12) → J1 b = J b)) t) (fun q => q ∈ L0 ∨ sz ≤ q)) 29 807 (fun q => q ∈ L0 ∨ sz ≤ q) := by
  refine Met.ofW (cc := cX6_grow) (maxL := 3) (ret := (some .int)) (by decide +kernel) rfl ?_
  intro p e s m args below meth c s₁ B hml hv
  obtain ⟨rfl, hsz, hP, hK, hD0, hN⟩ := hv
  have hx := B.exec
  have hb := B.bytes
  have hr := B.returns
  have hts := fun w (h : w ∈ pw) => atoms_spec (ws := Cond.code yX6_grow cX6_grow 3 (some .int) :: pw) B.pre w (List.mem_cons_of_mem _ h)
  have hown : s.vm.findClass RX6 = some m.cls := findClass_of_methodNamed B.named
  have hlocks := B.notSynchronized
  subst hsz
  have hBB : 999 ≤ tm.2 ∧ tm.2 ≤ 6000000 := hI.2.2.2.2.1
  have dn_I : (∀ b, b ∈ L0 → (K0 b = 7 ∨ K0 b = 18 ∨ K0 b = 19 ∨ K0 b = 20 ∨ K0 b = 24) → I b = I b) := fun _ _ _ => rfl
  have dj_J : (∀ b, b ∈ L0 → ¬ (K0 b = 12) → J b = J b) := fun _ _ _ => rfl
  obtain ⟨A, hAe⟩ : ∃ A : Nat → Prop, A = (fun q => q ∈ L0 ∨ s.heap.size ≤ q) := ⟨_, rfl⟩
  rw [← hAe]
  have hAL : ∀ q, q ∈ L0 → A q := fun q h => by rw [hAe]; exact Or.inl h
  have hA : ∀ q, s.heap.size ≤ q → A q := fun q h => by rw [hAe]; exact Or.inr h
  have hD : ∀ F, va_D A (va_pl L0 F) := fun F => (hD0 F).weaken (fun k q hk _ => hAL _ (pl_mem hk))
  obtain ⟨H, hHe⟩ : ∃ H : Heap, H = s.heap := ⟨_, rfl⟩
  have hS : va_S A s.heap H [] := by rw [hHe]; exact va_S.rf
  rw [← hHe] at hP
  have hl := lv_entry ([.ref p0, .int p1]) (n := 3) (Nat.le_of_ble_eq_true rfl)
  rw [lg_entry_eq]
  generalize (lg_sl ([.ref p0, .int p1]) ++ List.replicate (3 - (lg_sl ([.ref p0, .int p1])).length) Slot.unset).toArray = ls at hl ⊢
  have hl : lv_has ls 3 [(0, .ref p0), (1, .int p1)] := hl
  rw [← hHe]
  refine namedW (fun R Qz hR hQz => ?_)
  have hAe2 : ∀ q, A q → q ∈ L0 ∨ H.size ≤ q := fun q h => by rw [hHe]; rw [hAe] at h; exact h
  have hQ0 := hQ
  have hK0p0 := hKp0
  have hL0p0 := hLp0
  obtain ⟨L, K, G, Q, hX, hQ, hI, hP, hD, hAL, hx0, hm0, hLp0, hKp0, rx0⟩ : ∃ L K G Q, extW L0 K0 G0 Q0 L K G Q ∧ Sv L K G Q ∧ Iv L K x0 m0 tx tm I ∧ va_P (dC, dI) vwCl (Wd cs L K I J Q) H ∧ (∀ F, va_D A (va_pl L F)) ∧ (∀ q, q ∈ L → A q) ∧ x0 ∈ L ∧ m0 ∈ L ∧ p0 ∈ L ∧ K p0 = 6 ∧ (∀ σ : Sx, cxA Q0 I J p0 σ → cxA Q I J p0 σ) := ⟨L0, K0, G0, Q0, extW_refl, hQ, hI, hP, hD, hAL, hx0, hm0, hLp0, hKp0, fun _ h => h⟩
  refine lv_aload_n hx hb dX6_grow_0 rfl (lv_at hl 0 rfl) ?_
  refine lv_iload_n hx hb dX6_grow_1 rfl (lv_at hl 1 rfl) ?_
  refine ro_i (va_runV (As := [.int p1]) (rest := []) ⟨hx, hb, hml, hown, hts⟩ (s_X6_isMask l dC dI cs L K G Q hQ x0 m0 tx tm H.size I J hI p0 hLp0 hKp0 p1) (cwV 1 hts (gV pq666 pq668 pq4 pq74 pq669) rfl rfl rfl (by decide +kernel) ⟨(by rw [hR]; exact (Nat.le_of_ble_eq_true rfl)), (by rw [hR]; exact (Nat.le_of_ble_eq_true rfl))⟩) (sP_V hP hD hK hN hLp0 hKp0 rfl rfl) rfl rfl hl.1 rfl (lv_room (Nat.le_of_ble_eq_true rfl)) dX6_grow_2 ⟨(by rw [hR]; exact (Nat.le_of_ble_eq_true rfl)), (by rw [hR]; exact (Nat.le_of_ble_eq_true rfl))⟩) hS hP (fun z2 H locs hz2 hP hS => ?_)
  obtain ⟨bz2, imz2, xpz2⟩ := hz2
  refine lv_if_ne (tgt := 10) hx hb dX6_grow_5 (by decide) (fun c5 => ?_) (fun c5 => ?_)
  · have t5 := tq_ne (k := z2.toInt) (q := (0)) c5 rfl (by decide +kernel)
    have i5 := imz2 t5
    refine lv_aload_n hx hb dX6_grow_10 rfl (lv_at hl 0 rfl) ?_
    obtain ⟨y11, ey11, hLy11, hKy11, hGy11⟩ := oQ_6_2 (Sv_at hQ hLp0 hKp0)
    refine p_get (v := .ref y11) hx hb hts inX6 hown hK hP hLp0 hKp0 rfl rfl 2 (by decide) (hts _ pq351) (congrArg (fun q => some (va_rf q)) ey11) dX6_grow_11 ?_
    obtain ⟨y14, ey14, hLy14, hKy14, hGy14⟩ := oQ_1_0 (Sv_at hQ hLy11 hKy11)
    refine p_get (v := .ref y14) hx hb hts inX1 hown hK hP hLy11 hKy11 rfl rfl 0 (by decide) (hts _ pq216) (congrArg (fun q => some (va_rf q)) ey14) dX6_grow_14 ?_
    refine lv_iload_n hx hb dX6_grow_17 rfl (lv_at hl 1 rfl) ?_
    obtain ⟨y18, ey18, hLy18, hKy18, hGy18⟩ := (Sv_at hQ hLy14 hKy14).1 p1.toNatClampNeg (clamp_lt (n := 8) (in_of (by omega) (by omega)))
    have hjy18 : p1.toNatClampNeg < 8 := clamp_lt (i := p1) (n := 8) (in_of (by omega) (by omega))
    refine p_aaldR hx hb hK hP 3 hLy14 hKy14 rfl rfl (in_of (by omega) (by omega)) ey18 dX6_grow_18 ?_
    refine p_get hx hb hts inX3 hown hK hP hLy18 hKy18 rfl rfl 3 (by decide) (hts _ pq132) rfl dX6_grow_19 ?_
    refine lv_topi (fun z19 ez19 => ?_)
    refine lv_istore_n (lv' := [(2, .int z19), (0, .ref p0), (1, .int p1)]) hx hb dX6_grow_22 rfl hl (by decide) rfl (fun ls hl => ?_)
    refine lv_aload_n hx hb dX6_grow_23 rfl (lv_at hl 1 rfl) ?_
    obtain ⟨y24, ey24, hLy24, hKy24, hGy24⟩ := oQ_6_6 (Sv_at hQ hLp0 hKp0)
    refine p_get (v := .ref y24) hx hb hts inX6 hown hK hP hLp0 hKp0 rfl rfl 6 (by decide) (hts _ pq355) (congrArg (fun q => some (va_rf q)) ey24) dX6_grow_24 ?_
    refine lv_aload_n hx hb dX6_grow_27 rfl (lv_at hl 1 rfl) ?_
    refine p_get (v := .ref y11) hx hb hts inX6 hown hK hP hLp0 hKp0 rfl rfl 2 (by decide) (hts _ pq351) (congrArg (fun q => some (va_rf q)) ey11) dX6_grow_28 ?_
    refine p_get (v := .ref y14) hx hb hts inX1 hown hK hP hLy11 hKy11 rfl rfl 0 (by decide) (hts _ pq216) (congrArg (fun q => some (va_rf q)) ey14) dX6_grow_31 ?_
    refine lv_iload_n hx hb dX6_grow_34 rfl (lv_at hl 2 rfl) ?_
    refine p_aaldR hx hb hK hP 3 hLy14 hKy14 rfl rfl (in_of (by omega) (by omega)) ey18 dX6_grow_35 ?_
    refine sw_v (Z := (fun I1 J1 => Iv L K x0 m0 tx tm I1 ∧ (∀ b, ¬ (b = y24) → I1 b = I b) ∧ (okm (I y18 0).toInt (I y18 1).toInt (J (wo Q y18)) → mkd Q I1 J1 y24 (I y18 0) (I y18 1) (growD (I y18 0).toInt (I y18 1).toInt (J (wo Q y18)))) ∧ (∀ b, ¬ (K b = 12 ∧ (G b = G y24)) → J1 b = J b))) (va_runV (As := [.ref y18]) (rest := []) ⟨hx, hb, hml, hown, hts⟩ (s_X3_becomeGrown l dC dI cs L K G Q hQ x0 m0 tx tm H.size I J hI y24 hLy24 hKy24 y18 hLy18 hKy18 (by omega)) (cwV 1 hts (gV pq681 pq682 pq683 pq76 pq684) rfl rfl rfl (by decide +kernel) ⟨(by rw [hR]; exact (Nat.le_of_ble_eq_true rfl)), (by rw [hR]; exact (Nat.le_of_ble_eq_true rfl))⟩) (sP_V hP hD hK hN hLy24 hKy24 rfl rfl) rfl rfl hl.1 rfl (lv_room (Nat.le_of_ble_eq_true rfl)) dX6_grow_36 ⟨(by rw [hR]; exact (Nat.le_of_ble_eq_true rfl)), (by rw [hR]; exact (Nat.le_of_ble_eq_true rfl))⟩) hS hAL hA (fun Iz36 Jz36 H locs hz36 hIz36 hP hS => ?_)
    obtain ⟨hIz36, frc36, jz36, djc36⟩ := hIz36
    have dj_Jz36 : (∀ b, b ∈ L0 → ¬ (K0 b = 12) → Jz36 b = J b) := fun b hb hc => (djc36 b (fun z => hc (by have w1 := (hX b hb).2.1; have w2 := (hX b hb).2.2.1; rw [w1] at z; exact z.1))).trans (dj_J b hb hc)
    have dn_Iz36 : (∀ b, b ∈ L0 → (K0 b = 7 ∨ K0 b = 18 ∨ K0 b = 19 ∨ K0 b = 20 ∨ K0 b = 24) → Iz36 b = I b) := fun b hb hc => (frc36 b (fun z => by have w := (hX b hb).2.1; have q := hKy24; rw [← z] at q; omega)).trans (dn_I b hb hc)
    refine lv_aload_n hx hb dX6_grow_39 rfl (lv_at hl 1 rfl) ?_
    refine p_get (v := .ref y24) hx hb hts inX6 hown hK hP hLp0 hKp0 rfl rfl 6 (by decide) (hts _ pq355) (congrArg (fun q => some (va_rf q)) ey24) dX6_grow_40 ?_
    refine p_get hx hb hts inX3 hown hK hP hLy24 hKy24 rfl rfl 3 (by decide) (hts _ pq132) rfl dX6_grow_43 ?_
    refine lv_topi (fun z43 ez43 => ?_)
    have ea : fm Q (an Q p0) p1.toInt.toNat = y18 := by rw [show an Q p0 = y11 from gd_of ey11]; exact fm_of ey14 ey18
    have esk : sk_ Q p0 = y24 := gd_of ey24
    have rs : ∀ σ : Sx, cxA Q0 I J p0 σ → mK σ p1 ∧ cxA Q Iz36 Jz36 p0 σ ∧ cxM Q Iz36 Jz36 (sk_ Q p0) (mW σ p1) (mH σ p1) (mkw (growD (mW σ p1).toInt (mH σ p1).toInt (mF σ p1))) ∧ okm (mW σ p1).toInt (mH σ p1).toInt (mkw (growD (mW σ p1).toInt (mH σ p1).toInt (mF σ p1))) ∧ z43.toInt = (totr (mkw (growD (mW σ p1).toInt (mH σ p1).toInt (mF σ p1))) 40 : Int) ∧ z19.toInt = (totr (mF σ p1) 40 : Int) := fun σ h => by have A0 := rx0 σ h; have ec := A0.1.1.2.1; have hm : mK σ p1 := (by have q := xpz2.1 t5; rw [ec] at q; exact q); have G1 := gr_fin A0 hm ea jz36; have c := cxA_m A0 hm; have e1 := G1.1.2.2.2.1; have e2 := c.1.2.2.2.1; rw [ea] at e2; rw [← ez43] at e1; rw [← ez19] at e2; exact ⟨hm, cxA_sk hQ hLp0 hKp0 hKy24 (by omega) frc36 djc36 A0, by rw [esk]; exact G1.1, G1.2, e1, e2⟩
    refine lv_iload_n hx hb dX6_grow_46 rfl (lv_at hl 0 rfl) ?_
    refine lv_icmp_ne (tgt := 53) hx hb dX6_grow_47 (by decide) (fun c47 => ?_) (fun c47 => ?_)
    · have t47 := tq_ne (k := z43.toInt) (q := z19.toInt) c47 rfl rfl
      refine lv_aload_n hx hb dX6_grow_53 rfl (lv_at hl 1 rfl) ?_
      refine lv_iload_n hx hb dX6_grow_54 rfl (lv_at hl 2 rfl) ?_
      refine sa_v (va_runV (As := [.int p1]) (rest := []) ⟨hx, hb, hml, hown, hts⟩ (s_X6_actBySketch l dC dI cs L K G Q hQ x0 m0 tx tm hx0 hm0 H.size Iz36 Jz36 hIz36 p0 hLp0 hKp0 p1 ⟨by omega, by omega⟩) (cwV 1 hts (gV pq687 pq689 pq5 pq74 pq690) rfl rfl rfl (by decide +kernel) ⟨(by rw [hR]; exact (Nat.le_of_ble_eq_true rfl)), (by rw [hR]; exact (Nat.le_of_ble_eq_true rfl))⟩) (sP_V hP hD hK hN hLp0 hKp0 rfl rfl) rfl rfl hl.1 rfl (lv_room (Nat.le_of_ble_eq_true rfl)) dX6_grow_55 ⟨(by rw [hR]; exact (Nat.le_of_ble_eq_true rfl)), (by rw [hR]; exact (Nat.le_of_ble_eq_true rfl))⟩) hS hAL hA (fun L K G Q Iz55 Jz55 H locs hz55 hE hQn hIz55 hDn hALn hP zp55 hS => ?_)
      obtain ⟨rz55, dnc55, djc55⟩ := zp55
      have dn_Iz55 : (∀ b, b ∈ L0 → (K0 b = 7 ∨ K0 b = 18 ∨ K0 b = 19 ∨ K0 b = 20 ∨ K0 b = 24) → Iz55 b = I b) := fun b hb hc => (dnc55 b (hX b hb).1 (by have w := (hX b hb).2.1; omega)).trans (dn_Iz36 b hb hc)
      have dj_Jz55 : (∀ b, b ∈ L0 → ¬ (K0 b = 12) → Jz55 b = J b) := fun b hb hc => (djc55 b (hX b hb).1 (fun z => hc (by have w1 := (hX b hb).2.1; have w2 := (hX b hb).2.2.1; rw [w1] at z; first | exact z | exact z.1))).trans (dj_Jz36 b hb hc)
      have hKp0 := (hE p0 hLp0).2.1.trans hKp0
      have hLp0 := (hE p0 hLp0).1
      have hx0 := (hE x0 hx0).1
      have hm0 := (hE m0 hm0).1
      have hX := extW_trans hX hE
      have hQ := hQn
      have hD := hDn
      have hAL := hALn
      refine W.widen (k := 29) (n := 807) (Nat.le_of_ble_eq_true rfl) (Nat.le_of_ble_eq_true rfl) ?_
      refine lv_aload_n hx hb dX6_grow_58 rfl (lv_at hl 1 rfl) ?_
      obtain ⟨y59, ey59, hLy59, hKy59, hGy59⟩ := oQ_6_6 (Sv_at hQ hLp0 hKp0)
      refine p_get (v := .ref y59) hx hb hts inX6 hown hK hP hLp0 hKp0 rfl rfl 6 (by decide) (hts _ pq355) (congrArg (fun q => some (va_rf q)) ey59) dX6_grow_59 ?_
      refine p_get hx hb hts inX3 hown hK hP hLy59 hKy59 rfl rfl 3 (by decide) (hts _ pq132) rfl dX6_grow_62 ?_
      refine lv_topi (fun z62 ez62 => ?_)
      refine lv_iload_n hx hb dX6_grow_65 rfl (lv_at hl 0 rfl) ?_
      have e62 : z62 = z43 := by rw [ez62, ← show sk_ Q p0 = y59 from gd_of ey59, rz55.2, esk]; exact ez43.symm
      refine lv_isub hx hb dX6_grow_66 ?_
      refine lv_topi (fun z66 ez66 => ?_)
      subst hR; subst hQz
      exact W.iret (v := z66) hx hb hr (fun t ht hW => ⟨⟨z66, (), rfl, (fun σ h => by obtain ⟨hm, A1, c1, o1, e1, e2⟩ := rs σ h; have b1 := totr_b (mkw (growD (mW σ p1).toInt (mH σ p1).toInt (mF σ p1))); have b2 := totr_b (mF σ p1); have q := tq_sub (k := z62.toInt) (q := z19.toInt) ez66 rfl rfl (by rw [e62]; omega) (by rw [e62]; omega); rw [ch_y hm (by omega), q, e62, e1, e2]; rfl), ⟨L, K, G, Q, Iz55, Jz55, hX, hQ, hIz55, fun F => (hD F).weaken (fun _ _ _ _ => trivial), fun q h => hAe2 q (hAL q h), by rw [ht]; exact hP, ⟨(fun σ h => by obtain ⟨hm, A1, c1, o1, e1, e2⟩ := rs σ h; rw [ch_y hm (by omega)]; exact rz55.1 σ _ _ _ A1 o1 c1), dn_Iz55, dj_Jz55⟩⟩⟩, hS.F ht⟩) hS.2.2 dX6_grow_67
    · have t47 := tq_eq (k := z43.toInt) (q := z19.toInt) c47 rfl rfl
      refine lv_bipush (v := (-2)) hx hb dX6_grow_50 (by decide +kernel) ?_
      subst hR; subst hQz
      refine W.widen (k := 29) (n := 807) (Nat.le_of_ble_eq_true rfl) (Nat.le_of_ble_eq_true rfl) ?_
      exact W.iret (v := (-2)) hx hb hr (fun t ht hW => ⟨⟨(-2), (), rfl, (fun σ h => by obtain ⟨hm, A1, c1, o1, e1, e2⟩ := rs σ h; rw [ch_e hm (by omega)]; show (-2 : Int32).toInt = -2; decide +kernel), ⟨L, K, G, Q, Iz36, Jz36, hX, hQ, hIz36, fun F => (hD F).weaken (fun _ _ _ _ => trivial), fun q h => hAe2 q (hAL q h), by rw [ht]; exact hP, ⟨(fun σ h => by obtain ⟨hm, A1, c1, o1, e1, e2⟩ := rs σ h; rw [ch_e hm (by omega)]; exact A1), dn_Iz36, dj_Jz36⟩⟩⟩, hS.F ht⟩) hS.2.2 dX6_grow_52
  · have t5 := tq_eq (k := z2.toInt) (q := (0)) c5 rfl (by decide +kernel)
    refine lv_iconst (v := (-1)) hx hb dX6_grow_8 (by decide +kernel) ?_
    subst hR; subst hQz
    refine W.widen (k := 29) (n := 807) (Nat.le_of_ble_eq_true rfl) (Nat.le_of_ble_eq_true rfl) ?_
    exact W.iret (v := (-1)) hx hb hr (fun t ht hW => ⟨⟨(-1), (), rfl, (fun σ h => by have ec := (rx0 σ h).1.1.2.1; rw [ch_n (fun q => xpz2.2 t5 (by rw [ec]; exact q))]; show (-1 : Int32).toInt = -1; decide +kernel), ⟨L, K, G, Q, I, J, hX, hQ, hI, fun F => (hD F).weaken (fun _ _ _ _ => trivial), fun q h => hAe2 q (hAL q h), by rw [ht]; exact hP, ⟨(fun σ h => by have A0 := rx0 σ h; have ec := A0.1.1.2.1; rw [ch_n (fun q => xpz2.2 t5 (by rw [ec]; exact q))]; exact A0), dn_I, dj_J⟩⟩⟩, hS.F ht⟩) hS.2.2 dX6_grow_9

set_option maxHeartbeats 4000000 in
set_option maxRecDepth 100000 in
theorem s_X6_thin (l : Launch) (dC : Nat → ClassId) (dI : Nat → Nat → Nat) (cs : Nat → ClassId) (L0 : List Nat) (K0 G0 : Nat → Nat) (Q0 : Nat → Nat → Option Nat) (hQ : Sv L0 K0 G0 Q0) (x0 m0 : Nat) (tx : GT) (tm : GT × Int) (hx0 : x0 ∈ L0) (hm0 : m0 ∈ L0) (sz : Nat) (I : Nat → Nat → Int32) (J : Nat → Nat → Int64) (hI : Iv L0 K0 x0 m0 tx tm I) (p0 : Nat) (hLp0 : p0 ∈ L0) (hKp0 : K0 p0 = 6) (p1 : Int32) : Met l yX6_thin (.code yX6_thin cX6_thin 3 (some .int) :: pw) ({ frames := 6, cells := 29, slots := 807, locals := 152 }) (sP (dC, dI) cs [.ref p0, .int p1] sz L0 K0 I J Q0) (va_Qi (fun (r : Int32) (_ : Unit) => (∀ σ : Sx, cxA Q0 I J p0 σ → r.toInt = (chA σ p1 (mkw (thinD (mF σ p1))) false).1)) (fun _ t => sA (dC, dI) cs L0 K0 G0 Q0 x0 m0 tx tm sz (fun L K G Q I1 J1 => (∀ σ : Sx, cxA Q0 I J p0 σ → cxA Q I1 J1 p0 (chA σ p1 (mkw (thinD (mF σ p1))) false).2) ∧ (∀ b, b ∈ L0 → (K0 b = 7 ∨ K0 b = 18 ∨ K0 b = 19 ∨ K0 b = 20 ∨ K0 b = 24) → I1 b = I b) ∧ (∀ b, b ∈ L0 → ¬ (K0 b = 12) → J1 b = J b)) t) (fun q => q ∈ L0 ∨ sz ≤ q)) 29 807 (fun q => q ∈ L0 ∨ sz ≤ q) := by
  refine Met.ofW (cc := cX6_thin) (maxL := 3) (ret := (some .int)) (by decide +kernel) rfl ?_
  intro p e s m args below meth c s₁ B hml hv
  obtain ⟨rfl, hsz, hP, hK, hD0, hN⟩ := hv
  have hx := B.exec
  have hb := B.bytes
  have hr := B.returns
  have hts := fun w (h : w ∈ pw) => atoms_spec (ws := Cond.code yX6_thin cX6_thin 3 (some .int) :: pw) B.pre w (List.mem_cons_of_mem _ h)
  have hown : s.vm.findClass RX6 = some m.cls := findClass_of_methodNamed B.named
  have hlocks := B.notSynchronized
  subst hsz
  have hBB : 999 ≤ tm.2 ∧ tm.2 ≤ 6000000 := hI.2.2.2.2.1
  have dn_I : (∀ b, b ∈ L0 → (K0 b = 7 ∨ K0 b = 18 ∨ K0 b = 19 ∨ K0 b = 20 ∨ K0 b = 24) → I b = I b) := fun _ _ _ => rfl
  have dj_J : (∀ b, b ∈ L0 → ¬ (K0 b = 12) → J b = J b) := fun _ _ _ => rfl
  obtain ⟨A, hAe⟩ : ∃ A : Nat → Prop, A = (fun q => q ∈ L0 ∨ s.heap.size ≤ q) := ⟨_, rfl⟩
  rw [← hAe]
  have hAL : ∀ q, q ∈ L0 → A q := fun q h => by rw [hAe]; exact Or.inl h
  have hA : ∀ q, s.heap.size ≤ q → A q := fun q h => by rw [hAe]; exact Or.inr h
  have hD : ∀ F, va_D A (va_pl L0 F) := fun F => (hD0 F).weaken (fun k q hk _ => hAL _ (pl_mem hk))
  obtain ⟨H, hHe⟩ : ∃ H : Heap, H = s.heap := ⟨_, rfl⟩
  have hS : va_S A s.heap H [] := by rw [hHe]; exact va_S.rf
  rw [← hHe] at hP
  have hl := lv_entry ([.ref p0, .int p1]) (n := 3) (Nat.le_of_ble_eq_true rfl)
  rw [lg_entry_eq]
  generalize (lg_sl ([.ref p0, .int p1]) ++ List.replicate (3 - (lg_sl ([.ref p0, .int p1])).length) Slot.unset).toArray = ls at hl ⊢
  have hl : lv_has ls 3 [(0, .ref p0), (1, .int p1)] := hl
  rw [← hHe]
  refine namedW (fun R Qz hR hQz => ?_)
  have hAe2 : ∀ q, A q → q ∈ L0 ∨ H.size ≤ q := fun q h => by rw [hHe]; rw [hAe] at h; exact h
  have hQ0 := hQ
  have hK0p0 := hKp0
  have hL0p0 := hLp0
  obtain ⟨L, K, G, Q, hX, hQ, hI, hP, hD, hAL, hx0, hm0, hLp0, hKp0, rx0⟩ : ∃ L K G Q, extW L0 K0 G0 Q0 L K G Q ∧ Sv L K G Q ∧ Iv L K x0 m0 tx tm I ∧ va_P (dC, dI) vwCl (Wd cs L K I J Q) H ∧ (∀ F, va_D A (va_pl L F)) ∧ (∀ q, q ∈ L → A q) ∧ x0 ∈ L ∧ m0 ∈ L ∧ p0 ∈ L ∧ K p0 = 6 ∧ (∀ σ : Sx, cxA Q0 I J p0 σ → cxA Q I J p0 σ) := ⟨L0, K0, G0, Q0, extW_refl, hQ, hI, hP, hD, hAL, hx0, hm0, hLp0, hKp0, fun _ h => h⟩
  refine lv_aload_n hx hb dX6_thin_0 rfl (lv_at hl 0 rfl) ?_
  refine lv_iload_n hx hb dX6_thin_1 rfl (lv_at hl 1 rfl) ?_
  refine ro_i (va_runV (As := [.int p1]) (rest := []) ⟨hx, hb, hml, hown, hts⟩ (s_X6_isMask l dC dI cs L K G Q hQ x0 m0 tx tm H.size I J hI p0 hLp0 hKp0 p1) (cwV 1 hts (gV pq666 pq668 pq4 pq74 pq669) rfl rfl rfl (by decide +kernel) ⟨(by rw [hR]; exact (Nat.le_of_ble_eq_true rfl)), (by rw [hR]; exact (Nat.le_of_ble_eq_true rfl))⟩) (sP_V hP hD hK hN hLp0 hKp0 rfl rfl) rfl rfl hl.1 rfl (lv_room (Nat.le_of_ble_eq_true rfl)) dX6_thin_2 ⟨(by rw [hR]; exact (Nat.le_of_ble_eq_true rfl)), (by rw [hR]; exact (Nat.le_of_ble_eq_true rfl))⟩) hS hP (fun z2 H locs hz2 hP hS => ?_)
  obtain ⟨bz2, imz2, xpz2⟩ := hz2
  refine lv_if_ne (tgt := 10) hx hb dX6_thin_5 (by decide) (fun c5 => ?_) (fun c5 => ?_)
  · have t5 := tq_ne (k := z2.toInt) (q := (0)) c5 rfl (by decide +kernel)
    have i5 := imz2 t5
    refine lv_aload_n hx hb dX6_thin_10 rfl (lv_at hl 0 rfl) ?_
    obtain ⟨y11, ey11, hLy11, hKy11, hGy11⟩ := oQ_6_2 (Sv_at hQ hLp0 hKp0)
    refine p_get (v := .ref y11) hx hb hts inX6 hown hK hP hLp0 hKp0 rfl rfl 2 (by decide) (hts _ pq351) (congrArg (fun q => some (va_rf q)) ey11) dX6_thin_11 ?_
    obtain ⟨y14, ey14, hLy14, hKy14, hGy14⟩ := oQ_1_0 (Sv_at hQ hLy11 hKy11)
    refine p_get (v := .ref y14) hx hb hts inX1 hown hK hP hLy11 hKy11 rfl rfl 0 (by decide) (hts _ pq216) (congrArg (fun q => some (va_rf q)) ey14) dX6_thin_14 ?_
    refine lv_iload_n hx hb dX6_thin_17 rfl (lv_at hl 1 rfl) ?_
    obtain ⟨y18, ey18, hLy18, hKy18, hGy18⟩ := (Sv_at hQ hLy14 hKy14).1 p1.toNatClampNeg (clamp_lt (n := 8) (in_of (by omega) (by omega)))
    have hjy18 : p1.toNatClampNeg < 8 := clamp_lt (i := p1) (n := 8) (in_of (by omega) (by omega))
    refine p_aaldR hx hb hK hP 3 hLy14 hKy14 rfl rfl (in_of (by omega) (by omega)) ey18 dX6_thin_18 ?_
    refine p_get hx hb hts inX3 hown hK hP hLy18 hKy18 rfl rfl 3 (by decide) (hts _ pq132) rfl dX6_thin_19 ?_
    refine lv_topi (fun z19 ez19 => ?_)
    refine lv_istore_n (lv' := [(2, .int z19), (0, .ref p0), (1, .int p1)]) hx hb dX6_thin_22 rfl hl (by decide) rfl (fun ls hl => ?_)
    refine lv_aload_n hx hb dX6_thin_23 rfl (lv_at hl 1 rfl) ?_
    obtain ⟨y24, ey24, hLy24, hKy24, hGy24⟩ := oQ_6_6 (Sv_at hQ hLp0 hKp0)
    refine p_get (v := .ref y24) hx hb hts inX6 hown hK hP hLp0 hKp0 rfl rfl 6 (by decide) (hts _ pq355) (congrArg (fun q => some (va_rf q)) ey24) dX6_thin_24 ?_
    refine lv_aload_n hx hb dX6_thin_27 rfl (lv_at hl 1 rfl) ?_
    refine p_get (v := .ref y11) hx hb hts inX6 hown hK hP hLp0 hKp0 rfl rfl 2 (by decide) (hts _ pq351) (congrArg (fun q => some (va_rf q)) ey11) dX6_thin_28 ?_
    refine p_get (v := .ref y14) hx hb hts inX1 hown hK hP hLy11 hKy11 rfl rfl 0 (by decide) (hts _ pq216) (congrArg (fun q => some (va_rf q)) ey14) dX6_thin_31 ?_
    refine lv_iload_n hx hb dX6_thin_34 rfl (lv_at hl 2 rfl) ?_
    refine p_aaldR hx hb hK hP 3 hLy14 hKy14 rfl rfl (in_of (by omega) (by omega)) ey18 dX6_thin_35 ?_
    refine sw_v (Z := (fun I1 J1 => Iv L K x0 m0 tx tm I1 ∧ (∀ b, ¬ (b = y24) → I1 b = I b) ∧ (okm (I y18 0).toInt (I y18 1).toInt (J (wo Q y18)) → mkd Q I1 J1 y24 (I y18 0) (I y18 1) (thinD (J (wo Q y18)))) ∧ (∀ b, ¬ (K b = 12 ∧ (G b = G y24)) → J1 b = J b))) (va_runV (As := [.ref y18]) (rest := []) ⟨hx, hb, hml, hown, hts⟩ (s_X3_becomeThinned l dC dI cs L K G Q hQ x0 m0 tx tm H.size I J hI y24 hLy24 hKy24 y18 hLy18 hKy18 (by omega)) (cwV 1 hts (gV pq696 pq697 pq698 pq76 pq699) rfl rfl rfl (by decide +kernel) ⟨(by rw [hR]; exact (Nat.le_of_ble_eq_true rfl)), (by rw [hR]; exact (Nat.le_of_ble_eq_true rfl))⟩) (sP_V hP hD hK hN hLy24 hKy24 rfl rfl) rfl rfl hl.1 rfl (lv_room (Nat.le_of_ble_eq_true rfl)) dX6_thin_36 ⟨(by rw [hR]; exact (Nat.le_of_ble_eq_true rfl)), (by rw [hR]; exact (Nat.le_of_ble_eq_true rfl))⟩) hS hAL hA (fun Iz36 Jz36 H locs hz36 hIz36 hP hS => ?_)
    obtain ⟨hIz36, frc36, jz36, djc36⟩ := hIz36
    have dj_Jz36 : (∀ b, b ∈ L0 → ¬ (K0 b = 12) → Jz36 b = J b) := fun b hb hc => (djc36 b (fun z => hc (by have w1 := (hX b hb).2.1; have w2 := (hX b hb).2.2.1; rw [w1] at z; exact z.1))).trans (dj_J b hb hc)
    have dn_Iz36 : (∀ b, b ∈ L0 → (K0 b = 7 ∨ K0 b = 18 ∨ K0 b = 19 ∨ K0 b = 20 ∨ K0 b = 24) → Iz36 b = I b) := fun b hb hc => (frc36 b (fun z => by have w := (hX b hb).2.1; have q := hKy24; rw [← z] at q; omega)).trans (dn_I b hb hc)
    refine lv_aload_n hx hb dX6_thin_39 rfl (lv_at hl 1 rfl) ?_
    refine p_get (v := .ref y24) hx hb hts inX6 hown hK hP hLp0 hKp0 rfl rfl 6 (by decide) (hts _ pq355) (congrArg (fun q => some (va_rf q)) ey24) dX6_thin_40 ?_
    refine p_get hx hb hts inX3 hown hK hP hLy24 hKy24 rfl rfl 3 (by decide) (hts _ pq132) rfl dX6_thin_43 ?_
    refine lv_topi (fun z43 ez43 => ?_)
    have ea : fm Q (an Q p0) p1.toInt.toNat = y18 := by rw [show an Q p0 = y11 from gd_of ey11]; exact fm_of ey14 ey18
    have esk : sk_ Q p0 = y24 := gd_of ey24
    have rs : ∀ σ : Sx, cxA Q0 I J p0 σ → mK σ p1 ∧ cxA Q Iz36 Jz36 p0 σ ∧ cxM Q Iz36 Jz36 (sk_ Q p0) (mW σ p1) (mH σ p1) (mkw (thinD (mF σ p1))) ∧ okm (mW σ p1).toInt (mH σ p1).toInt (mkw (thinD (mF σ p1))) ∧ z43.toInt = (totr (mkw (thinD (mF σ p1))) 40 : Int) ∧ z19.toInt = (totr (mF σ p1) 40 : Int) := fun σ h => by have A0 := rx0 σ h; have ec := A0.1.1.2.1; have hm : mK σ p1 := (by have q := xpz2.1 t5; rw [ec] at q; exact q); have G1 := th_fin A0 hm ea jz36; have c := cxA_m A0 hm; have e1 := G1.1.2.2.2.1; have e2 := c.1.2.2.2.1; rw [ea] at e2; rw [← ez43] at e1; rw [← ez19] at e2; exact ⟨hm, cxA_sk hQ hLp0 hKp0 hKy24 (by omega) frc36 djc36 A0, by rw [esk]; exact G1.1, G1.2, e1, e2⟩
    refine lv_iload_n hx hb dX6_thin_46 rfl (lv_at hl 0 rfl) ?_
    refine lv_icmp_ne (tgt := 53) hx hb dX6_thin_47 (by decide) (fun c47 => ?_) (fun c47 => ?_)
    · have t47 := tq_ne (k := z43.toInt) (q := z19.toInt) c47 rfl rfl
      refine lv_aload_n hx hb dX6_thin_53 rfl (lv_at hl 1 rfl) ?_
      refine lv_iload_n hx hb dX6_thin_54 rfl (lv_at hl 2 rfl) ?_
      refine sa_v (va_runV (As := [.int p1]) (rest := []) ⟨hx, hb, hml, hown, hts⟩ (s_X6_actBySketch l dC dI cs L K G Q hQ x0 m0 tx tm hx0 hm0 H.size Iz36 Jz36 hIz36 p0 hLp0 hKp0 p1 ⟨by omega, by omega⟩) (cwV 1 hts (gV pq687 pq689 pq5 pq74 pq690) rfl rfl rfl (by decide +kernel) ⟨(by rw [hR]; exact (Nat.le_of_ble_eq_true rfl)), (by rw [hR]; exact (Nat.le_of_ble_eq_true rfl))⟩) (sP_V hP hD hK hN hLp0 hKp0 rfl rfl) rfl rfl hl.1 rfl (lv_room (Nat.le_of_ble_eq_true rfl)) dX6_thin_55 ⟨(by rw [hR]; exact (Nat.le_of_ble_eq_true rfl)), (by rw [hR]; exact (Nat.le_of_ble_eq_true rfl))⟩) hS hAL hA (fun L K G Q Iz55 Jz55 H locs hz55 hE hQn hIz55 hDn hALn hP zp55 hS => ?_)
      obtain ⟨rz55, dnc55, djc55⟩ := zp55
      have dn_Iz55 : (∀ b, b ∈ L0 → (K0 b = 7 ∨ K0 b = 18 ∨ K0 b = 19 ∨ K0 b = 20 ∨ K0 b = 24) → Iz55 b = I b) := fun b hb hc => (dnc55 b (hX b hb).1 (by have w := (hX b hb).2.1; omega)).trans (dn_Iz36 b hb hc)
      have dj_Jz55 : (∀ b, b ∈ L0 → ¬ (K0 b = 12) → Jz55 b = J b) := fun b hb hc => (djc55 b (hX b hb).1 (fun z => hc (by have w1 := (hX b hb).2.1; have w2 := (hX b hb).2.2.1; rw [w1] at z; first | exact z | exact z.1))).trans (dj_Jz36 b hb hc)
      have hKp0 := (hE p0 hLp0).2.1.trans hKp0
      have hLp0 := (hE p0 hLp0).1
      have hx0 := (hE x0 hx0).1
      have hm0 := (hE m0 hm0).1
      have hX := extW_trans hX hE
      have hQ := hQn
      have hD := hDn
      have hAL := hALn
      refine W.widen (k := 29) (n := 807) (Nat.le_of_ble_eq_true rfl) (Nat.le_of_ble_eq_true rfl) ?_
      refine lv_iload_n hx hb dX6_thin_58 rfl (lv_at hl 0 rfl) ?_
      refine lv_aload_n hx hb dX6_thin_59 rfl (lv_at hl 1 rfl) ?_
      obtain ⟨y60, ey60, hLy60, hKy60, hGy60⟩ := oQ_6_6 (Sv_at hQ hLp0 hKp0)
      refine p_get (v := .ref y60) hx hb hts inX6 hown hK hP hLp0 hKp0 rfl rfl 6 (by decide) (hts _ pq355) (congrArg (fun q => some (va_rf q)) ey60) dX6_thin_60 ?_
      refine p_get hx hb hts inX3 hown hK hP hLy60 hKy60 rfl rfl 3 (by decide) (hts _ pq132) rfl dX6_thin_63 ?_
      refine lv_topi (fun z63 ez63 => ?_)
      have e62 : z63 = z43 := by rw [ez63, ← show sk_ Q p0 = y60 from gd_of ey60, rz55.2, esk]; exact ez43.symm
      refine lv_isub hx hb dX6_thin_66 ?_
      refine lv_topi (fun z66 ez66 => ?_)
      subst hR; subst hQz
      exact W.iret (v := z66) hx hb hr (fun t ht hW => ⟨⟨z66, (), rfl, (fun σ h => by obtain ⟨hm, A1, c1, o1, e1, e2⟩ := rs σ h; have b1 := totr_b (mkw (thinD (mF σ p1))); have b2 := totr_b (mF σ p1); have q := tq_sub (k := z19.toInt) (q := z63.toInt) ez66 rfl rfl (by rw [e62]; omega) (by rw [e62]; omega); rw [ch_y hm (by omega), q, e62, e1, e2]; rfl), ⟨L, K, G, Q, Iz55, Jz55, hX, hQ, hIz55, fun F => (hD F).weaken (fun _ _ _ _ => trivial), fun q h => hAe2 q (hAL q h), by rw [ht]; exact hP, ⟨(fun σ h => by obtain ⟨hm, A1, c1, o1, e1, e2⟩ := rs σ h; rw [ch_y hm (by omega)]; exact rz55.1 σ _ _ _ A1 o1 c1), dn_Iz55, dj_Jz55⟩⟩⟩, hS.F ht⟩) hS.2.2 dX6_thin_67
    · have t47 := tq_eq (k := z43.toInt) (q := z19.toInt) c47 rfl rfl
      refine lv_bipush (v := (-2)) hx hb dX6_thin_50 (by decide +kernel) ?_
      subst hR; subst hQz
      refine W.widen (k := 29) (n := 807) (Nat.le_of_ble_eq_true rfl) (Nat.le_of_ble_eq_true rfl) ?_
      exact W.iret (v := (-2)) hx hb hr (fun t ht hW => ⟨⟨(-2), (), rfl, (fun σ h => by obtain ⟨hm, A1, c1, o1, e1, e2⟩ := rs σ h; rw [ch_e hm (by omega)]; show (-2 : Int32).toInt = -2; decide +kernel), ⟨L, K, G, Q, Iz36, Jz36, hX, hQ, hIz36, fun F => (hD F).weaken (fun _ _ _ _ => trivial), fun q h => hAe2 q (hAL q h), by rw [ht]; exact hP, ⟨(fun σ h => by obtain ⟨hm, A1, c1, o1, e1, e2⟩ := rs σ h; rw [ch_e hm (by omega)]; exact A1), dn_Iz36, dj_Jz36⟩⟩⟩, hS.F ht⟩) hS.2.2 dX6_thin_52
  · have t5 := tq_eq (k := z2.toInt) (q := (0)) c5 rfl (by decide +kernel)
    refine lv_iconst (v := (-1)) hx hb dX6_thin_8 (by decide +kernel) ?_
    subst hR; subst hQz
    refine W.widen (k := 29) (n := 807) (Nat.le_of_ble_eq_true rfl) (Nat.le_of_ble_eq_true rfl) ?_
    exact W.iret (v := (-1)) hx hb hr (fun t ht hW => ⟨⟨(-1), (), rfl, (fun σ h => by have ec := (rx0 σ h).1.1.2.1; rw [ch_n (fun q => xpz2.2 t5 (by rw [ec]; exact q))]; show (-1 : Int32).toInt = -1; decide +kernel), ⟨L, K, G, Q, I, J, hX, hQ, hI, fun F => (hD F).weaken (fun _ _ _ _ => trivial), fun q h => hAe2 q (hAL q h), by rw [ht]; exact hP, ⟨(fun σ h => by have A0 := rx0 σ h; have ec := A0.1.1.2.1; rw [ch_n (fun q => xpz2.2 t5 (by rw [ec]; exact q))]; exact A0), dn_I, dj_J⟩⟩⟩, hS.F ht⟩) hS.2.2 dX6_thin_9

set_option maxHeartbeats 4000000 in
set_option maxRecDepth 100000 in
theorem s_X6_join (l : Launch) (dC : Nat → ClassId) (dI : Nat → Nat → Nat) (cs : Nat → ClassId) (L0 : List Nat) (K0 G0 : Nat → Nat) (Q0 : Nat → Nat → Option Nat) (hQ : Sv L0 K0 G0 Q0) (x0 m0 : Nat) (tx : GT) (tm : GT × Int) (hx0 : x0 ∈ L0) (hm0 : m0 ∈ L0) (sz : Nat) (I : Nat → Nat → Int32) (J : Nat → Nat → Int64) (hI : Iv L0 K0 x0 m0 tx tm I) (p0 : Nat) (hLp0 : p0 ∈ L0) (hKp0 : K0 p0 = 6) (p1 : Int32) (p2 : Int32) (p3 : Int32) (p4 : Int32) (p5 : Int32) : Met l yX6_join (.code yX6_join cX6_join 6 (some .int) :: pw) ({ frames := 6, cells := 29, slots := 807, locals := 152 }) (sP (dC, dI) cs [.ref p0, .int p1, .int p2, .int p3, .int p4, .int p5] sz L0 K0 I J Q0) (va_Qi (fun (r : Int32) (_ : Unit) => (∀ σ : Sx, cxA Q0 I J p0 σ → r.toInt = (jnA σ p1 p2 p3 p4 p5).1)) (fun _ t => sA (dC, dI) cs L0 K0 G0 Q0 x0 m0 tx tm sz (fun L K G Q I1 J1 => (∀ σ : Sx, cxA Q0 I J p0 σ → cxA Q I1 J1 p0 (jnA σ p1 p2 p3 p4 p5).2) ∧ (∀ b, b ∈ L0 → (K0 b = 7 ∨ K0 b = 18 ∨ K0 b = 19 ∨ K0 b = 20 ∨ K0 b = 24) → I1 b = I b) ∧ (∀ b, b ∈ L0 → ¬ (K0 b = 12) → J1 b = J b)) t) (fun q => q ∈ L0 ∨ sz ≤ q)) 29 807 (fun q => q ∈ L0 ∨ sz ≤ q) := by
  refine Met.ofW (cc := cX6_join) (maxL := 6) (ret := (some .int)) (by decide +kernel) rfl ?_
  intro p e s m args below meth c s₁ B hml hv
  obtain ⟨rfl, hsz, hP, hK, hD0, hN⟩ := hv
  have hx := B.exec
  have hb := B.bytes
  have hr := B.returns
  have hts := fun w (h : w ∈ pw) => atoms_spec (ws := Cond.code yX6_join cX6_join 6 (some .int) :: pw) B.pre w (List.mem_cons_of_mem _ h)
  have hown : s.vm.findClass RX6 = some m.cls := findClass_of_methodNamed B.named
  have hlocks := B.notSynchronized
  subst hsz
  have hBB : 999 ≤ tm.2 ∧ tm.2 ≤ 6000000 := hI.2.2.2.2.1
  have dn_I : (∀ b, b ∈ L0 → (K0 b = 7 ∨ K0 b = 18 ∨ K0 b = 19 ∨ K0 b = 20 ∨ K0 b = 24) → I b = I b) := fun _ _ _ => rfl
  have dj_J : (∀ b, b ∈ L0 → ¬ (K0 b = 12) → J b = J b) := fun _ _ _ => rfl
  obtain ⟨A, hAe⟩ : ∃ A : Nat → Prop, A = (fun q => q ∈ L0 ∨ s.heap.size ≤ q) := ⟨_, rfl⟩
  rw [← hAe]
  have hAL : ∀ q, q ∈ L0 → A q := fun q h => by rw [hAe]; exact Or.inl h
  have hA : ∀ q, s.heap.size ≤ q → A q := fun q h => by rw [hAe]; exact Or.inr h
  have hD : ∀ F, va_D A (va_pl L0 F) := fun F => (hD0 F).weaken (fun k q hk _ => hAL _ (pl_mem hk))
  obtain ⟨H, hHe⟩ : ∃ H : Heap, H = s.heap := ⟨_, rfl⟩
  have hS : va_S A s.heap H [] := by rw [hHe]; exact va_S.rf
  rw [← hHe] at hP
  have hl := lv_entry ([.ref p0, .int p1, .int p2, .int p3, .int p4, .int p5]) (n := 6) (Nat.le_of_ble_eq_true rfl)
  rw [lg_entry_eq]
  generalize (lg_sl ([.ref p0, .int p1, .int p2, .int p3, .int p4, .int p5]) ++ List.replicate (6 - (lg_sl ([.ref p0, .int p1, .int p2, .int p3, .int p4, .int p5])).length) Slot.unset).toArray = ls at hl ⊢
  have hl : lv_has ls 6 [(0, .ref p0), (1, .int p1), (2, .int p2), (3, .int p3), (4, .int p4), (5, .int p5)] := hl
  rw [← hHe]
  refine namedW (fun R Qz hR hQz => ?_)
  have hAe2 : ∀ q, A q → q ∈ L0 ∨ H.size ≤ q := fun q h => by rw [hHe]; rw [hAe] at h; exact h
  have hQ0 := hQ
  have hK0p0 := hKp0
  have hL0p0 := hLp0
  obtain ⟨L, K, G, Q, hX, hQ, hI, hP, hD, hAL, hx0, hm0, hLp0, hKp0, rx0⟩ : ∃ L K G Q, extW L0 K0 G0 Q0 L K G Q ∧ Sv L K G Q ∧ Iv L K x0 m0 tx tm I ∧ va_P (dC, dI) vwCl (Wd cs L K I J Q) H ∧ (∀ F, va_D A (va_pl L F)) ∧ (∀ q, q ∈ L → A q) ∧ x0 ∈ L ∧ m0 ∈ L ∧ p0 ∈ L ∧ K p0 = 6 ∧ (∀ σ : Sx, cxA Q0 I J p0 σ → cxA Q I J p0 σ) := ⟨L0, K0, G0, Q0, extW_refl, hQ, hI, hP, hD, hAL, hx0, hm0, hLp0, hKp0, fun _ h => h⟩
  refine lv_aload_n hx hb dX6_join_0 rfl (lv_at hl 0 rfl) ?_
  refine lv_iload_n hx hb dX6_join_1 rfl (lv_at hl 1 rfl) ?_
  refine ro_i (va_runV (As := [.int p1]) (rest := []) ⟨hx, hb, hml, hown, hts⟩ (s_X6_isMask l dC dI cs L K G Q hQ x0 m0 tx tm H.size I J hI p0 hLp0 hKp0 p1) (cwV 1 hts (gV pq666 pq668 pq4 pq74 pq669) rfl rfl rfl (by decide +kernel) ⟨(by rw [hR]; exact (Nat.le_of_ble_eq_true rfl)), (by rw [hR]; exact (Nat.le_of_ble_eq_true rfl))⟩) (sP_V hP hD hK hN hLp0 hKp0 rfl rfl) rfl rfl hl.1 rfl (lv_room (Nat.le_of_ble_eq_true rfl)) dX6_join_2 ⟨(by rw [hR]; exact (Nat.le_of_ble_eq_true rfl)), (by rw [hR]; exact (Nat.le_of_ble_eq_true rfl))⟩) hS hP (fun z2 H locs hz2 hP hS => ?_)
  obtain ⟨bz2, imz2, xpz2⟩ := hz2
  refine lv_if_eq (tgt := 44) hx hb dX6_join_5 (by decide) (fun c5 => ?_) (fun c5 => ?_)
  · have t5 := tq_eq (k := z2.toInt) (q := (0)) c5 rfl (by decide +kernel)
    refine lv_iconst (v := (-1)) hx hb dX6_join_44 (by decide +kernel) ?_
    subst hR; subst hQz
    refine W.widen (k := 29) (n := 807) (Nat.le_of_ble_eq_true rfl) (Nat.le_of_ble_eq_true rfl) ?_
    exact W.iret (v := (-1)) hx hb hr (fun t ht hW => ⟨⟨(-1), (), rfl, (fun σ h => by have ec := (rx0 σ h).1.1.2.1; rw [jn_n (fun q => by unfold jnC at q; first | exact xpz2.2 t5 (by rw [ec]; exact q.1) | exact xpz10.2 t13 (by rw [ec]; exact q.2.1) | exact xpz19 t22 q.2.2.1 | exact xpz29 t32 q.2.2.2.1 | exact xpz38 t41 q.2.2.2.2)]; show (-1 : Int32).toInt = -1; decide +kernel), ⟨L, K, G, Q, I, J, hX, hQ, hI, fun F => (hD F).weaken (fun _ _ _ _ => trivial), fun q h => hAe2 q (hAL q h), by rw [ht]; exact hP, ⟨(fun σ h => by have A0 := rx0 σ h; have ec := A0.1.1.2.1; rw [jn_n (fun q => by unfold jnC at q; first | exact xpz2.2 t5 (by rw [ec]; exact q.1) | exact xpz10.2 t13 (by rw [ec]; exact q.2.1) | exact xpz19 t22 q.2.2.1 | exact xpz29 t32 q.2.2.2.1 | exact xpz38 t41 q.2.2.2.2)]; exact A0), dn_I, dj_J⟩⟩⟩, hS.F ht⟩) hS.2.2 dX6_join_45
  · have t5 := tq_ne (k := z2.toInt) (q := (0)) c5 rfl (by decide +kernel)
    have i5 := imz2 t5
    refine lv_aload_n hx hb dX6_join_8 rfl (lv_at hl 0 rfl) ?_
    refine lv_iload_n hx hb dX6_join_9 rfl (lv_at hl 2 rfl) ?_
    refine ro_i (va_runV (As := [.int p2]) (rest := []) ⟨hx, hb, hml, hown, hts⟩ (s_X6_isMask l dC dI cs L K G Q hQ x0 m0 tx tm H.size I J hI p0 hLp0 hKp0 p2) (cwV 1 hts (gV pq666 pq668 pq4 pq74 pq669) rfl rfl rfl (by decide +kernel) ⟨(by rw [hR]; exact (Nat.le_of_ble_eq_true rfl)), (by rw [hR]; exact (Nat.le_of_ble_eq_true rfl))⟩) (sP_V hP hD hK hN hLp0 hKp0 rfl rfl) rfl rfl hl.1 rfl (lv_room (Nat.le_of_ble_eq_true rfl)) dX6_join_10 ⟨(by rw [hR]; exact (Nat.le_of_ble_eq_true rfl)), (by rw [hR]; exact (Nat.le_of_ble_eq_true rfl))⟩) hS hP (fun z10 H locs hz10 hP hS => ?_)
    obtain ⟨bz10, imz10, xpz10⟩ := hz10
    refine lv_if_eq (tgt := 44) hx hb dX6_join_13 (by decide) (fun c13 => ?_) (fun c13 => ?_)
    · have t13 := tq_eq (k := z10.toInt) (q := (0)) c13 rfl (by decide +kernel)
      refine lv_iconst (v := (-1)) hx hb dX6_join_44 (by decide +kernel) ?_
      subst hR; subst hQz
      refine W.widen (k := 29) (n := 807) (Nat.le_of_ble_eq_true rfl) (Nat.le_of_ble_eq_true rfl) ?_
      exact W.iret (v := (-1)) hx hb hr (fun t ht hW => ⟨⟨(-1), (), rfl, (fun σ h => by have ec := (rx0 σ h).1.1.2.1; rw [jn_n (fun q => by unfold jnC at q; first | exact xpz2.2 t5 (by rw [ec]; exact q.1) | exact xpz10.2 t13 (by rw [ec]; exact q.2.1) | exact xpz19 t22 q.2.2.1 | exact xpz29 t32 q.2.2.2.1 | exact xpz38 t41 q.2.2.2.2)]; show (-1 : Int32).toInt = -1; decide +kernel), ⟨L, K, G, Q, I, J, hX, hQ, hI, fun F => (hD F).weaken (fun _ _ _ _ => trivial), fun q h => hAe2 q (hAL q h), by rw [ht]; exact hP, ⟨(fun σ h => by have A0 := rx0 σ h; have ec := A0.1.1.2.1; rw [jn_n (fun q => by unfold jnC at q; first | exact xpz2.2 t5 (by rw [ec]; exact q.1) | exact xpz10.2 t13 (by rw [ec]; exact q.2.1) | exact xpz19 t22 q.2.2.1 | exact xpz29 t32 q.2.2.2.1 | exact xpz38 t41 q.2.2.2.2)]; exact A0), dn_I, dj_J⟩⟩⟩, hS.F ht⟩) hS.2.2 dX6_join_45
    · have t13 := tq_ne (k := z10.toInt) (q := (0)) c13 rfl (by decide +kernel)
      have i13 := imz10 t13
      refine lv_iload_n hx hb dX6_join_16 rfl (lv_at hl 3 rfl) ?_
      refine lv_bipush (v := 99) hx hb dX6_join_17 (by decide +kernel) ?_
      refine ro_i (va_runS (As := [.int p3, .int 99]) (rest := []) ⟨hx, hb, hml, hown, hts⟩ (s_X6_isWithin l dC dI cs L K G Q hQ x0 m0 tx tm H.size I J hI p3 99 ⟨by decide +kernel, by decide +kernel⟩) (va_cwS 2 hts (gS pq640 pq641 pq74 pq642) rfl rfl rfl (by decide +kernel) ⟨(by rw [hR]; exact (Nat.le_of_ble_eq_true rfl)), (by rw [hR]; exact (Nat.le_of_ble_eq_true rfl))⟩) (sP_S hP hD hK hN) rfl rfl hl.1 rfl (lv_room (Nat.le_of_ble_eq_true rfl)) dX6_join_19 ⟨(by rw [hR]; exact (Nat.le_of_ble_eq_true rfl)), (by rw [hR]; exact (Nat.le_of_ble_eq_true rfl))⟩) hS hP (fun z19 H locs hz19 hP hS => ?_)
      have cst19_99 : (99 : Int32).toInt = 99 := by decide +kernel
      obtain ⟨bz19, imz19, xpz19⟩ := hz19
      try rw [cst19_99] at xpz19
      refine lv_if_eq (tgt := 44) hx hb dX6_join_22 (by decide) (fun c22 => ?_) (fun c22 => ?_)
      · have t22 := tq_eq (k := z19.toInt) (q := (0)) c22 rfl (by decide +kernel)
        refine lv_iconst (v := (-1)) hx hb dX6_join_44 (by decide +kernel) ?_
        subst hR; subst hQz
        refine W.widen (k := 29) (n := 807) (Nat.le_of_ble_eq_true rfl) (Nat.le_of_ble_eq_true rfl) ?_
        exact W.iret (v := (-1)) hx hb hr (fun t ht hW => ⟨⟨(-1), (), rfl, (fun σ h => by have ec := (rx0 σ h).1.1.2.1; rw [jn_n (fun q => by unfold jnC at q; first | exact xpz2.2 t5 (by rw [ec]; exact q.1) | exact xpz10.2 t13 (by rw [ec]; exact q.2.1) | exact xpz19 t22 q.2.2.1 | exact xpz29 t32 q.2.2.2.1 | exact xpz38 t41 q.2.2.2.2)]; show (-1 : Int32).toInt = -1; decide +kernel), ⟨L, K, G, Q, I, J, hX, hQ, hI, fun F => (hD F).weaken (fun _ _ _ _ => trivial), fun q h => hAe2 q (hAL q h), by rw [ht]; exact hP, ⟨(fun σ h => by have A0 := rx0 σ h; have ec := A0.1.1.2.1; rw [jn_n (fun q => by unfold jnC at q; first | exact xpz2.2 t5 (by rw [ec]; exact q.1) | exact xpz10.2 t13 (by rw [ec]; exact q.2.1) | exact xpz19 t22 q.2.2.1 | exact xpz29 t32 q.2.2.2.1 | exact xpz38 t41 q.2.2.2.2)]; exact A0), dn_I, dj_J⟩⟩⟩, hS.F ht⟩) hS.2.2 dX6_join_45
      · have t22 := tq_ne (k := z19.toInt) (q := (0)) c22 rfl (by decide +kernel)
        have i22 := imz19 t22
        refine lv_iload hx hb dX6_join_25 (lv_at hl 4 rfl) ?_
        refine lv_bipush (v := 99) hx hb dX6_join_27 (by decide +kernel) ?_
        refine ro_i (va_runS (As := [.int p4, .int 99]) (rest := []) ⟨hx, hb, hml, hown, hts⟩ (s_X6_isWithin l dC dI cs L K G Q hQ x0 m0 tx tm H.size I J hI p4 99 ⟨by decide +kernel, by decide +kernel⟩) (va_cwS 2 hts (gS pq640 pq641 pq74 pq642) rfl rfl rfl (by decide +kernel) ⟨(by rw [hR]; exact (Nat.le_of_ble_eq_true rfl)), (by rw [hR]; exact (Nat.le_of_ble_eq_true rfl))⟩) (sP_S hP hD hK hN) rfl rfl hl.1 rfl (lv_room (Nat.le_of_ble_eq_true rfl)) dX6_join_29 ⟨(by rw [hR]; exact (Nat.le_of_ble_eq_true rfl)), (by rw [hR]; exact (Nat.le_of_ble_eq_true rfl))⟩) hS hP (fun z29 H locs hz29 hP hS => ?_)
        have cst29_99 : (99 : Int32).toInt = 99 := by decide +kernel
        obtain ⟨bz29, imz29, xpz29⟩ := hz29
        try rw [cst29_99] at xpz29
        refine lv_if_eq (tgt := 44) hx hb dX6_join_32 (by decide) (fun c32 => ?_) (fun c32 => ?_)
        · have t32 := tq_eq (k := z29.toInt) (q := (0)) c32 rfl (by decide +kernel)
          refine lv_iconst (v := (-1)) hx hb dX6_join_44 (by decide +kernel) ?_
          subst hR; subst hQz
          refine W.widen (k := 29) (n := 807) (Nat.le_of_ble_eq_true rfl) (Nat.le_of_ble_eq_true rfl) ?_
          exact W.iret (v := (-1)) hx hb hr (fun t ht hW => ⟨⟨(-1), (), rfl, (fun σ h => by have ec := (rx0 σ h).1.1.2.1; rw [jn_n (fun q => by unfold jnC at q; first | exact xpz2.2 t5 (by rw [ec]; exact q.1) | exact xpz10.2 t13 (by rw [ec]; exact q.2.1) | exact xpz19 t22 q.2.2.1 | exact xpz29 t32 q.2.2.2.1 | exact xpz38 t41 q.2.2.2.2)]; show (-1 : Int32).toInt = -1; decide +kernel), ⟨L, K, G, Q, I, J, hX, hQ, hI, fun F => (hD F).weaken (fun _ _ _ _ => trivial), fun q h => hAe2 q (hAL q h), by rw [ht]; exact hP, ⟨(fun σ h => by have A0 := rx0 σ h; have ec := A0.1.1.2.1; rw [jn_n (fun q => by unfold jnC at q; first | exact xpz2.2 t5 (by rw [ec]; exact q.1) | exact xpz10.2 t13 (by rw [ec]; exact q.2.1) | exact xpz19 t22 q.2.2.1 | exact xpz29 t32 q.2.2.2.1 | exact xpz38 t41 q.2.2.2.2)]; exact A0), dn_I, dj_J⟩⟩⟩, hS.F ht⟩) hS.2.2 dX6_join_45
        · have t32 := tq_ne (k := z29.toInt) (q := (0)) c32 rfl (by decide +kernel)
          have i32 := imz29 t32
          refine lv_iload hx hb dX6_join_35 (lv_at hl 5 rfl) ?_
          refine lv_iconst (v := 3) hx hb dX6_join_37 (by decide +kernel) ?_
          refine ro_i (va_runS (As := [.int p5, .int 3]) (rest := []) ⟨hx, hb, hml, hown, hts⟩ (s_X6_isFrom0To l dC dI cs L K G Q hQ x0 m0 tx tm H.size I J hI p5 3) (va_cwS 2 hts (gS pq651 pq652 pq74 pq653) rfl rfl rfl (by decide +kernel) ⟨(by rw [hR]; exact (Nat.le_of_ble_eq_true rfl)), (by rw [hR]; exact (Nat.le_of_ble_eq_true rfl))⟩) (sP_S hP hD hK hN) rfl rfl hl.1 rfl (lv_room (Nat.le_of_ble_eq_true rfl)) dX6_join_38 ⟨(by rw [hR]; exact (Nat.le_of_ble_eq_true rfl)), (by rw [hR]; exact (Nat.le_of_ble_eq_true rfl))⟩) hS hP (fun z38 H locs hz38 hP hS => ?_)
          have cst38_3 : (3 : Int32).toInt = 3 := by decide +kernel
          obtain ⟨bz38, imz38, xpz38⟩ := hz38
          try rw [cst38_3] at xpz38
          refine lv_if_ne (tgt := 46) hx hb dX6_join_41 (by decide) (fun c41 => ?_) (fun c41 => ?_)
          · have t41 := tq_ne (k := z38.toInt) (q := (0)) c41 rfl (by decide +kernel)
            have i41 := imz38 t41
            refine lv_aload_n hx hb dX6_join_46 rfl (lv_at hl 0 rfl) ?_
            obtain ⟨y47, ey47, hLy47, hKy47, hGy47⟩ := oQ_6_6 (Sv_at hQ hLp0 hKp0)
            refine p_get (v := .ref y47) hx hb hts inX6 hown hK hP hLp0 hKp0 rfl rfl 6 (by decide) (hts _ pq355) (congrArg (fun q => some (va_rf q)) ey47) dX6_join_47 ?_
            refine lv_aload_n hx hb dX6_join_50 rfl (lv_at hl 0 rfl) ?_
            obtain ⟨y51, ey51, hLy51, hKy51, hGy51⟩ := oQ_6_2 (Sv_at hQ hLp0 hKp0)
            refine p_get (v := .ref y51) hx hb hts inX6 hown hK hP hLp0 hKp0 rfl rfl 2 (by decide) (hts _ pq351) (congrArg (fun q => some (va_rf q)) ey51) dX6_join_51 ?_
            obtain ⟨y54, ey54, hLy54, hKy54, hGy54⟩ := oQ_1_0 (Sv_at hQ hLy51 hKy51)
            refine p_get (v := .ref y54) hx hb hts inX1 hown hK hP hLy51 hKy51 rfl rfl 0 (by decide) (hts _ pq216) (congrArg (fun q => some (va_rf q)) ey54) dX6_join_54 ?_
            refine lv_iload_n hx hb dX6_join_57 rfl (lv_at hl 1 rfl) ?_
            obtain ⟨y58, ey58, hLy58, hKy58, hGy58⟩ := (Sv_at hQ hLy54 hKy54).1 p1.toNatClampNeg (clamp_lt (n := 8) (in_of (by omega) (by omega)))
            have hjy58 : p1.toNatClampNeg < 8 := clamp_lt (i := p1) (n := 8) (in_of (by omega) (by omega))
            refine p_aaldR hx hb hK hP 3 hLy54 hKy54 rfl rfl (in_of (by omega) (by omega)) ey58 dX6_join_58 ?_
            refine lv_aload_n hx hb dX6_join_59 rfl (lv_at hl 0 rfl) ?_
            refine p_get (v := .ref y51) hx hb hts inX6 hown hK hP hLp0 hKp0 rfl rfl 2 (by decide) (hts _ pq351) (congrArg (fun q => some (va_rf q)) ey51) dX6_join_60 ?_
            refine p_get (v := .ref y54) hx hb hts inX1 hown hK hP hLy51 hKy51 rfl rfl 0 (by decide) (hts _ pq216) (congrArg (fun q => some (va_rf q)) ey54) dX6_join_63 ?_
            refine lv_iload_n hx hb dX6_join_66 rfl (lv_at hl 2 rfl) ?_
            obtain ⟨y67, ey67, hLy67, hKy67, hGy67⟩ := (Sv_at hQ hLy54 hKy54).1 p2.toNatClampNeg (clamp_lt (n := 8) (in_of (by omega) (by omega)))
            have hjy67 : p2.toNatClampNeg < 8 := clamp_lt (i := p2) (n := 8) (in_of (by omega) (by omega))
            refine p_aaldR hx hb hK hP 3 hLy54 hKy54 rfl rfl (in_of (by omega) (by omega)) ey67 dX6_join_67 ?_
            refine lv_iload_n hx hb dX6_join_68 rfl (lv_at hl 3 rfl) ?_
            refine lv_iload hx hb dX6_join_69 (lv_at hl 4 rfl) ?_
            refine lv_iload hx hb dX6_join_71 (lv_at hl 5 rfl) ?_
            refine sw_v (Z := (fun I1 J1 => Iv L K x0 m0 tx tm I1 ∧ (∀ b, ¬ (b = y47) → I1 b = I b) ∧ (okm (I y58 0).toInt (I y58 1).toInt (J (wo Q y58)) → okm (I y67 0).toInt (I y67 1).toInt (J (wo Q y67)) → mkd Q I1 J1 y47 (I y58 0) (I y58 1) (joinD (I y58 0).toInt (I y58 1).toInt (J (wo Q y58)) (J (wo Q y67)) p3.toInt p4.toInt p5.toInt)) ∧ (∀ b, ¬ (K b = 12 ∧ (G b = G y47)) → J1 b = J b))) (va_runV (As := [.ref y58, .ref y67, .int p3, .int p4, .int p5]) (rest := []) ⟨hx, hb, hml, hown, hts⟩ (s_X3_becomeJoined l dC dI cs L K G Q hQ x0 m0 tx tm H.size I J hI y47 hLy47 hKy47 y58 hLy58 hKy58 y67 hLy67 hKy67 p3 ⟨by omega, by omega⟩ p4 ⟨by omega, by omega⟩ p5 ⟨by omega, by omega⟩ (by omega) (by omega)) (cwV 5 hts (gV pq704 pq705 pq706 pq76 pq707) rfl rfl rfl (by decide +kernel) ⟨(by rw [hR]; exact (Nat.le_of_ble_eq_true rfl)), (by rw [hR]; exact (Nat.le_of_ble_eq_true rfl))⟩) (sP_V hP hD hK hN hLy47 hKy47 rfl rfl) rfl rfl hl.1 rfl (lv_room (Nat.le_of_ble_eq_true rfl)) dX6_join_73 ⟨(by rw [hR]; exact (Nat.le_of_ble_eq_true rfl)), (by rw [hR]; exact (Nat.le_of_ble_eq_true rfl))⟩) hS hAL hA (fun Iz73 Jz73 H locs hz73 hIz73 hP hS => ?_)
            obtain ⟨hIz73, frc73, jz73, djc73⟩ := hIz73
            have dj_Jz73 : (∀ b, b ∈ L0 → ¬ (K0 b = 12) → Jz73 b = J b) := fun b hb hc => (djc73 b (fun z => hc (by have w1 := (hX b hb).2.1; have w2 := (hX b hb).2.2.1; rw [w1] at z; exact z.1))).trans (dj_J b hb hc)
            have dn_Iz73 : (∀ b, b ∈ L0 → (K0 b = 7 ∨ K0 b = 18 ∨ K0 b = 19 ∨ K0 b = 20 ∨ K0 b = 24) → Iz73 b = I b) := fun b hb hc => (frc73 b (fun z => by have w := (hX b hb).2.1; have q := hKy47; rw [← z] at q; omega)).trans (dn_I b hb hc)
            have ea : fm Q (an Q p0) p1.toInt.toNat = y58 := by rw [show an Q p0 = y51 from gd_of ey51]; exact fm_of ey54 ey58
            have eb : fm Q (an Q p0) p2.toInt.toNat = y67 := by rw [show an Q p0 = y51 from gd_of ey51]; exact fm_of ey54 ey67
            have esk : sk_ Q p0 = y47 := gd_of ey47
            have rs : ∀ σ : Sx, cxA Q0 I J p0 σ → jnC σ p1 p2 p3 p4 p5 ∧ cxA Q Iz73 Jz73 p0 σ ∧ cxM Q Iz73 Jz73 (sk_ Q p0) (mW σ p1) (mH σ p1) (jnW σ p1 p2 p3 p4 p5) ∧ okm (mW σ p1).toInt (mH σ p1).toInt (jnW σ p1 p2 p3 p4 p5) ∧ (Iz73 y47 3).toInt = (totr (jnW σ p1 p2 p3 p4 p5) 40 : Int) := fun σ h => by have A0 := rx0 σ h; have ec := A0.1.1.2.1; have hm : mK σ p1 := (by have q := xpz2.1 t5; rw [ec] at q; exact q); have ho : mK σ p2 := (by have q := xpz10.1 t13; rw [ec] at q; exact q); have G1 := jn_fin A0 hm ho ea eb jz73; exact ⟨⟨hm, ho, ⟨by omega, by omega⟩, ⟨by omega, by omega⟩, ⟨by omega, by omega⟩⟩, cxA_sk hQ hLp0 hKp0 hKy47 (by omega) frc73 djc73 A0, by rw [esk]; exact G1.1, G1.2, G1.1.2.2.2.1⟩
            refine lv_aload_n hx hb dX6_join_76 rfl (lv_at hl 0 rfl) ?_
            refine lv_iload_n hx hb dX6_join_77 rfl (lv_at hl 1 rfl) ?_
            refine sa_v (va_runV (As := [.int p1]) (rest := []) ⟨hx, hb, hml, hown, hts⟩ (s_X6_actBySketch l dC dI cs L K G Q hQ x0 m0 tx tm hx0 hm0 H.size Iz73 Jz73 hIz73 p0 hLp0 hKp0 p1 ⟨by omega, by omega⟩) (cwV 1 hts (gV pq687 pq689 pq5 pq74 pq690) rfl rfl rfl (by decide +kernel) ⟨(by rw [hR]; exact (Nat.le_of_ble_eq_true rfl)), (by rw [hR]; exact (Nat.le_of_ble_eq_true rfl))⟩) (sP_V hP hD hK hN hLp0 hKp0 rfl rfl) rfl rfl hl.1 rfl (lv_room (Nat.le_of_ble_eq_true rfl)) dX6_join_78 ⟨(by rw [hR]; exact (Nat.le_of_ble_eq_true rfl)), (by rw [hR]; exact (Nat.le_of_ble_eq_true rfl))⟩) hS hAL hA (fun L K G Q Iz78 Jz78 H locs hz78 hE hQn hIz78 hDn hALn hP zp78 hS => ?_)
            obtain ⟨rz78, dnc78, djc78⟩ := zp78
            have dn_Iz78 : (∀ b, b ∈ L0 → (K0 b = 7 ∨ K0 b = 18 ∨ K0 b = 19 ∨ K0 b = 20 ∨ K0 b = 24) → Iz78 b = I b) := fun b hb hc => (dnc78 b (hX b hb).1 (by have w := (hX b hb).2.1; omega)).trans (dn_Iz73 b hb hc)
            have dj_Jz78 : (∀ b, b ∈ L0 → ¬ (K0 b = 12) → Jz78 b = J b) := fun b hb hc => (djc78 b (hX b hb).1 (fun z => hc (by have w1 := (hX b hb).2.1; have w2 := (hX b hb).2.2.1; rw [w1] at z; first | exact z | exact z.1))).trans (dj_Jz73 b hb hc)
            have hKp0 := (hE p0 hLp0).2.1.trans hKp0
            have hLp0 := (hE p0 hLp0).1
            have hx0 := (hE x0 hx0).1
            have hm0 := (hE m0 hm0).1
            have hX := extW_trans hX hE
            have hQ := hQn
            have hD := hDn
            have hAL := hALn
            refine W.widen (k := 29) (n := 807) (Nat.le_of_ble_eq_true rfl) (Nat.le_of_ble_eq_true rfl) ?_
            refine lv_aload_n hx hb dX6_join_81 rfl (lv_at hl 0 rfl) ?_
            obtain ⟨y82, ey82, hLy82, hKy82, hGy82⟩ := oQ_6_6 (Sv_at hQ hLp0 hKp0)
            refine p_get (v := .ref y82) hx hb hts inX6 hown hK hP hLp0 hKp0 rfl rfl 6 (by decide) (hts _ pq355) (congrArg (fun q => some (va_rf q)) ey82) dX6_join_82 ?_
            refine p_get hx hb hts inX3 hown hK hP hLy82 hKy82 rfl rfl 3 (by decide) (hts _ pq132) rfl dX6_join_85 ?_
            refine lv_topi (fun z85 ez85 => ?_)
            subst hR; subst hQz
            exact W.iret (v := z85) hx hb hr (fun t ht hW => ⟨⟨z85, (), rfl, (fun σ h => by obtain ⟨hm, A1, c1, o1, e1⟩ := rs σ h; rw [jn_y hm, ← e1, ez85, ← show sk_ Q p0 = y82 from gd_of ey82, rz78.2, esk]), ⟨L, K, G, Q, Iz78, Jz78, hX, hQ, hIz78, fun F => (hD F).weaken (fun _ _ _ _ => trivial), fun q h => hAe2 q (hAL q h), by rw [ht]; exact hP, ⟨(fun σ h => by obtain ⟨hm, A1, c1, o1, e1⟩ := rs σ h; rw [jn_y hm]; exact rz78.1 σ _ _ _ A1 o1 c1), dn_Iz78, dj_Jz78⟩⟩⟩, hS.F ht⟩) hS.2.2 dX6_join_88
          · have t41 := tq_eq (k := z38.toInt) (q := (0)) c41 rfl (by decide +kernel)
            refine lv_iconst (v := (-1)) hx hb dX6_join_44 (by decide +kernel) ?_
            subst hR; subst hQz
            refine W.widen (k := 29) (n := 807) (Nat.le_of_ble_eq_true rfl) (Nat.le_of_ble_eq_true rfl) ?_
            exact W.iret (v := (-1)) hx hb hr (fun t ht hW => ⟨⟨(-1), (), rfl, (fun σ h => by have ec := (rx0 σ h).1.1.2.1; rw [jn_n (fun q => by unfold jnC at q; first | exact xpz2.2 t5 (by rw [ec]; exact q.1) | exact xpz10.2 t13 (by rw [ec]; exact q.2.1) | exact xpz19 t22 q.2.2.1 | exact xpz29 t32 q.2.2.2.1 | exact xpz38 t41 q.2.2.2.2)]; show (-1 : Int32).toInt = -1; decide +kernel), ⟨L, K, G, Q, I, J, hX, hQ, hI, fun F => (hD F).weaken (fun _ _ _ _ => trivial), fun q h => hAe2 q (hAL q h), by rw [ht]; exact hP, ⟨(fun σ h => by have A0 := rx0 σ h; have ec := A0.1.1.2.1; rw [jn_n (fun q => by unfold jnC at q; first | exact xpz2.2 t5 (by rw [ec]; exact q.1) | exact xpz10.2 t13 (by rw [ec]; exact q.2.1) | exact xpz19 t22 q.2.2.1 | exact xpz29 t32 q.2.2.2.1 | exact xpz38 t41 q.2.2.2.2)]; exact A0), dn_I, dj_J⟩⟩⟩, hS.F ht⟩) hS.2.2 dX6_join_45

set_option maxHeartbeats 4000000 in
set_option maxRecDepth 100000 in
theorem s_X6_quarter (l : Launch) (dC : Nat → ClassId) (dI : Nat → Nat → Nat) (cs : Nat → ClassId) (L0 : List Nat) (K0 G0 : Nat → Nat) (Q0 : Nat → Nat → Option Nat) (hQ : Sv L0 K0 G0 Q0) (x0 m0 : Nat) (tx : GT) (tm : GT × Int) (hx0 : x0 ∈ L0) (hm0 : m0 ∈ L0) (sz : Nat) (I : Nat → Nat → Int32) (J : Nat → Nat → Int64) (hI : Iv L0 K0 x0 m0 tx tm I) (p0 : Nat) (hLp0 : p0 ∈ L0) (hKp0 : K0 p0 = 6) (p1 : Int32) : Met l yX6_quarter (.code yX6_quarter cX6_quarter 2 (some .int) :: pw) ({ frames := 6, cells := 29, slots := 807, locals := 152 }) (sP (dC, dI) cs [.ref p0, .int p1] sz L0 K0 I J Q0) (va_Qi (fun (r : Int32) (_ : Unit) => (∀ σ : Sx, cxA Q0 I J p0 σ → r.toInt = (quA σ p1).1)) (fun _ t => sA (dC, dI) cs L0 K0 G0 Q0 x0 m0 tx tm sz (fun L K G Q I1 J1 => (∀ σ : Sx, cxA Q0 I J p0 σ → cxA Q I1 J1 p0 (quA σ p1).2) ∧ (∀ b, b ∈ L0 → (K0 b = 7 ∨ K0 b = 18 ∨ K0 b = 19 ∨ K0 b = 20 ∨ K0 b = 24) → I1 b = I b) ∧ (∀ b, b ∈ L0 → ¬ (K0 b = 12) → J1 b = J b)) t) (fun q => q ∈ L0 ∨ sz ≤ q)) 29 807 (fun q => q ∈ L0 ∨ sz ≤ q) := by
  refine Met.ofW (cc := cX6_quarter) (maxL := 2) (ret := (some .int)) (by decide +kernel) rfl ?_
  intro p e s m args below meth c s₁ B hml hv
  obtain ⟨rfl, hsz, hP, hK, hD0, hN⟩ := hv
  have hx := B.exec
  have hb := B.bytes
  have hr := B.returns
  have hts := fun w (h : w ∈ pw) => atoms_spec (ws := Cond.code yX6_quarter cX6_quarter 2 (some .int) :: pw) B.pre w (List.mem_cons_of_mem _ h)
  have hown : s.vm.findClass RX6 = some m.cls := findClass_of_methodNamed B.named
  have hlocks := B.notSynchronized
  subst hsz
  have hBB : 999 ≤ tm.2 ∧ tm.2 ≤ 6000000 := hI.2.2.2.2.1
  have dn_I : (∀ b, b ∈ L0 → (K0 b = 7 ∨ K0 b = 18 ∨ K0 b = 19 ∨ K0 b = 20 ∨ K0 b = 24) → I b = I b) := fun _ _ _ => rfl
  have dj_J : (∀ b, b ∈ L0 → ¬ (K0 b = 12) → J b = J b) := fun _ _ _ => rfl
  obtain ⟨A, hAe⟩ : ∃ A : Nat → Prop, A = (fun q => q ∈ L0 ∨ s.heap.size ≤ q) := ⟨_, rfl⟩
  rw [← hAe]
  have hAL : ∀ q, q ∈ L0 → A q := fun q h => by rw [hAe]; exact Or.inl h
  have hA : ∀ q, s.heap.size ≤ q → A q := fun q h => by rw [hAe]; exact Or.inr h
  have hD : ∀ F, va_D A (va_pl L0 F) := fun F => (hD0 F).weaken (fun k q hk _ => hAL _ (pl_mem hk))
  obtain ⟨H, hHe⟩ : ∃ H : Heap, H = s.heap := ⟨_, rfl⟩
  have hS : va_S A s.heap H [] := by rw [hHe]; exact va_S.rf
  rw [← hHe] at hP
  have hl := lv_entry ([.ref p0, .int p1]) (n := 2) (Nat.le_of_ble_eq_true rfl)
  rw [lg_entry_eq]
  generalize (lg_sl ([.ref p0, .int p1]) ++ List.replicate (2 - (lg_sl ([.ref p0, .int p1])).length) Slot.unset).toArray = ls at hl ⊢
  have hl : lv_has ls 2 [(0, .ref p0), (1, .int p1)] := hl
  rw [← hHe]
  refine namedW (fun R Qz hR hQz => ?_)
  have hAe2 : ∀ q, A q → q ∈ L0 ∨ H.size ≤ q := fun q h => by rw [hHe]; rw [hAe] at h; exact h
  have hQ0 := hQ
  have hK0p0 := hKp0
  have hL0p0 := hLp0
  obtain ⟨L, K, G, Q, hX, hQ, hI, hP, hD, hAL, hx0, hm0, hLp0, hKp0, rx0⟩ : ∃ L K G Q, extW L0 K0 G0 Q0 L K G Q ∧ Sv L K G Q ∧ Iv L K x0 m0 tx tm I ∧ va_P (dC, dI) vwCl (Wd cs L K I J Q) H ∧ (∀ F, va_D A (va_pl L F)) ∧ (∀ q, q ∈ L → A q) ∧ x0 ∈ L ∧ m0 ∈ L ∧ p0 ∈ L ∧ K p0 = 6 ∧ (∀ σ : Sx, cxA Q0 I J p0 σ → cxA Q I J p0 σ) := ⟨L0, K0, G0, Q0, extW_refl, hQ, hI, hP, hD, hAL, hx0, hm0, hLp0, hKp0, fun _ h => h⟩
  refine lv_aload_n hx hb dX6_quarter_0 rfl (lv_at hl 0 rfl) ?_
  refine lv_iload_n hx hb dX6_quarter_1 rfl (lv_at hl 1 rfl) ?_
  refine ro_i (va_runV (As := [.int p1]) (rest := []) ⟨hx, hb, hml, hown, hts⟩ (s_X6_isMask l dC dI cs L K G Q hQ x0 m0 tx tm H.size I J hI p0 hLp0 hKp0 p1) (cwV 1 hts (gV pq666 pq668 pq4 pq74 pq669) rfl rfl rfl (by decide +kernel) ⟨(by rw [hR]; exact (Nat.le_of_ble_eq_true rfl)), (by rw [hR]; exact (Nat.le_of_ble_eq_true rfl))⟩) (sP_V hP hD hK hN hLp0 hKp0 rfl rfl) rfl rfl hl.1 rfl (lv_room (Nat.le_of_ble_eq_true rfl)) dX6_quarter_2 ⟨(by rw [hR]; exact (Nat.le_of_ble_eq_true rfl)), (by rw [hR]; exact (Nat.le_of_ble_eq_true rfl))⟩) hS hP (fun z2 H locs hz2 hP hS => ?_)
  obtain ⟨bz2, imz2, xpz2⟩ := hz2
  refine lv_if_ne (tgt := 10) hx hb dX6_quarter_5 (by decide) (fun c5 => ?_) (fun c5 => ?_)
  · have t5 := tq_ne (k := z2.toInt) (q := (0)) c5 rfl (by decide +kernel)
    have i5 := imz2 t5
    refine lv_aload_n hx hb dX6_quarter_10 rfl (lv_at hl 0 rfl) ?_
    obtain ⟨y11, ey11, hLy11, hKy11, hGy11⟩ := oQ_6_2 (Sv_at hQ hLp0 hKp0)
    refine p_get (v := .ref y11) hx hb hts inX6 hown hK hP hLp0 hKp0 rfl rfl 2 (by decide) (hts _ pq351) (congrArg (fun q => some (va_rf q)) ey11) dX6_quarter_11 ?_
    obtain ⟨y14, ey14, hLy14, hKy14, hGy14⟩ := oQ_1_0 (Sv_at hQ hLy11 hKy11)
    refine p_get (v := .ref y14) hx hb hts inX1 hown hK hP hLy11 hKy11 rfl rfl 0 (by decide) (hts _ pq216) (congrArg (fun q => some (va_rf q)) ey14) dX6_quarter_14 ?_
    refine lv_iload_n hx hb dX6_quarter_17 rfl (lv_at hl 1 rfl) ?_
    obtain ⟨y18, ey18, hLy18, hKy18, hGy18⟩ := (Sv_at hQ hLy14 hKy14).1 p1.toNatClampNeg (clamp_lt (n := 8) (in_of (by omega) (by omega)))
    have hjy18 : p1.toNatClampNeg < 8 := clamp_lt (i := p1) (n := 8) (in_of (by omega) (by omega))
    refine p_aaldR hx hb hK hP 3 hLy14 hKy14 rfl rfl (in_of (by omega) (by omega)) ey18 dX6_quarter_18 ?_
    have ea : fm Q (an Q p0) p1.toInt.toNat = y18 := by rw [show an Q p0 = y11 from gd_of ey11]; exact fm_of ey14 ey18
    refine p_get hx hb hts inX3 hown hK hP hLy18 hKy18 rfl rfl 0 (by decide) (hts _ pq119) rfl dX6_quarter_19 ?_
    refine lv_topi (fun z19 ez19 => ?_)
    have bz19 := oI_3_0 (Iv_at hI hLy18 hKy18)
    rw [← ez19] at bz19
    refine lv_bipush (v := 40) hx hb dX6_quarter_22 (by decide +kernel) ?_
    refine lv_icmp_le (tgt := 30) hx hb dX6_quarter_24 (by decide) (fun c24 => ?_) (fun c24 => ?_)
    · have t24 := tq_le (k := z19.toInt) (q := (40)) c24 rfl (by decide +kernel)
      refine lv_aload_n hx hb dX6_quarter_30 rfl (lv_at hl 0 rfl) ?_
      obtain ⟨y31, ey31, hLy31, hKy31, hGy31⟩ := oQ_6_6 (Sv_at hQ hLp0 hKp0)
      refine p_get (v := .ref y31) hx hb hts inX6 hown hK hP hLp0 hKp0 rfl rfl 6 (by decide) (hts _ pq355) (congrArg (fun q => some (va_rf q)) ey31) dX6_quarter_31 ?_
      refine lv_aload_n hx hb dX6_quarter_34 rfl (lv_at hl 0 rfl) ?_
      refine p_get (v := .ref y11) hx hb hts inX6 hown hK hP hLp0 hKp0 rfl rfl 2 (by decide) (hts _ pq351) (congrArg (fun q => some (va_rf q)) ey11) dX6_quarter_35 ?_
      refine p_get (v := .ref y14) hx hb hts inX1 hown hK hP hLy11 hKy11 rfl rfl 0 (by decide) (hts _ pq216) (congrArg (fun q => some (va_rf q)) ey14) dX6_quarter_38 ?_
      refine lv_iload_n hx hb dX6_quarter_41 rfl (lv_at hl 1 rfl) ?_
      refine p_aaldR hx hb hK hP 3 hLy14 hKy14 rfl rfl (in_of (by omega) (by omega)) ey18 dX6_quarter_42 ?_
      refine sw_v (Z := (fun I1 J1 => Iv L K x0 m0 tx tm I1 ∧ (∀ b, ¬ (b = y31) → I1 b = I b) ∧ (okm (I y18 0).toInt (I y18 1).toInt (J (wo Q y18)) → mkd Q I1 J1 y31 (I y18 1) (I y18 0) (quarD (I y18 1).toInt (J (wo Q y18)))) ∧ (∀ b, ¬ (K b = 12 ∧ (G b = G y31)) → J1 b = J b))) (va_runV (As := [.ref y18]) (rest := []) ⟨hx, hb, hml, hown, hts⟩ (s_X3_becomeQuartered l dC dI cs L K G Q hQ x0 m0 tx tm H.size I J hI y31 hLy31 hKy31 y18 hLy18 hKy18 (by rw [← ez19]; omega) (by omega)) (cwV 1 hts (gV pq729 pq730 pq731 pq76 pq732) rfl rfl rfl (by decide +kernel) ⟨(by rw [hR]; exact (Nat.le_of_ble_eq_true rfl)), (by rw [hR]; exact (Nat.le_of_ble_eq_true rfl))⟩) (sP_V hP hD hK hN hLy31 hKy31 rfl rfl) rfl rfl hl.1 rfl (lv_room (Nat.le_of_ble_eq_true rfl)) dX6_quarter_43 ⟨(by rw [hR]; exact (Nat.le_of_ble_eq_true rfl)), (by rw [hR]; exact (Nat.le_of_ble_eq_true rfl))⟩) hS hAL hA (fun Iz43 Jz43 H locs hz43 hIz43 hP hS => ?_)
      obtain ⟨hIz43, frc43, jz43, djc43⟩ := hIz43
      have dj_Jz43 : (∀ b, b ∈ L0 → ¬ (K0 b = 12) → Jz43 b = J b) := fun b hb hc => (djc43 b (fun z => hc (by have w1 := (hX b hb).2.1; have w2 := (hX b hb).2.2.1; rw [w1] at z; exact z.1))).trans (dj_J b hb hc)
      have dn_Iz43 : (∀ b, b ∈ L0 → (K0 b = 7 ∨ K0 b = 18 ∨ K0 b = 19 ∨ K0 b = 20 ∨ K0 b = 24) → Iz43 b = I b) := fun b hb hc => (frc43 b (fun z => by have w := (hX b hb).2.1; have q := hKy31; rw [← z] at q; omega)).trans (dn_I b hb hc)
      have esk : sk_ Q p0 = y31 := gd_of ey31
      have rs : ∀ σ : Sx, cxA Q0 I J p0 σ → mK σ p1 ∧ (mW σ p1).toInt ≤ 40 ∧ cxA Q Iz43 Jz43 p0 σ ∧ cxM Q Iz43 Jz43 (sk_ Q p0) (mH σ p1) (mW σ p1) (quW σ p1) ∧ okm (mH σ p1).toInt (mW σ p1).toInt (quW σ p1) ∧ Iz43 y31 0 = mH σ p1 := fun σ h => by have A0 := rx0 σ h; have ec := A0.1.1.2.1; have hm : mK σ p1 := (by have q := xpz2.1 t5; rw [ec] at q; exact q); have c := cxA_m A0 hm; have w0 := c.1.1; rw [ea, ← ez19] at w0; have hw : (mW σ p1).toInt ≤ 40 := (by rw [← w0]; omega); have G1 := qu_fin A0 hm hw ea jz43; exact ⟨hm, hw, cxA_sk hQ hLp0 hKp0 hKy31 (by omega) frc43 djc43 A0, by rw [esk]; exact G1.1, G1.2, G1.1.1⟩
      refine lv_aload_n hx hb dX6_quarter_46 rfl (lv_at hl 0 rfl) ?_
      refine lv_iload_n hx hb dX6_quarter_47 rfl (lv_at hl 1 rfl) ?_
      refine sa_v (va_runV (As := [.int p1]) (rest := []) ⟨hx, hb, hml, hown, hts⟩ (s_X6_actBySketch l dC dI cs L K G Q hQ x0 m0 tx tm hx0 hm0 H.size Iz43 Jz43 hIz43 p0 hLp0 hKp0 p1 ⟨by omega, by omega⟩) (cwV 1 hts (gV pq687 pq689 pq5 pq74 pq690) rfl rfl rfl (by decide +kernel) ⟨(by rw [hR]; exact (Nat.le_of_ble_eq_true rfl)), (by rw [hR]; exact (Nat.le_of_ble_eq_true rfl))⟩) (sP_V hP hD hK hN hLp0 hKp0 rfl rfl) rfl rfl hl.1 rfl (lv_room (Nat.le_of_ble_eq_true rfl)) dX6_quarter_48 ⟨(by rw [hR]; exact (Nat.le_of_ble_eq_true rfl)), (by rw [hR]; exact (Nat.le_of_ble_eq_true rfl))⟩) hS hAL hA (fun L K G Q Iz48 Jz48 H locs hz48 hE hQn hIz48 hDn hALn hP zp48 hS => ?_)
      obtain ⟨rz48, dnc48, djc48⟩ := zp48
      have dn_Iz48 : (∀ b, b ∈ L0 → (K0 b = 7 ∨ K0 b = 18 ∨ K0 b = 19 ∨ K0 b = 20 ∨ K0 b = 24) → Iz48 b = I b) := fun b hb hc => (dnc48 b (hX b hb).1 (by have w := (hX b hb).2.1; omega)).trans (dn_Iz43 b hb hc)
      have dj_Jz48 : (∀ b, b ∈ L0 → ¬ (K0 b = 12) → Jz48 b = J b) := fun b hb hc => (djc48 b (hX b hb).1 (fun z => hc (by have w1 := (hX b hb).2.1; have w2 := (hX b hb).2.2.1; rw [w1] at z; first | exact z | exact z.1))).trans (dj_Jz43 b hb hc)
      have hKp0 := (hE p0 hLp0).2.1.trans hKp0
      have hLp0 := (hE p0 hLp0).1
      have hx0 := (hE x0 hx0).1
      have hm0 := (hE m0 hm0).1
      have hX := extW_trans hX hE
      have hQ := hQn
      have hD := hDn
      have hAL := hALn
      refine W.widen (k := 29) (n := 807) (Nat.le_of_ble_eq_true rfl) (Nat.le_of_ble_eq_true rfl) ?_
      refine lv_aload_n hx hb dX6_quarter_51 rfl (lv_at hl 0 rfl) ?_
      obtain ⟨y52, ey52, hLy52, hKy52, hGy52⟩ := oQ_6_6 (Sv_at hQ hLp0 hKp0)
      refine p_get (v := .ref y52) hx hb hts inX6 hown hK hP hLp0 hKp0 rfl rfl 6 (by decide) (hts _ pq355) (congrArg (fun q => some (va_rf q)) ey52) dX6_quarter_52 ?_
      refine p_get hx hb hts inX3 hown hK hP hLy52 hKy52 rfl rfl 0 (by decide) (hts _ pq119) rfl dX6_quarter_55 ?_
      refine lv_topi (fun z55 ez55 => ?_)
      have bz55 := oI_3_0 (Iv_at hIz48 hLy52 hKy52)
      rw [← ez55] at bz55
      subst hR; subst hQz
      exact W.iret (v := z55) hx hb hr (fun t ht hW => ⟨⟨z55, (), rfl, (fun σ h => by obtain ⟨hm, hw, A1, c1, o1, e1⟩ := rs σ h; rw [qu_y hm hw, ← e1, ez55, ← show sk_ Q p0 = y52 from gd_of ey52, rz48.2, esk]), ⟨L, K, G, Q, Iz48, Jz48, hX, hQ, hIz48, fun F => (hD F).weaken (fun _ _ _ _ => trivial), fun q h => hAe2 q (hAL q h), by rw [ht]; exact hP, ⟨(fun σ h => by obtain ⟨hm, hw, A1, c1, o1, e1⟩ := rs σ h; rw [qu_y hm hw]; exact rz48.1 σ _ _ _ A1 o1 c1), dn_Iz48, dj_Jz48⟩⟩⟩, hS.F ht⟩) hS.2.2 dX6_quarter_58
    · have t24 := tq_nle (k := z19.toInt) (q := (40)) c24 rfl (by decide +kernel)
      refine lv_bipush (v := (-2)) hx hb dX6_quarter_27 (by decide +kernel) ?_
      subst hR; subst hQz
      refine W.widen (k := 29) (n := 807) (Nat.le_of_ble_eq_true rfl) (Nat.le_of_ble_eq_true rfl) ?_
      exact W.iret (v := (-2)) hx hb hr (fun t ht hW => ⟨⟨(-2), (), rfl, (fun σ h => by have A0 := rx0 σ h; have ec := A0.1.1.2.1; have hm : mK σ p1 := (by have q := xpz2.1 t5; rw [ec] at q; exact q); have c := cxA_m A0 hm; have w0 := c.1.1; rw [ea, ← ez19] at w0; rw [(qu_e hm (by rw [← w0]; omega))]; show (-2 : Int32).toInt = -2; decide +kernel), ⟨L, K, G, Q, I, J, hX, hQ, hI, fun F => (hD F).weaken (fun _ _ _ _ => trivial), fun q h => hAe2 q (hAL q h), by rw [ht]; exact hP, ⟨(fun σ h => by have A0 := rx0 σ h; have ec := A0.1.1.2.1; first | (rw [qu_n (fun q => xpz2.2 t5 (by rw [ec]; exact q))]; exact A0) | (have A0 := rx0 σ h; have ec := A0.1.1.2.1; have hm : mK σ p1 := (by have q := xpz2.1 t5; rw [ec] at q; exact q); have c := cxA_m A0 hm; have w0 := c.1.1; rw [ea, ← ez19] at w0; rw [(qu_e hm (by rw [← w0]; omega))]; exact A0)), dn_I, dj_J⟩⟩⟩, hS.F ht⟩) hS.2.2 dX6_quarter_29
  · have t5 := tq_eq (k := z2.toInt) (q := (0)) c5 rfl (by decide +kernel)
    refine lv_iconst (v := (-1)) hx hb dX6_quarter_8 (by decide +kernel) ?_
    subst hR; subst hQz
    refine W.widen (k := 29) (n := 807) (Nat.le_of_ble_eq_true rfl) (Nat.le_of_ble_eq_true rfl) ?_
    exact W.iret (v := (-1)) hx hb hr (fun t ht hW => ⟨⟨(-1), (), rfl, (fun σ h => by have ec := (rx0 σ h).1.1.2.1; rw [qu_n (fun q => xpz2.2 t5 (by rw [ec]; exact q))]; show (-1 : Int32).toInt = -1; decide +kernel), ⟨L, K, G, Q, I, J, hX, hQ, hI, fun F => (hD F).weaken (fun _ _ _ _ => trivial), fun q h => hAe2 q (hAL q h), by rw [ht]; exact hP, ⟨(fun σ h => by have A0 := rx0 σ h; have ec := A0.1.1.2.1; first | (rw [qu_n (fun q => xpz2.2 t5 (by rw [ec]; exact q))]; exact A0) | (have A0 := rx0 σ h; have ec := A0.1.1.2.1; have hm : mK σ p1 := (by have q := xpz2.1 t5; rw [ec] at q; exact q); have c := cxA_m A0 hm; have w0 := c.1.1; rw [ea, ← ez19] at w0; rw [(qu_e hm (by rw [← w0]; omega))]; exact A0)), dn_I, dj_J⟩⟩⟩, hS.F ht⟩) hS.2.2 dX6_quarter_9
