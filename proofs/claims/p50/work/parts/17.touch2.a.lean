def yX6_passesSieve : MethodName := ⟨RX6, "passesSieve", "(III)Z"⟩
abbrev cX6_passesSieve : ByteArray := prog_1_method_47_code
abbrev cX6_apart : ByteArray := prog_1_method_53_code
abbrev cX6_at : ByteArray := prog_1_method_49_code
abbrev cX6_best : ByteArray := prog_1_method_54_code
abbrev cX6_body : ByteArray := prog_1_method_42_code
abbrev cX6_common : ByteArray := prog_1_method_43_code
abbrev cX6_contact : ByteArray := prog_1_method_45_code
abbrev cX6_first : ByteArray := prog_1_method_50_code
abbrev cX6_gap : ByteArray := prog_1_method_52_code
abbrev cX6_meet : ByteArray := prog_1_method_44_code
abbrev cX6_reach : ByteArray := prog_1_method_51_code
abbrev cX6_sieve : ByteArray := prog_1_method_46_code
abbrev cX6_touching : ByteArray := prog_1_method_48_code
def yX6_apart : MethodName := ⟨RX6, "apart", "(III)I"⟩
def yX6_at : MethodName := ⟨RX6, "at", "(II)I"⟩
def yX6_best : MethodName := ⟨RX6, "best", "(III)I"⟩
def yX6_body : MethodName := ⟨RX6, "body", "(II)I"⟩
def yX6_common : MethodName := ⟨RX6, "common", "(II)I"⟩
def yX6_contact : MethodName := ⟨RX6, "contact", "(I)I"⟩
def yX6_first : MethodName := ⟨RX6, "first", "(III)I"⟩
def yX6_gap : MethodName := ⟨RX6, "gap", "(III)I"⟩
def yX6_meet : MethodName := ⟨RX6, "meet", "(III)I"⟩
def yX6_reach : MethodName := ⟨RX6, "reach", "(IIII)I"⟩
def yX6_sieve : MethodName := ⟨RX6, "sieve", "(I)I"⟩
def yX6_touching : MethodName := ⟨RX6, "touching", "(I)I"⟩
theorem dX6_apart_0 : decode cX6_apart 0 = .ok (.aload_n 0, 1) := by decide +kernel
theorem dX6_apart_1 : decode cX6_apart 1 = .ok (.iload_n 1, 1) := by decide +kernel
theorem dX6_apart_2 : decode cX6_apart 2 = .ok (.iload_n 2, 1) := by decide +kernel
theorem dX6_apart_3 : decode cX6_apart 3 = .ok (.invokevirtual 303, 3) := by decide +kernel
theorem dX6_apart_6 : decode cX6_apart 6 = .ok (.ifCond .eq 11, 3) := by decide +kernel
theorem dX6_apart_9 : decode cX6_apart 9 = .ok (.iload_n 3, 1) := by decide +kernel
theorem dX6_apart_10 : decode cX6_apart 10 = .ok (.iconst 2, 1) := by decide +kernel
theorem dX6_apart_11 : decode cX6_apart 11 = .ok (.invokestatic 109, 3) := by decide +kernel
theorem dX6_apart_14 : decode cX6_apart 14 = .ok (.ifCond .ne 7, 3) := by decide +kernel
theorem dX6_apart_17 : decode cX6_apart 17 = .ok (.sipush (-2000), 3) := by decide +kernel
theorem dX6_apart_20 : decode cX6_apart 20 = .ok (.ireturn, 1) := by decide +kernel
theorem dX6_apart_21 : decode cX6_apart 21 = .ok (.aload_n 0, 1) := by decide +kernel
theorem dX6_apart_22 : decode cX6_apart 22 = .ok (.getfield 41, 3) := by decide +kernel
theorem dX6_apart_25 : decode cX6_apart 25 = .ok (.iload_n 1, 1) := by decide +kernel
theorem dX6_apart_26 : decode cX6_apart 26 = .ok (.iload_n 2, 1) := by decide +kernel
theorem dX6_apart_27 : decode cX6_apart 27 = .ok (.invokevirtual 341, 3) := by decide +kernel
theorem dX6_apart_30 : decode cX6_apart 30 = .ok (.iload_n 3, 1) := by decide +kernel
theorem dX6_apart_31 : decode cX6_apart 31 = .ok (.ifCond .ne 13, 3) := by decide +kernel
theorem dX6_apart_34 : decode cX6_apart 34 = .ok (.aload_n 0, 1) := by decide +kernel
theorem dX6_apart_35 : decode cX6_apart 35 = .ok (.getfield 41, 3) := by decide +kernel
theorem dX6_apart_38 : decode cX6_apart 38 = .ok (.getfield 344, 3) := by decide +kernel
theorem dX6_apart_41 : decode cX6_apart 41 = .ok (.goto 25, 3) := by decide +kernel
theorem dX6_apart_44 : decode cX6_apart 44 = .ok (.iload_n 3, 1) := by decide +kernel
theorem dX6_apart_45 : decode cX6_apart 45 = .ok (.iconst 1, 1) := by decide +kernel
theorem dX6_apart_46 : decode cX6_apart 46 = .ok (.if_icmp .ne 13, 3) := by decide +kernel
theorem dX6_apart_49 : decode cX6_apart 49 = .ok (.aload_n 0, 1) := by decide +kernel
theorem dX6_apart_50 : decode cX6_apart 50 = .ok (.getfield 41, 3) := by decide +kernel
theorem dX6_apart_53 : decode cX6_apart 53 = .ok (.getfield 312, 3) := by decide +kernel
theorem dX6_apart_56 : decode cX6_apart 56 = .ok (.goto 10, 3) := by decide +kernel
theorem dX6_apart_59 : decode cX6_apart 59 = .ok (.aload_n 0, 1) := by decide +kernel
theorem dX6_apart_60 : decode cX6_apart 60 = .ok (.getfield 41, 3) := by decide +kernel
theorem dX6_apart_63 : decode cX6_apart 63 = .ok (.getfield 315, 3) := by decide +kernel
theorem dX6_apart_66 : decode cX6_apart 66 = .ok (.ireturn, 1) := by decide +kernel
theorem dX6_at_0 : decode cX6_at 0 = .ok (.iconst 0, 1) := by decide +kernel
theorem dX6_at_1 : decode cX6_at 1 = .ok (.istore_n 3, 1) := by decide +kernel
theorem dX6_at_2 : decode cX6_at 2 = .ok (.iconst 0, 1) := by decide +kernel
theorem dX6_at_3 : decode cX6_at 3 = .ok (.istore 4, 2) := by decide +kernel
theorem dX6_at_5 : decode cX6_at 5 = .ok (.iload 4, 2) := by decide +kernel
theorem dX6_at_7 : decode cX6_at 7 = .ok (.aload_n 0, 1) := by decide +kernel
theorem dX6_at_8 : decode cX6_at 8 = .ok (.getfield 20, 3) := by decide +kernel
theorem dX6_at_11 : decode cX6_at 11 = .ok (.getfield 83, 3) := by decide +kernel
theorem dX6_at_14 : decode cX6_at 14 = .ok (.if_icmp .ge 30, 3) := by decide +kernel
theorem dX6_at_17 : decode cX6_at 17 = .ok (.aload_n 0, 1) := by decide +kernel
theorem dX6_at_18 : decode cX6_at 18 = .ok (.getfield 41, 3) := by decide +kernel
theorem dX6_at_21 : decode cX6_at 21 = .ok (.iload 4, 2) := by decide +kernel
theorem dX6_at_23 : decode cX6_at 23 = .ok (.iload_n 1, 1) := by decide +kernel
theorem dX6_at_24 : decode cX6_at 24 = .ok (.iload_n 2, 1) := by decide +kernel
theorem dX6_at_25 : decode cX6_at 25 = .ok (.invokevirtual 331, 3) := by decide +kernel
theorem dX6_at_28 : decode cX6_at 28 = .ok (.ifCond .eq 10, 3) := by decide +kernel
theorem dX6_at_31 : decode cX6_at 31 = .ok (.iload_n 3, 1) := by decide +kernel
theorem dX6_at_32 : decode cX6_at 32 = .ok (.iconst 1, 1) := by decide +kernel
theorem dX6_at_33 : decode cX6_at 33 = .ok (.iload 4, 2) := by decide +kernel
theorem dX6_at_35 : decode cX6_at 35 = .ok (.ishl, 1) := by decide +kernel
theorem dX6_at_36 : decode cX6_at 36 = .ok (.ior, 1) := by decide +kernel
theorem dX6_at_37 : decode cX6_at 37 = .ok (.istore_n 3, 1) := by decide +kernel
theorem dX6_at_38 : decode cX6_at 38 = .ok (.iinc 4 1, 3) := by decide +kernel
theorem dX6_at_41 : decode cX6_at 41 = .ok (.goto (-36), 3) := by decide +kernel
theorem dX6_at_44 : decode cX6_at 44 = .ok (.iload_n 3, 1) := by decide +kernel
theorem dX6_at_45 : decode cX6_at 45 = .ok (.ireturn, 1) := by decide +kernel
theorem dX6_best_0 : decode cX6_best 0 = .ok (.aload_n 0, 1) := by decide +kernel
theorem dX6_best_1 : decode cX6_best 1 = .ok (.iload_n 1, 1) := by decide +kernel
theorem dX6_best_2 : decode cX6_best 2 = .ok (.iload_n 2, 1) := by decide +kernel
theorem dX6_best_3 : decode cX6_best 3 = .ok (.invokevirtual 303, 3) := by decide +kernel
theorem dX6_best_6 : decode cX6_best 6 = .ok (.ifCond .eq 11, 3) := by decide +kernel
theorem dX6_best_9 : decode cX6_best 9 = .ok (.iload_n 3, 1) := by decide +kernel
theorem dX6_best_10 : decode cX6_best 10 = .ok (.iconst 2, 1) := by decide +kernel
theorem dX6_best_11 : decode cX6_best 11 = .ok (.invokestatic 109, 3) := by decide +kernel
theorem dX6_best_14 : decode cX6_best 14 = .ok (.ifCond .ne 7, 3) := by decide +kernel
theorem dX6_best_17 : decode cX6_best 17 = .ok (.sipush (-2000), 3) := by decide +kernel
theorem dX6_best_20 : decode cX6_best 20 = .ok (.ireturn, 1) := by decide +kernel
theorem dX6_best_21 : decode cX6_best 21 = .ok (.aload_n 0, 1) := by decide +kernel
theorem dX6_best_22 : decode cX6_best 22 = .ok (.getfield 41, 3) := by decide +kernel
theorem dX6_best_25 : decode cX6_best 25 = .ok (.iload_n 1, 1) := by decide +kernel
theorem dX6_best_26 : decode cX6_best 26 = .ok (.iload_n 2, 1) := by decide +kernel
theorem dX6_best_27 : decode cX6_best 27 = .ok (.invokevirtual 347, 3) := by decide +kernel
theorem dX6_best_30 : decode cX6_best 30 = .ok (.iload_n 3, 1) := by decide +kernel
theorem dX6_best_31 : decode cX6_best 31 = .ok (.ifCond .ne 13, 3) := by decide +kernel
theorem dX6_best_34 : decode cX6_best 34 = .ok (.aload_n 0, 1) := by decide +kernel
theorem dX6_best_35 : decode cX6_best 35 = .ok (.getfield 41, 3) := by decide +kernel
theorem dX6_best_38 : decode cX6_best 38 = .ok (.getfield 344, 3) := by decide +kernel
theorem dX6_best_41 : decode cX6_best 41 = .ok (.goto 25, 3) := by decide +kernel
theorem dX6_best_44 : decode cX6_best 44 = .ok (.iload_n 3, 1) := by decide +kernel
theorem dX6_best_45 : decode cX6_best 45 = .ok (.iconst 1, 1) := by decide +kernel
theorem dX6_best_46 : decode cX6_best 46 = .ok (.if_icmp .ne 13, 3) := by decide +kernel
theorem dX6_best_49 : decode cX6_best 49 = .ok (.aload_n 0, 1) := by decide +kernel
theorem dX6_best_50 : decode cX6_best 50 = .ok (.getfield 41, 3) := by decide +kernel
theorem dX6_best_53 : decode cX6_best 53 = .ok (.getfield 312, 3) := by decide +kernel
theorem dX6_best_56 : decode cX6_best 56 = .ok (.goto 10, 3) := by decide +kernel
theorem dX6_best_59 : decode cX6_best 59 = .ok (.aload_n 0, 1) := by decide +kernel
theorem dX6_best_60 : decode cX6_best 60 = .ok (.getfield 41, 3) := by decide +kernel
theorem dX6_best_63 : decode cX6_best 63 = .ok (.getfield 315, 3) := by decide +kernel
theorem dX6_best_66 : decode cX6_best 66 = .ok (.ireturn, 1) := by decide +kernel
theorem dX6_body_0 : decode cX6_body 0 = .ok (.aload_n 0, 1) := by decide +kernel
theorem dX6_body_1 : decode cX6_body 1 = .ok (.iload_n 1, 1) := by decide +kernel
theorem dX6_body_2 : decode cX6_body 2 = .ok (.invokevirtual 86, 3) := by decide +kernel
theorem dX6_body_5 : decode cX6_body 5 = .ok (.ifCond .eq 12, 3) := by decide +kernel
theorem dX6_body_8 : decode cX6_body 8 = .ok (.iload_n 2, 1) := by decide +kernel
theorem dX6_body_9 : decode cX6_body 9 = .ok (.bipush 7, 2) := by decide +kernel
theorem dX6_body_11 : decode cX6_body 11 = .ok (.invokestatic 109, 3) := by decide +kernel
theorem dX6_body_14 : decode cX6_body 14 = .ok (.ifCond .ne 7, 3) := by decide +kernel
theorem dX6_body_17 : decode cX6_body 17 = .ok (.sipush (-2000), 3) := by decide +kernel
theorem dX6_body_20 : decode cX6_body 20 = .ok (.ireturn, 1) := by decide +kernel
theorem dX6_body_21 : decode cX6_body 21 = .ok (.aload_n 0, 1) := by decide +kernel
theorem dX6_body_22 : decode cX6_body 22 = .ok (.getfield 20, 3) := by decide +kernel
theorem dX6_body_25 : decode cX6_body 25 = .ok (.getfield 94, 3) := by decide +kernel
theorem dX6_body_28 : decode cX6_body 28 = .ok (.iload_n 1, 1) := by decide +kernel
theorem dX6_body_29 : decode cX6_body 29 = .ok (.aaload, 1) := by decide +kernel
theorem dX6_body_30 : decode cX6_body 30 = .ok (.iload_n 2, 1) := by decide +kernel
theorem dX6_body_31 : decode cX6_body 31 = .ok (.invokevirtual 299, 3) := by decide +kernel
theorem dX6_body_34 : decode cX6_body 34 = .ok (.ireturn, 1) := by decide +kernel
theorem dX6_common_0 : decode cX6_common 0 = .ok (.aload_n 0, 1) := by decide +kernel
theorem dX6_common_1 : decode cX6_common 1 = .ok (.iload_n 1, 1) := by decide +kernel
theorem dX6_common_2 : decode cX6_common 2 = .ok (.iload_n 2, 1) := by decide +kernel
theorem dX6_common_3 : decode cX6_common 3 = .ok (.invokevirtual 303, 3) := by decide +kernel
theorem dX6_common_6 : decode cX6_common 6 = .ok (.ifCond .ne 5, 3) := by decide +kernel
theorem dX6_common_9 : decode cX6_common 9 = .ok (.iconst (-1), 1) := by decide +kernel
theorem dX6_common_10 : decode cX6_common 10 = .ok (.ireturn, 1) := by decide +kernel
theorem dX6_common_11 : decode cX6_common 11 = .ok (.aload_n 0, 1) := by decide +kernel
theorem dX6_common_12 : decode cX6_common 12 = .ok (.getfield 41, 3) := by decide +kernel
theorem dX6_common_15 : decode cX6_common 15 = .ok (.iload_n 1, 1) := by decide +kernel
theorem dX6_common_16 : decode cX6_common 16 = .ok (.iload_n 2, 1) := by decide +kernel
theorem dX6_common_17 : decode cX6_common 17 = .ok (.iconst 0, 1) := by decide +kernel
theorem dX6_common_18 : decode cX6_common 18 = .ok (.iconst 0, 1) := by decide +kernel
theorem dX6_common_19 : decode cX6_common 19 = .ok (.invokevirtual 306, 3) := by decide +kernel
theorem dX6_common_22 : decode cX6_common 22 = .ok (.ireturn, 1) := by decide +kernel
theorem dX6_contact_0 : decode cX6_contact 0 = .ok (.iload_n 1, 1) := by decide +kernel
theorem dX6_contact_1 : decode cX6_contact 1 = .ok (.iconst (-1), 1) := by decide +kernel
theorem dX6_contact_2 : decode cX6_contact 2 = .ok (.if_icmp .ge 5, 3) := by decide +kernel
theorem dX6_contact_5 : decode cX6_contact 5 = .ok (.iconst (-1), 1) := by decide +kernel
theorem dX6_contact_6 : decode cX6_contact 6 = .ok (.ireturn, 1) := by decide +kernel
theorem dX6_contact_7 : decode cX6_contact 7 = .ok (.iconst 0, 1) := by decide +kernel
theorem dX6_contact_8 : decode cX6_contact 8 = .ok (.istore_n 2, 1) := by decide +kernel
theorem dX6_contact_9 : decode cX6_contact 9 = .ok (.iconst 0, 1) := by decide +kernel
theorem dX6_contact_10 : decode cX6_contact 10 = .ok (.istore_n 3, 1) := by decide +kernel
theorem dX6_contact_11 : decode cX6_contact 11 = .ok (.iload_n 3, 1) := by decide +kernel
theorem dX6_contact_12 : decode cX6_contact 12 = .ok (.aload_n 0, 1) := by decide +kernel
theorem dX6_contact_13 : decode cX6_contact 13 = .ok (.getfield 20, 3) := by decide +kernel
theorem dX6_contact_16 : decode cX6_contact 16 = .ok (.getfield 83, 3) := by decide +kernel
theorem dX6_contact_19 : decode cX6_contact 19 = .ok (.if_icmp .ge 63, 3) := by decide +kernel
theorem dX6_contact_22 : decode cX6_contact 22 = .ok (.iload_n 3, 1) := by decide +kernel
theorem dX6_contact_23 : decode cX6_contact 23 = .ok (.iconst 1, 1) := by decide +kernel
theorem dX6_contact_24 : decode cX6_contact 24 = .ok (.iadd, 1) := by decide +kernel
theorem dX6_contact_25 : decode cX6_contact 25 = .ok (.istore 4, 2) := by decide +kernel
theorem dX6_contact_27 : decode cX6_contact 27 = .ok (.iload 4, 2) := by decide +kernel
theorem dX6_contact_29 : decode cX6_contact 29 = .ok (.aload_n 0, 1) := by decide +kernel
theorem dX6_contact_30 : decode cX6_contact 30 = .ok (.getfield 20, 3) := by decide +kernel
theorem dX6_contact_33 : decode cX6_contact 33 = .ok (.getfield 83, 3) := by decide +kernel
theorem dX6_contact_36 : decode cX6_contact 36 = .ok (.if_icmp .ge 40, 3) := by decide +kernel
theorem dX6_contact_39 : decode cX6_contact 39 = .ok (.aload_n 0, 1) := by decide +kernel
theorem dX6_contact_40 : decode cX6_contact 40 = .ok (.getfield 41, 3) := by decide +kernel
theorem dX6_contact_43 : decode cX6_contact 43 = .ok (.iload_n 3, 1) := by decide +kernel
theorem dX6_contact_44 : decode cX6_contact 44 = .ok (.iload 4, 2) := by decide +kernel
theorem dX6_contact_46 : decode cX6_contact 46 = .ok (.iconst 0, 1) := by decide +kernel
theorem dX6_contact_47 : decode cX6_contact 47 = .ok (.iconst 0, 1) := by decide +kernel
theorem dX6_contact_48 : decode cX6_contact 48 = .ok (.invokevirtual 318, 3) := by decide +kernel
theorem dX6_contact_51 : decode cX6_contact 51 = .ok (.ifCond .eq 19, 3) := by decide +kernel
theorem dX6_contact_54 : decode cX6_contact 54 = .ok (.iload_n 2, 1) := by decide +kernel
theorem dX6_contact_55 : decode cX6_contact 55 = .ok (.iload_n 1, 1) := by decide +kernel
theorem dX6_contact_56 : decode cX6_contact 56 = .ok (.if_icmp .ne 11, 3) := by decide +kernel
theorem dX6_contact_59 : decode cX6_contact 59 = .ok (.bipush 100, 2) := by decide +kernel
theorem dX6_contact_61 : decode cX6_contact 61 = .ok (.iload_n 3, 1) := by decide +kernel
theorem dX6_contact_62 : decode cX6_contact 62 = .ok (.imul, 1) := by decide +kernel
theorem dX6_contact_63 : decode cX6_contact 63 = .ok (.iload 4, 2) := by decide +kernel
theorem dX6_contact_65 : decode cX6_contact 65 = .ok (.iadd, 1) := by decide +kernel
theorem dX6_contact_66 : decode cX6_contact 66 = .ok (.ireturn, 1) := by decide +kernel
theorem dX6_contact_67 : decode cX6_contact 67 = .ok (.iinc 2 1, 3) := by decide +kernel
theorem dX6_contact_70 : decode cX6_contact 70 = .ok (.iinc 4 1, 3) := by decide +kernel
theorem dX6_contact_73 : decode cX6_contact 73 = .ok (.goto (-46), 3) := by decide +kernel
theorem dX6_contact_76 : decode cX6_contact 76 = .ok (.iinc 3 1, 3) := by decide +kernel
theorem dX6_contact_79 : decode cX6_contact 79 = .ok (.goto (-68), 3) := by decide +kernel
theorem dX6_contact_82 : decode cX6_contact 82 = .ok (.iload_n 1, 1) := by decide +kernel
theorem dX6_contact_83 : decode cX6_contact 83 = .ok (.iconst (-1), 1) := by decide +kernel
theorem dX6_contact_84 : decode cX6_contact 84 = .ok (.if_icmp .ne 7, 3) := by decide +kernel
theorem dX6_contact_87 : decode cX6_contact 87 = .ok (.iload_n 2, 1) := by decide +kernel
theorem dX6_contact_88 : decode cX6_contact 88 = .ok (.goto 5, 3) := by decide +kernel
theorem dX6_contact_91 : decode cX6_contact 91 = .ok (.bipush (-2), 2) := by decide +kernel
theorem dX6_contact_93 : decode cX6_contact 93 = .ok (.ireturn, 1) := by decide +kernel
theorem dX6_first_0 : decode cX6_first 0 = .ok (.aload_n 0, 1) := by decide +kernel
theorem dX6_first_1 : decode cX6_first 1 = .ok (.iload_n 1, 1) := by decide +kernel
theorem dX6_first_2 : decode cX6_first 2 = .ok (.iload_n 2, 1) := by decide +kernel
theorem dX6_first_3 : decode cX6_first 3 = .ok (.invokevirtual 303, 3) := by decide +kernel
theorem dX6_first_6 : decode cX6_first 6 = .ok (.ifCond .eq 13, 3) := by decide +kernel
theorem dX6_first_9 : decode cX6_first 9 = .ok (.iload_n 3, 1) := by decide +kernel
theorem dX6_first_10 : decode cX6_first 10 = .ok (.sipush 300, 3) := by decide +kernel
theorem dX6_first_13 : decode cX6_first 13 = .ok (.invokestatic 109, 3) := by decide +kernel
theorem dX6_first_16 : decode cX6_first 16 = .ok (.ifCond .ne 5, 3) := by decide +kernel
theorem dX6_first_19 : decode cX6_first 19 = .ok (.iconst (-1), 1) := by decide +kernel
theorem dX6_first_20 : decode cX6_first 20 = .ok (.ireturn, 1) := by decide +kernel
theorem dX6_first_21 : decode cX6_first 21 = .ok (.aload_n 0, 1) := by decide +kernel
theorem dX6_first_22 : decode cX6_first 22 = .ok (.getfield 20, 3) := by decide +kernel
theorem dX6_first_25 : decode cX6_first 25 = .ok (.getfield 94, 3) := by decide +kernel
theorem dX6_first_28 : decode cX6_first 28 = .ok (.iload_n 1, 1) := by decide +kernel
theorem dX6_first_29 : decode cX6_first 29 = .ok (.aaload, 1) := by decide +kernel
theorem dX6_first_30 : decode cX6_first 30 = .ok (.getfield 124, 3) := by decide +kernel
theorem dX6_first_33 : decode cX6_first 33 = .ok (.aload_n 0, 1) := by decide +kernel
theorem dX6_first_34 : decode cX6_first 34 = .ok (.getfield 20, 3) := by decide +kernel
theorem dX6_first_37 : decode cX6_first 37 = .ok (.getfield 94, 3) := by decide +kernel
theorem dX6_first_40 : decode cX6_first 40 = .ok (.iload_n 2, 1) := by decide +kernel
theorem dX6_first_41 : decode cX6_first 41 = .ok (.aaload, 1) := by decide +kernel
theorem dX6_first_42 : decode cX6_first 42 = .ok (.getfield 124, 3) := by decide +kernel
theorem dX6_first_45 : decode cX6_first 45 = .ok (.isub, 1) := by decide +kernel
theorem dX6_first_46 : decode cX6_first 46 = .ok (.istore 4, 2) := by decide +kernel
theorem dX6_first_48 : decode cX6_first 48 = .ok (.aload_n 0, 1) := by decide +kernel
theorem dX6_first_49 : decode cX6_first 49 = .ok (.getfield 20, 3) := by decide +kernel
theorem dX6_first_52 : decode cX6_first 52 = .ok (.getfield 94, 3) := by decide +kernel
theorem dX6_first_55 : decode cX6_first 55 = .ok (.iload_n 1, 1) := by decide +kernel
theorem dX6_first_56 : decode cX6_first 56 = .ok (.aaload, 1) := by decide +kernel
theorem dX6_first_57 : decode cX6_first 57 = .ok (.getfield 127, 3) := by decide +kernel
theorem dX6_first_60 : decode cX6_first 60 = .ok (.aload_n 0, 1) := by decide +kernel
theorem dX6_first_61 : decode cX6_first 61 = .ok (.getfield 20, 3) := by decide +kernel
theorem dX6_first_64 : decode cX6_first 64 = .ok (.getfield 94, 3) := by decide +kernel
theorem dX6_first_67 : decode cX6_first 67 = .ok (.iload_n 2, 1) := by decide +kernel
theorem dX6_first_68 : decode cX6_first 68 = .ok (.aaload, 1) := by decide +kernel
theorem dX6_first_69 : decode cX6_first 69 = .ok (.getfield 127, 3) := by decide +kernel
theorem dX6_first_72 : decode cX6_first 72 = .ok (.isub, 1) := by decide +kernel
theorem dX6_first_73 : decode cX6_first 73 = .ok (.istore 5, 2) := by decide +kernel
theorem dX6_first_75 : decode cX6_first 75 = .ok (.aload_n 0, 1) := by decide +kernel
theorem dX6_first_76 : decode cX6_first 76 = .ok (.getfield 41, 3) := by decide +kernel
theorem dX6_first_79 : decode cX6_first 79 = .ok (.iload_n 1, 1) := by decide +kernel
theorem dX6_first_80 : decode cX6_first 80 = .ok (.iload_n 2, 1) := by decide +kernel
theorem dX6_first_81 : decode cX6_first 81 = .ok (.iload 4, 2) := by decide +kernel
theorem dX6_first_83 : decode cX6_first 83 = .ok (.iload 5, 2) := by decide +kernel
theorem dX6_first_85 : decode cX6_first 85 = .ok (.iload_n 3, 1) := by decide +kernel
theorem dX6_first_86 : decode cX6_first 86 = .ok (.invokevirtual 334, 3) := by decide +kernel
theorem dX6_first_89 : decode cX6_first 89 = .ok (.ireturn, 1) := by decide +kernel
theorem dX6_gap_0 : decode cX6_gap 0 = .ok (.aload_n 0, 1) := by decide +kernel
theorem dX6_gap_1 : decode cX6_gap 1 = .ok (.iload_n 1, 1) := by decide +kernel
theorem dX6_gap_2 : decode cX6_gap 2 = .ok (.iload_n 2, 1) := by decide +kernel
theorem dX6_gap_3 : decode cX6_gap 3 = .ok (.invokevirtual 303, 3) := by decide +kernel
theorem dX6_gap_6 : decode cX6_gap 6 = .ok (.ifCond .ne 5, 3) := by decide +kernel
theorem dX6_gap_9 : decode cX6_gap 9 = .ok (.iconst (-1), 1) := by decide +kernel
theorem dX6_gap_10 : decode cX6_gap 10 = .ok (.ireturn, 1) := by decide +kernel
theorem dX6_gap_11 : decode cX6_gap 11 = .ok (.iload_n 3, 1) := by decide +kernel
theorem dX6_gap_12 : decode cX6_gap 12 = .ok (.tableswitch 92 0 3 #[32, 47, 62, 77], 32) := by decide +kernel
theorem dX6_gap_44 : decode cX6_gap 44 = .ok (.aload_n 0, 1) := by decide +kernel
theorem dX6_gap_45 : decode cX6_gap 45 = .ok (.getfield 41, 3) := by decide +kernel
theorem dX6_gap_48 : decode cX6_gap 48 = .ok (.iload_n 1, 1) := by decide +kernel
theorem dX6_gap_49 : decode cX6_gap 49 = .ok (.iload_n 2, 1) := by decide +kernel
theorem dX6_gap_50 : decode cX6_gap 50 = .ok (.iconst 1, 1) := by decide +kernel
theorem dX6_gap_51 : decode cX6_gap 51 = .ok (.iconst 0, 1) := by decide +kernel
theorem dX6_gap_52 : decode cX6_gap 52 = .ok (.sipush 500, 3) := by decide +kernel
theorem dX6_gap_55 : decode cX6_gap 55 = .ok (.invokevirtual 334, 3) := by decide +kernel
theorem dX6_gap_58 : decode cX6_gap 58 = .ok (.ireturn, 1) := by decide +kernel
theorem dX6_gap_59 : decode cX6_gap 59 = .ok (.aload_n 0, 1) := by decide +kernel
theorem dX6_gap_60 : decode cX6_gap 60 = .ok (.getfield 41, 3) := by decide +kernel
theorem dX6_gap_63 : decode cX6_gap 63 = .ok (.iload_n 1, 1) := by decide +kernel
theorem dX6_gap_64 : decode cX6_gap 64 = .ok (.iload_n 2, 1) := by decide +kernel
theorem dX6_gap_65 : decode cX6_gap 65 = .ok (.iconst (-1), 1) := by decide +kernel
theorem dX6_gap_66 : decode cX6_gap 66 = .ok (.iconst 0, 1) := by decide +kernel
theorem dX6_gap_67 : decode cX6_gap 67 = .ok (.sipush 500, 3) := by decide +kernel
theorem dX6_gap_70 : decode cX6_gap 70 = .ok (.invokevirtual 334, 3) := by decide +kernel
theorem dX6_gap_73 : decode cX6_gap 73 = .ok (.ireturn, 1) := by decide +kernel
theorem dX6_gap_74 : decode cX6_gap 74 = .ok (.aload_n 0, 1) := by decide +kernel
theorem dX6_gap_75 : decode cX6_gap 75 = .ok (.getfield 41, 3) := by decide +kernel
theorem dX6_gap_78 : decode cX6_gap 78 = .ok (.iload_n 1, 1) := by decide +kernel
theorem dX6_gap_79 : decode cX6_gap 79 = .ok (.iload_n 2, 1) := by decide +kernel
theorem dX6_gap_80 : decode cX6_gap 80 = .ok (.iconst 0, 1) := by decide +kernel
theorem dX6_gap_81 : decode cX6_gap 81 = .ok (.iconst 1, 1) := by decide +kernel
theorem dX6_gap_82 : decode cX6_gap 82 = .ok (.sipush 500, 3) := by decide +kernel
theorem dX6_gap_85 : decode cX6_gap 85 = .ok (.invokevirtual 334, 3) := by decide +kernel
theorem dX6_gap_88 : decode cX6_gap 88 = .ok (.ireturn, 1) := by decide +kernel
theorem dX6_gap_89 : decode cX6_gap 89 = .ok (.aload_n 0, 1) := by decide +kernel
theorem dX6_gap_90 : decode cX6_gap 90 = .ok (.getfield 41, 3) := by decide +kernel
theorem dX6_gap_93 : decode cX6_gap 93 = .ok (.iload_n 1, 1) := by decide +kernel
theorem dX6_gap_94 : decode cX6_gap 94 = .ok (.iload_n 2, 1) := by decide +kernel
theorem dX6_gap_95 : decode cX6_gap 95 = .ok (.iconst 0, 1) := by decide +kernel
theorem dX6_gap_96 : decode cX6_gap 96 = .ok (.iconst (-1), 1) := by decide +kernel
theorem dX6_gap_97 : decode cX6_gap 97 = .ok (.sipush 500, 3) := by decide +kernel
theorem dX6_gap_100 : decode cX6_gap 100 = .ok (.invokevirtual 334, 3) := by decide +kernel
theorem dX6_gap_103 : decode cX6_gap 103 = .ok (.ireturn, 1) := by decide +kernel
theorem dX6_gap_104 : decode cX6_gap 104 = .ok (.iconst (-1), 1) := by decide +kernel
theorem dX6_gap_105 : decode cX6_gap 105 = .ok (.ireturn, 1) := by decide +kernel
theorem dX6_meet_0 : decode cX6_meet 0 = .ok (.aload_n 0, 1) := by decide +kernel
theorem dX6_meet_1 : decode cX6_meet 1 = .ok (.iload_n 1, 1) := by decide +kernel
theorem dX6_meet_2 : decode cX6_meet 2 = .ok (.iload_n 2, 1) := by decide +kernel
theorem dX6_meet_3 : decode cX6_meet 3 = .ok (.invokevirtual 303, 3) := by decide +kernel
theorem dX6_meet_6 : decode cX6_meet 6 = .ok (.ifCond .eq 11, 3) := by decide +kernel
theorem dX6_meet_9 : decode cX6_meet 9 = .ok (.iload_n 3, 1) := by decide +kernel
theorem dX6_meet_10 : decode cX6_meet 10 = .ok (.iconst 1, 1) := by decide +kernel
theorem dX6_meet_11 : decode cX6_meet 11 = .ok (.invokestatic 109, 3) := by decide +kernel
theorem dX6_meet_14 : decode cX6_meet 14 = .ok (.ifCond .ne 7, 3) := by decide +kernel
theorem dX6_meet_17 : decode cX6_meet 17 = .ok (.sipush (-2000), 3) := by decide +kernel
theorem dX6_meet_20 : decode cX6_meet 20 = .ok (.ireturn, 1) := by decide +kernel
theorem dX6_meet_21 : decode cX6_meet 21 = .ok (.aload_n 0, 1) := by decide +kernel
theorem dX6_meet_22 : decode cX6_meet 22 = .ok (.getfield 41, 3) := by decide +kernel
theorem dX6_meet_25 : decode cX6_meet 25 = .ok (.iload_n 1, 1) := by decide +kernel
theorem dX6_meet_26 : decode cX6_meet 26 = .ok (.iload_n 2, 1) := by decide +kernel
theorem dX6_meet_27 : decode cX6_meet 27 = .ok (.invokevirtual 309, 3) := by decide +kernel
theorem dX6_meet_30 : decode cX6_meet 30 = .ok (.ifCond .ne 7, 3) := by decide +kernel
theorem dX6_meet_33 : decode cX6_meet 33 = .ok (.sipush (-2000), 3) := by decide +kernel
theorem dX6_meet_36 : decode cX6_meet 36 = .ok (.ireturn, 1) := by decide +kernel
theorem dX6_meet_37 : decode cX6_meet 37 = .ok (.iload_n 3, 1) := by decide +kernel
theorem dX6_meet_38 : decode cX6_meet 38 = .ok (.ifCond .ne 13, 3) := by decide +kernel
theorem dX6_meet_41 : decode cX6_meet 41 = .ok (.aload_n 0, 1) := by decide +kernel
theorem dX6_meet_42 : decode cX6_meet 42 = .ok (.getfield 41, 3) := by decide +kernel
theorem dX6_meet_45 : decode cX6_meet 45 = .ok (.getfield 312, 3) := by decide +kernel
theorem dX6_meet_48 : decode cX6_meet 48 = .ok (.goto 10, 3) := by decide +kernel
theorem dX6_meet_51 : decode cX6_meet 51 = .ok (.aload_n 0, 1) := by decide +kernel
theorem dX6_meet_52 : decode cX6_meet 52 = .ok (.getfield 41, 3) := by decide +kernel
theorem dX6_meet_55 : decode cX6_meet 55 = .ok (.getfield 315, 3) := by decide +kernel
theorem dX6_meet_58 : decode cX6_meet 58 = .ok (.ireturn, 1) := by decide +kernel
theorem dX6_passesSieve_0 : decode cX6_passesSieve 0 = .ok (.iload_n 3, 1) := by decide +kernel
theorem dX6_passesSieve_1 : decode cX6_passesSieve 1 = .ok (.ifCond .ne 13, 3) := by decide +kernel
theorem dX6_passesSieve_4 : decode cX6_passesSieve 4 = .ok (.aload_n 0, 1) := by decide +kernel
theorem dX6_passesSieve_5 : decode cX6_passesSieve 5 = .ok (.getfield 41, 3) := by decide +kernel
theorem dX6_passesSieve_8 : decode cX6_passesSieve 8 = .ok (.iload_n 1, 1) := by decide +kernel
theorem dX6_passesSieve_9 : decode cX6_passesSieve 9 = .ok (.iload_n 2, 1) := by decide +kernel
theorem dX6_passesSieve_10 : decode cX6_passesSieve 10 = .ok (.invokevirtual 325, 3) := by decide +kernel
theorem dX6_passesSieve_13 : decode cX6_passesSieve 13 = .ok (.ireturn, 1) := by decide +kernel
theorem dX6_passesSieve_14 : decode cX6_passesSieve 14 = .ok (.iload_n 3, 1) := by decide +kernel
theorem dX6_passesSieve_15 : decode cX6_passesSieve 15 = .ok (.iconst 1, 1) := by decide +kernel
theorem dX6_passesSieve_16 : decode cX6_passesSieve 16 = .ok (.if_icmp .ne 33, 3) := by decide +kernel
theorem dX6_passesSieve_19 : decode cX6_passesSieve 19 = .ok (.aload_n 0, 1) := by decide +kernel
theorem dX6_passesSieve_20 : decode cX6_passesSieve 20 = .ok (.getfield 41, 3) := by decide +kernel
theorem dX6_passesSieve_23 : decode cX6_passesSieve 23 = .ok (.iload_n 1, 1) := by decide +kernel
theorem dX6_passesSieve_24 : decode cX6_passesSieve 24 = .ok (.iload_n 2, 1) := by decide +kernel
theorem dX6_passesSieve_25 : decode cX6_passesSieve 25 = .ok (.invokevirtual 325, 3) := by decide +kernel
theorem dX6_passesSieve_28 : decode cX6_passesSieve 28 = .ok (.ifCond .eq 19, 3) := by decide +kernel
theorem dX6_passesSieve_31 : decode cX6_passesSieve 31 = .ok (.aload_n 0, 1) := by decide +kernel
theorem dX6_passesSieve_32 : decode cX6_passesSieve 32 = .ok (.getfield 41, 3) := by decide +kernel
theorem dX6_passesSieve_35 : decode cX6_passesSieve 35 = .ok (.iload_n 1, 1) := by decide +kernel
theorem dX6_passesSieve_36 : decode cX6_passesSieve 36 = .ok (.iload_n 2, 1) := by decide +kernel
theorem dX6_passesSieve_37 : decode cX6_passesSieve 37 = .ok (.invokevirtual 328, 3) := by decide +kernel
theorem dX6_passesSieve_40 : decode cX6_passesSieve 40 = .ok (.ifCond .eq 7, 3) := by decide +kernel
theorem dX6_passesSieve_43 : decode cX6_passesSieve 43 = .ok (.iconst 1, 1) := by decide +kernel
theorem dX6_passesSieve_44 : decode cX6_passesSieve 44 = .ok (.goto 4, 3) := by decide +kernel
theorem dX6_passesSieve_47 : decode cX6_passesSieve 47 = .ok (.iconst 0, 1) := by decide +kernel
theorem dX6_passesSieve_48 : decode cX6_passesSieve 48 = .ok (.ireturn, 1) := by decide +kernel
theorem dX6_passesSieve_49 : decode cX6_passesSieve 49 = .ok (.aload_n 0, 1) := by decide +kernel
theorem dX6_passesSieve_50 : decode cX6_passesSieve 50 = .ok (.getfield 41, 3) := by decide +kernel
theorem dX6_passesSieve_53 : decode cX6_passesSieve 53 = .ok (.iload_n 1, 1) := by decide +kernel
theorem dX6_passesSieve_54 : decode cX6_passesSieve 54 = .ok (.iload_n 2, 1) := by decide +kernel
theorem dX6_passesSieve_55 : decode cX6_passesSieve 55 = .ok (.iconst 0, 1) := by decide +kernel
theorem dX6_passesSieve_56 : decode cX6_passesSieve 56 = .ok (.iconst 0, 1) := by decide +kernel
theorem dX6_passesSieve_57 : decode cX6_passesSieve 57 = .ok (.invokevirtual 318, 3) := by decide +kernel
theorem dX6_passesSieve_60 : decode cX6_passesSieve 60 = .ok (.ireturn, 1) := by decide +kernel
theorem dX6_reach_0 : decode cX6_reach 0 = .ok (.aload_n 0, 1) := by decide +kernel
theorem dX6_reach_1 : decode cX6_reach 1 = .ok (.iload_n 1, 1) := by decide +kernel
theorem dX6_reach_2 : decode cX6_reach 2 = .ok (.invokevirtual 86, 3) := by decide +kernel
theorem dX6_reach_5 : decode cX6_reach 5 = .ok (.ifCond .eq 32, 3) := by decide +kernel
theorem dX6_reach_8 : decode cX6_reach 8 = .ok (.iload_n 2, 1) := by decide +kernel
theorem dX6_reach_9 : decode cX6_reach 9 = .ok (.sipush 200, 3) := by decide +kernel
theorem dX6_reach_12 : decode cX6_reach 12 = .ok (.invokestatic 90, 3) := by decide +kernel
theorem dX6_reach_15 : decode cX6_reach 15 = .ok (.ifCond .eq 22, 3) := by decide +kernel
theorem dX6_reach_18 : decode cX6_reach 18 = .ok (.iload_n 3, 1) := by decide +kernel
theorem dX6_reach_19 : decode cX6_reach 19 = .ok (.sipush 200, 3) := by decide +kernel
theorem dX6_reach_22 : decode cX6_reach 22 = .ok (.invokestatic 90, 3) := by decide +kernel
theorem dX6_reach_25 : decode cX6_reach 25 = .ok (.ifCond .eq 12, 3) := by decide +kernel
theorem dX6_reach_28 : decode cX6_reach 28 = .ok (.iload 4, 2) := by decide +kernel
theorem dX6_reach_30 : decode cX6_reach 30 = .ok (.iconst 1, 1) := by decide +kernel
theorem dX6_reach_31 : decode cX6_reach 31 = .ok (.invokestatic 109, 3) := by decide +kernel
theorem dX6_reach_34 : decode cX6_reach 34 = .ok (.ifCond .ne 5, 3) := by decide +kernel
theorem dX6_reach_37 : decode cX6_reach 37 = .ok (.iconst (-1), 1) := by decide +kernel
theorem dX6_reach_38 : decode cX6_reach 38 = .ok (.ireturn, 1) := by decide +kernel
theorem dX6_reach_39 : decode cX6_reach 39 = .ok (.aload_n 0, 1) := by decide +kernel
theorem dX6_reach_40 : decode cX6_reach 40 = .ok (.getfield 41, 3) := by decide +kernel
theorem dX6_reach_43 : decode cX6_reach 43 = .ok (.iload_n 1, 1) := by decide +kernel
theorem dX6_reach_44 : decode cX6_reach 44 = .ok (.iload_n 2, 1) := by decide +kernel
theorem dX6_reach_45 : decode cX6_reach 45 = .ok (.iload_n 3, 1) := by decide +kernel
theorem dX6_reach_46 : decode cX6_reach 46 = .ok (.invokevirtual 204, 3) := by decide +kernel
theorem dX6_reach_49 : decode cX6_reach 49 = .ok (.iload 4, 2) := by decide +kernel
theorem dX6_reach_51 : decode cX6_reach 51 = .ok (.ifCond .ne 11, 3) := by decide +kernel
theorem dX6_reach_54 : decode cX6_reach 54 = .ok (.aload_n 0, 1) := by decide +kernel
theorem dX6_reach_55 : decode cX6_reach 55 = .ok (.getfield 41, 3) := by decide +kernel
theorem dX6_reach_58 : decode cX6_reach 58 = .ok (.getfield 208, 3) := by decide +kernel
theorem dX6_reach_61 : decode cX6_reach 61 = .ok (.ireturn, 1) := by decide +kernel
theorem dX6_reach_62 : decode cX6_reach 62 = .ok (.aload_n 0, 1) := by decide +kernel
theorem dX6_reach_63 : decode cX6_reach 63 = .ok (.getfield 41, 3) := by decide +kernel
theorem dX6_reach_66 : decode cX6_reach 66 = .ok (.getfield 338, 3) := by decide +kernel
theorem dX6_reach_69 : decode cX6_reach 69 = .ok (.iconst (-1), 1) := by decide +kernel
theorem dX6_reach_70 : decode cX6_reach 70 = .ok (.if_icmp .ne 8, 3) := by decide +kernel
theorem dX6_reach_73 : decode cX6_reach 73 = .ok (.bipush (-2), 2) := by decide +kernel
theorem dX6_reach_75 : decode cX6_reach 75 = .ok (.goto 10, 3) := by decide +kernel
theorem dX6_reach_78 : decode cX6_reach 78 = .ok (.aload_n 0, 1) := by decide +kernel
theorem dX6_reach_79 : decode cX6_reach 79 = .ok (.getfield 41, 3) := by decide +kernel
theorem dX6_reach_82 : decode cX6_reach 82 = .ok (.getfield 338, 3) := by decide +kernel
theorem dX6_reach_85 : decode cX6_reach 85 = .ok (.ireturn, 1) := by decide +kernel
theorem dX6_sieve_0 : decode cX6_sieve 0 = .ok (.iload_n 1, 1) := by decide +kernel
theorem dX6_sieve_1 : decode cX6_sieve 1 = .ok (.iconst 2, 1) := by decide +kernel
theorem dX6_sieve_2 : decode cX6_sieve 2 = .ok (.invokestatic 109, 3) := by decide +kernel
theorem dX6_sieve_5 : decode cX6_sieve 5 = .ok (.ifCond .ne 5, 3) := by decide +kernel
theorem dX6_sieve_8 : decode cX6_sieve 8 = .ok (.iconst (-1), 1) := by decide +kernel
theorem dX6_sieve_9 : decode cX6_sieve 9 = .ok (.ireturn, 1) := by decide +kernel
theorem dX6_sieve_10 : decode cX6_sieve 10 = .ok (.iconst 0, 1) := by decide +kernel
theorem dX6_sieve_11 : decode cX6_sieve 11 = .ok (.istore_n 2, 1) := by decide +kernel
theorem dX6_sieve_12 : decode cX6_sieve 12 = .ok (.iconst 0, 1) := by decide +kernel
theorem dX6_sieve_13 : decode cX6_sieve 13 = .ok (.istore_n 3, 1) := by decide +kernel
theorem dX6_sieve_14 : decode cX6_sieve 14 = .ok (.iload_n 3, 1) := by decide +kernel
theorem dX6_sieve_15 : decode cX6_sieve 15 = .ok (.aload_n 0, 1) := by decide +kernel
theorem dX6_sieve_16 : decode cX6_sieve 16 = .ok (.getfield 20, 3) := by decide +kernel
theorem dX6_sieve_19 : decode cX6_sieve 19 = .ok (.getfield 83, 3) := by decide +kernel
theorem dX6_sieve_22 : decode cX6_sieve 22 = .ok (.if_icmp .ge 46, 3) := by decide +kernel
theorem dX6_sieve_25 : decode cX6_sieve 25 = .ok (.iload_n 3, 1) := by decide +kernel
theorem dX6_sieve_26 : decode cX6_sieve 26 = .ok (.iconst 1, 1) := by decide +kernel
theorem dX6_sieve_27 : decode cX6_sieve 27 = .ok (.iadd, 1) := by decide +kernel
theorem dX6_sieve_28 : decode cX6_sieve 28 = .ok (.istore 4, 2) := by decide +kernel
theorem dX6_sieve_30 : decode cX6_sieve 30 = .ok (.iload 4, 2) := by decide +kernel
theorem dX6_sieve_32 : decode cX6_sieve 32 = .ok (.aload_n 0, 1) := by decide +kernel
theorem dX6_sieve_33 : decode cX6_sieve 33 = .ok (.getfield 20, 3) := by decide +kernel
theorem dX6_sieve_36 : decode cX6_sieve 36 = .ok (.getfield 83, 3) := by decide +kernel
theorem dX6_sieve_39 : decode cX6_sieve 39 = .ok (.if_icmp .ge 23, 3) := by decide +kernel
theorem dX6_sieve_42 : decode cX6_sieve 42 = .ok (.aload_n 0, 1) := by decide +kernel
theorem dX6_sieve_43 : decode cX6_sieve 43 = .ok (.iload_n 3, 1) := by decide +kernel
theorem dX6_sieve_44 : decode cX6_sieve 44 = .ok (.iload 4, 2) := by decide +kernel
theorem dX6_sieve_46 : decode cX6_sieve 46 = .ok (.iload_n 1, 1) := by decide +kernel
theorem dX6_sieve_47 : decode cX6_sieve 47 = .ok (.invokevirtual 322, 3) := by decide +kernel
theorem dX6_sieve_50 : decode cX6_sieve 50 = .ok (.ifCond .eq 6, 3) := by decide +kernel
theorem dX6_sieve_53 : decode cX6_sieve 53 = .ok (.iinc 2 1, 3) := by decide +kernel
theorem dX6_sieve_56 : decode cX6_sieve 56 = .ok (.iinc 4 1, 3) := by decide +kernel
theorem dX6_sieve_59 : decode cX6_sieve 59 = .ok (.goto (-29), 3) := by decide +kernel
theorem dX6_sieve_62 : decode cX6_sieve 62 = .ok (.iinc 3 1, 3) := by decide +kernel
theorem dX6_sieve_65 : decode cX6_sieve 65 = .ok (.goto (-51), 3) := by decide +kernel
theorem dX6_sieve_68 : decode cX6_sieve 68 = .ok (.iload_n 2, 1) := by decide +kernel
theorem dX6_sieve_69 : decode cX6_sieve 69 = .ok (.ireturn, 1) := by decide +kernel
theorem dX6_touching_0 : decode cX6_touching 0 = .ok (.aload_n 0, 1) := by decide +kernel
theorem dX6_touching_1 : decode cX6_touching 1 = .ok (.iload_n 1, 1) := by decide +kernel
theorem dX6_touching_2 : decode cX6_touching 2 = .ok (.invokevirtual 86, 3) := by decide +kernel
theorem dX6_touching_5 : decode cX6_touching 5 = .ok (.ifCond .ne 5, 3) := by decide +kernel
theorem dX6_touching_8 : decode cX6_touching 8 = .ok (.iconst (-1), 1) := by decide +kernel
theorem dX6_touching_9 : decode cX6_touching 9 = .ok (.ireturn, 1) := by decide +kernel
theorem dX6_touching_10 : decode cX6_touching 10 = .ok (.iconst 0, 1) := by decide +kernel
theorem dX6_touching_11 : decode cX6_touching 11 = .ok (.istore_n 2, 1) := by decide +kernel
theorem dX6_touching_12 : decode cX6_touching 12 = .ok (.iconst 0, 1) := by decide +kernel
theorem dX6_touching_13 : decode cX6_touching 13 = .ok (.istore_n 3, 1) := by decide +kernel
theorem dX6_touching_14 : decode cX6_touching 14 = .ok (.iload_n 3, 1) := by decide +kernel
theorem dX6_touching_15 : decode cX6_touching 15 = .ok (.aload_n 0, 1) := by decide +kernel
theorem dX6_touching_16 : decode cX6_touching 16 = .ok (.getfield 20, 3) := by decide +kernel
theorem dX6_touching_19 : decode cX6_touching 19 = .ok (.getfield 83, 3) := by decide +kernel
theorem dX6_touching_22 : decode cX6_touching 22 = .ok (.if_icmp .ge 34, 3) := by decide +kernel
theorem dX6_touching_25 : decode cX6_touching 25 = .ok (.iload_n 3, 1) := by decide +kernel
theorem dX6_touching_26 : decode cX6_touching 26 = .ok (.iload_n 1, 1) := by decide +kernel
theorem dX6_touching_27 : decode cX6_touching 27 = .ok (.if_icmp .eq 23, 3) := by decide +kernel
theorem dX6_touching_30 : decode cX6_touching 30 = .ok (.aload_n 0, 1) := by decide +kernel
theorem dX6_touching_31 : decode cX6_touching 31 = .ok (.getfield 41, 3) := by decide +kernel
theorem dX6_touching_34 : decode cX6_touching 34 = .ok (.iload_n 1, 1) := by decide +kernel
theorem dX6_touching_35 : decode cX6_touching 35 = .ok (.iload_n 3, 1) := by decide +kernel
theorem dX6_touching_36 : decode cX6_touching 36 = .ok (.iconst 0, 1) := by decide +kernel
theorem dX6_touching_37 : decode cX6_touching 37 = .ok (.iconst 0, 1) := by decide +kernel
theorem dX6_touching_38 : decode cX6_touching 38 = .ok (.invokevirtual 318, 3) := by decide +kernel
theorem dX6_touching_41 : decode cX6_touching 41 = .ok (.ifCond .eq 9, 3) := by decide +kernel
theorem dX6_touching_44 : decode cX6_touching 44 = .ok (.iload_n 2, 1) := by decide +kernel
theorem dX6_touching_45 : decode cX6_touching 45 = .ok (.iconst 1, 1) := by decide +kernel
theorem dX6_touching_46 : decode cX6_touching 46 = .ok (.iload_n 3, 1) := by decide +kernel
theorem dX6_touching_47 : decode cX6_touching 47 = .ok (.ishl, 1) := by decide +kernel
theorem dX6_touching_48 : decode cX6_touching 48 = .ok (.ior, 1) := by decide +kernel
theorem dX6_touching_49 : decode cX6_touching 49 = .ok (.istore_n 2, 1) := by decide +kernel
theorem dX6_touching_50 : decode cX6_touching 50 = .ok (.iinc 3 1, 3) := by decide +kernel
theorem dX6_touching_53 : decode cX6_touching 53 = .ok (.goto (-39), 3) := by decide +kernel
theorem dX6_touching_56 : decode cX6_touching 56 = .ok (.iload_n 2, 1) := by decide +kernel
theorem dX6_touching_57 : decode cX6_touching 57 = .ok (.ireturn, 1) := by decide +kernel
set_option maxRecDepth 100000 in
theorem pq7 : Cond.selects RX6 yX6_areTwoBodies yX6_areTwoBodies ∈ pw := pw_mem (i := 7) (by decide +kernel) rfl
set_option maxRecDepth 100000 in
theorem pq8 : Cond.selects RX6 yX6_passesSieve yX6_passesSieve ∈ pw := pw_mem (i := 8) (by decide +kernel) rfl
set_option maxRecDepth 100000 in
theorem pq191 : Cond.fieldLink RX6 124 "MaskTouch$Body" "vx" "I" ∈ pw := pw_mem (i := 191) (by decide +kernel) rfl
set_option maxRecDepth 100000 in
theorem pq194 : Cond.fieldLink RX6 127 "MaskTouch$Body" "vy" "I" ∈ pw := pw_mem (i := 194) (by decide +kernel) rfl
set_option maxRecDepth 100000 in
theorem pq219 : Cond.fieldLink RX6 94 "MaskTouch$Field" "bodies" "[LMaskTouch$Body;" ∈ pw := pw_mem (i := 219) (by decide +kernel) rfl
set_option maxRecDepth 100000 in
theorem pq277 : Cond.fieldLink RX6 208 "MaskTouch$Scene" "steps" "I" ∈ pw := pw_mem (i := 277) (by decide +kernel) rfl
set_option maxRecDepth 100000 in
theorem pq279 : Cond.fieldLink RX6 338 "MaskTouch$Scene" "stopper" "I" ∈ pw := pw_mem (i := 279) (by decide +kernel) rfl
set_option maxRecDepth 100000 in
theorem pq283 : Cond.fieldLink RX6 344 "MaskTouch$Scene" "found" "I" ∈ pw := pw_mem (i := 283) (by decide +kernel) rfl
set_option maxRecDepth 100000 in
theorem pq285 : Cond.fieldLink RX6 312 "MaskTouch$Scene" "foundX" "I" ∈ pw := pw_mem (i := 285) (by decide +kernel) rfl
set_option maxRecDepth 100000 in
theorem pq287 : Cond.fieldLink RX6 315 "MaskTouch$Scene" "foundY" "I" ∈ pw := pw_mem (i := 287) (by decide +kernel) rfl
set_option maxRecDepth 100000 in
theorem pq640 : Cond.methodLink RX6 90 yX6_isWithin ∈ pw := pw_mem (i := 640) (by decide +kernel) rfl
set_option maxRecDepth 100000 in
theorem pq739 : Cond.methodLink RX6 204 yX5_tryGlide ∈ pw := pw_mem (i := 739) (by decide +kernel) rfl
set_option maxRecDepth 100000 in
theorem pq740 : Cond.instanceMethod yX5_tryGlide ∈ pw := pw_mem (i := 740) (by decide +kernel) rfl
set_option maxRecDepth 100000 in
theorem pq741 : Cond.selects RX5 yX5_tryGlide yX5_tryGlide ∈ pw := pw_mem (i := 741) (by decide +kernel) rfl
set_option maxRecDepth 100000 in
theorem pq742 : Cond.code yX5_tryGlide cX5_tryGlide 10 none ∈ pw := pw_mem (i := 742) (by rfl) rfl
set_option maxRecDepth 100000 in
theorem pq962 : Cond.methodLink RX6 299 yX0_told ∈ pw := pw_mem (i := 962) (by decide +kernel) rfl
set_option maxRecDepth 100000 in
theorem pq963 : Cond.instanceMethod yX0_told ∈ pw := pw_mem (i := 963) (by decide +kernel) rfl
set_option maxRecDepth 100000 in
theorem pq964 : Cond.selects RX0 yX0_told yX0_told ∈ pw := pw_mem (i := 964) (by decide +kernel) rfl
set_option maxRecDepth 100000 in
theorem pq965 : Cond.code yX0_told cX0_told 2 (some .int) ∈ pw := pw_mem (i := 965) (by rfl) rfl
set_option maxRecDepth 100000 in
theorem pq970 : Cond.methodLink RX6 303 yX6_areTwoBodies ∈ pw := pw_mem (i := 970) (by decide +kernel) rfl
set_option maxRecDepth 100000 in
theorem pq972 : Cond.instanceMethod yX6_areTwoBodies ∈ pw := pw_mem (i := 972) (by decide +kernel) rfl
set_option maxRecDepth 100000 in
theorem pq973 : Cond.code yX6_areTwoBodies cX6_areTwoBodies 3 (some .boolean) ∈ pw := pw_mem (i := 973) (by rfl) rfl
set_option maxRecDepth 100000 in
theorem pq974 : Cond.methodLink RX6 306 yX5_sharedIfMoved ∈ pw := pw_mem (i := 974) (by decide +kernel) rfl
set_option maxRecDepth 100000 in
theorem pq975 : Cond.instanceMethod yX5_sharedIfMoved ∈ pw := pw_mem (i := 975) (by decide +kernel) rfl
set_option maxRecDepth 100000 in
theorem pq976 : Cond.selects RX5 yX5_sharedIfMoved yX5_sharedIfMoved ∈ pw := pw_mem (i := 976) (by decide +kernel) rfl
set_option maxRecDepth 100000 in
theorem pq977 : Cond.code yX5_sharedIfMoved cX5_sharedIfMoved 7 (some .int) ∈ pw := pw_mem (i := 977) (by rfl) rfl
set_option maxRecDepth 100000 in
theorem pq985 : Cond.methodLink RX6 309 yX5_findMeeting ∈ pw := pw_mem (i := 985) (by decide +kernel) rfl
set_option maxRecDepth 100000 in
theorem pq986 : Cond.instanceMethod yX5_findMeeting ∈ pw := pw_mem (i := 986) (by decide +kernel) rfl
set_option maxRecDepth 100000 in
theorem pq987 : Cond.selects RX5 yX5_findMeeting yX5_findMeeting ∈ pw := pw_mem (i := 987) (by decide +kernel) rfl
set_option maxRecDepth 100000 in
theorem pq988 : Cond.code yX5_findMeeting cX5_findMeeting 14 (some .boolean) ∈ pw := pw_mem (i := 988) (by rfl) rfl
set_option maxRecDepth 100000 in
theorem pq997 : Cond.methodLink RX6 318 yX5_touchesIfMoved ∈ pw := pw_mem (i := 997) (by decide +kernel) rfl
set_option maxRecDepth 100000 in
theorem pq1002 : Cond.methodLink RX6 322 yX6_passesSieve ∈ pw := pw_mem (i := 1002) (by decide +kernel) rfl
set_option maxRecDepth 100000 in
theorem pq1004 : Cond.instanceMethod yX6_passesSieve ∈ pw := pw_mem (i := 1004) (by decide +kernel) rfl
set_option maxRecDepth 100000 in
theorem pq1005 : Cond.code yX6_passesSieve cX6_passesSieve 4 (some .boolean) ∈ pw := pw_mem (i := 1005) (by rfl) rfl
set_option maxRecDepth 100000 in
theorem pq1006 : Cond.methodLink RX6 325 yX5_mayTouch ∈ pw := pw_mem (i := 1006) (by decide +kernel) rfl
set_option maxRecDepth 100000 in
theorem pq1007 : Cond.methodLink RX6 328 yX5_boxesShare ∈ pw := pw_mem (i := 1007) (by decide +kernel) rfl
set_option maxRecDepth 100000 in
theorem pq1008 : Cond.instanceMethod yX5_boxesShare ∈ pw := pw_mem (i := 1008) (by decide +kernel) rfl
set_option maxRecDepth 100000 in
theorem pq1009 : Cond.selects RX5 yX5_boxesShare yX5_boxesShare ∈ pw := pw_mem (i := 1009) (by decide +kernel) rfl
set_option maxRecDepth 100000 in
theorem pq1010 : Cond.code yX5_boxesShare cX5_boxesShare 5 (some .boolean) ∈ pw := pw_mem (i := 1010) (by rfl) rfl
set_option maxRecDepth 100000 in
theorem pq1019 : Cond.methodLink RX6 331 yX5_covers ∈ pw := pw_mem (i := 1019) (by decide +kernel) rfl
set_option maxRecDepth 100000 in
theorem pq1028 : Cond.methodLink RX6 334 yX5_firstTouchOfTwo ∈ pw := pw_mem (i := 1028) (by decide +kernel) rfl
set_option maxRecDepth 100000 in
theorem pq1029 : Cond.instanceMethod yX5_firstTouchOfTwo ∈ pw := pw_mem (i := 1029) (by decide +kernel) rfl
set_option maxRecDepth 100000 in
theorem pq1030 : Cond.selects RX5 yX5_firstTouchOfTwo yX5_firstTouchOfTwo ∈ pw := pw_mem (i := 1030) (by decide +kernel) rfl
set_option maxRecDepth 100000 in
theorem pq1031 : Cond.code yX5_firstTouchOfTwo cX5_firstTouchOfTwo 7 (some .int) ∈ pw := pw_mem (i := 1031) (by rfl) rfl
set_option maxRecDepth 100000 in
theorem pq1044 : Cond.methodLink RX6 341 yX5_findApart ∈ pw := pw_mem (i := 1044) (by decide +kernel) rfl
set_option maxRecDepth 100000 in
theorem pq1045 : Cond.instanceMethod yX5_findApart ∈ pw := pw_mem (i := 1045) (by decide +kernel) rfl
set_option maxRecDepth 100000 in
theorem pq1046 : Cond.selects RX5 yX5_findApart yX5_findApart ∈ pw := pw_mem (i := 1046) (by decide +kernel) rfl
set_option maxRecDepth 100000 in
theorem pq1047 : Cond.code yX5_findApart cX5_findApart 7 none ∈ pw := pw_mem (i := 1047) (by rfl) rfl
set_option maxRecDepth 100000 in
theorem pq1053 : Cond.methodLink RX6 347 yX5_findBest ∈ pw := pw_mem (i := 1053) (by decide +kernel) rfl
set_option maxRecDepth 100000 in
theorem pq1054 : Cond.instanceMethod yX5_findBest ∈ pw := pw_mem (i := 1054) (by decide +kernel) rfl
set_option maxRecDepth 100000 in
theorem pq1055 : Cond.selects RX5 yX5_findBest yX5_findBest ∈ pw := pw_mem (i := 1055) (by decide +kernel) rfl
set_option maxRecDepth 100000 in
theorem pq1056 : Cond.code yX5_findBest cX5_findBest 11 none ∈ pw := pw_mem (i := 1056) (by rfl) rfl
set_option maxHeartbeats 4000000 in
set_option maxRecDepth 100000 in
theorem s_X6_body (l : Launch) (dC : Nat → ClassId) (dI : Nat → Nat → Nat) (cs : Nat → ClassId) (L : List Nat) (K G : Nat → Nat) (Q : Nat → Nat → Option Nat) (hQ : Sv L K G Q) (x0 m0 : Nat) (tx : GT) (tm : GT × Int) (sz : Nat) (I : Nat → Nat → Int32) (J : Nat → Nat → Int64) (hI : Iv L K x0 m0 tx tm I) (p0 : Nat) (hLp0 : p0 ∈ L) (hKp0 : K p0 = 6) (p1 : Int32) (p2 : Int32) : Met l yX6_body (.code yX6_body cX6_body 3 (some .int) :: pw) ({ frames := 1, cells := 0, slots := 0, locals := 21 }) (sP (dC, dI) cs [.ref p0, .int p1, .int p2] sz L K I J Q) (va_Qi (fun (r : Int32) (_ : Unit) => (∀ σ : Sx, cxA Q I J p0 σ → r.toInt = bdR σ p1 p2)) (fun _ _ => True) (fun _ => False)) 0 0 (fun _ => False) := by
  refine Met.ofW (cc := cX6_body) (maxL := 3) (ret := (some .int)) (by decide +kernel) rfl ?_
  intro p e s m args below meth c s₁ B hml hv
  obtain ⟨rfl, hsz, hP, hK, hD0, hN⟩ := hv
  have hx := B.exec
  have hb := B.bytes
  have hr := B.returns
  have hts := fun w (h : w ∈ pw) => atoms_spec (ws := Cond.code yX6_body cX6_body 3 (some .int) :: pw) B.pre w (List.mem_cons_of_mem _ h)
  have hown : s.vm.findClass RX6 = some m.cls := findClass_of_methodNamed B.named
  have hlocks := B.notSynchronized
  subst hsz
  have hBB : 999 ≤ tm.2 ∧ tm.2 ≤ 6000000 := hI.2.2.2.2.1
  have hD := hD0
  obtain ⟨H, hHe⟩ : ∃ H : Heap, H = s.heap := ⟨_, rfl⟩
  have hS : va_S (fun _ => False) s.heap H [] := by rw [hHe]; exact va_S.rf
  rw [← hHe] at hP
  have hl := lv_entry ([.ref p0, .int p1, .int p2]) (n := 3) (Nat.le_of_ble_eq_true rfl)
  rw [lg_entry_eq]
  generalize (lg_sl ([.ref p0, .int p1, .int p2]) ++ List.replicate (3 - (lg_sl ([.ref p0, .int p1, .int p2])).length) Slot.unset).toArray = ls at hl ⊢
  have hl : lv_has ls 3 [(0, .ref p0), (1, .int p1), (2, .int p2)] := hl
  rw [← hHe]
  refine namedW (fun R Qz hR hQz => ?_)
  refine lv_aload_n hx hb dX6_body_0 rfl (lv_at hl 0 rfl) ?_
  refine lv_iload_n hx hb dX6_body_1 rfl (lv_at hl 1 rfl) ?_
  refine ro_i (va_runV (As := [.int p1]) (rest := []) ⟨hx, hb, hml, hown, hts⟩ (s_X6_isBody l dC dI cs L K G Q hQ x0 m0 tx tm H.size I J hI p0 hLp0 hKp0 p1) (cwV 1 hts (gV pq636 pq638 pq2 pq74 pq639) rfl rfl rfl (by decide +kernel) ⟨(by rw [hR]; exact (Nat.le_of_ble_eq_true rfl)), (by rw [hR]; exact (Nat.le_of_ble_eq_true rfl))⟩) (sP_V hP hD hK hN hLp0 hKp0 rfl rfl) rfl rfl hl.1 rfl (lv_room (Nat.le_of_ble_eq_true rfl)) dX6_body_2 ⟨(by rw [hR]; exact (Nat.le_of_ble_eq_true rfl)), (by rw [hR]; exact (Nat.le_of_ble_eq_true rfl))⟩) hS hP (fun z2 H locs hz2 hP hS => ?_)
  obtain ⟨bz2, imz2, xpz2⟩ := hz2
  refine lv_if_eq (tgt := 17) hx hb dX6_body_5 (by decide) (fun c5 => ?_) (fun c5 => ?_)
  · have t5 := tq_eq (k := z2.toInt) (q := (0)) c5 rfl (by decide +kernel)
    refine lv_sipush (v := (-2000)) hx hb dX6_body_17 (by decide +kernel) ?_
    subst hR; subst hQz
    exact W.iret (v := (-2000)) hx hb hr (fun t ht hW => ⟨⟨(-2000), (), rfl, (fun σ h => by unfold bdR; rw [if_neg (fun w => by first | exact (xpz2.2 t5) (by rw [cx_1 h]; exact w.1) | exact xpz11 t14 w.2)]; decide +kernel), trivial⟩, hS.F ht⟩) hS.2.2 dX6_body_20
  · have t5 := tq_ne (k := z2.toInt) (q := (0)) c5 rfl (by decide +kernel)
    have i5 := imz2 t5
    refine lv_iload_n hx hb dX6_body_8 rfl (lv_at hl 2 rfl) ?_
    refine lv_bipush (v := 7) hx hb dX6_body_9 (by decide +kernel) ?_
    refine ro_i (va_runS (As := [.int p2, .int 7]) (rest := []) ⟨hx, hb, hml, hown, hts⟩ (s_X6_isFrom0To l dC dI cs L K G Q hQ x0 m0 tx tm H.size I J hI p2 7) (va_cwS 2 hts (gS pq651 pq652 pq74 pq653) rfl rfl rfl (by decide +kernel) ⟨(by rw [hR]; exact (Nat.le_of_ble_eq_true rfl)), (by rw [hR]; exact (Nat.le_of_ble_eq_true rfl))⟩) (sP_S hP hD hK hN) rfl rfl hl.1 rfl (lv_room (Nat.le_of_ble_eq_true rfl)) dX6_body_11 ⟨(by rw [hR]; exact (Nat.le_of_ble_eq_true rfl)), (by rw [hR]; exact (Nat.le_of_ble_eq_true rfl))⟩) hS hP (fun z11 H locs hz11 hP hS => ?_)
    have cst11_7 : (7 : Int32).toInt = 7 := by decide +kernel
    obtain ⟨bz11, imz11, xpz11⟩ := hz11
    try rw [cst11_7] at xpz11
    refine lv_if_ne (tgt := 21) hx hb dX6_body_14 (by decide) (fun c14 => ?_) (fun c14 => ?_)
    · have t14 := tq_ne (k := z11.toInt) (q := (0)) c14 rfl (by decide +kernel)
      have i14 := imz11 t14
      refine lv_aload_n hx hb dX6_body_21 rfl (lv_at hl 0 rfl) ?_
      obtain ⟨y22, ey22, hLy22, hKy22, hGy22⟩ := oQ_6_2 (Sv_at hQ hLp0 hKp0)
      refine p_get (v := .ref y22) hx hb hts inX6 hown hK hP hLp0 hKp0 rfl rfl 2 (by decide) (hts _ pq351) (congrArg (fun q => some (va_rf q)) ey22) dX6_body_22 ?_
      obtain ⟨y25, ey25, hLy25, hKy25, hGy25⟩ := oQ_1_1 (Sv_at hQ hLy22 hKy22)
      refine p_get (v := .ref y25) hx hb hts inX1 hown hK hP hLy22 hKy22 rfl rfl 1 (by decide) (hts _ pq219) (congrArg (fun q => some (va_rf q)) ey25) dX6_body_25 ?_
      refine lv_iload_n hx hb dX6_body_28 rfl (lv_at hl 1 rfl) ?_
      obtain ⟨y29, ey29, hLy29, hKy29, hGy29⟩ := (Sv_at hQ hLy25 hKy25).1 p1.toNatClampNeg (clamp_lt (n := 10) (in_of (by omega) (by omega)))
      refine p_aaldR hx hb hK hP 4 hLy25 hKy25 rfl rfl (in_of (by omega) (by omega)) ey29 dX6_body_29 ?_
      refine lv_iload_n hx hb dX6_body_30 rfl (lv_at hl 2 rfl) ?_
      refine ro_i (va_runV (As := [.int p2]) (rest := []) ⟨hx, hb, hml, hown, hts⟩ (s_X0_told l dC dI cs L K G Q hQ x0 m0 tx tm H.size I J hI y29 hLy29 hKy29 p2) (cwV 1 hts (gV pq962 pq963 pq964 pq77 pq965) rfl rfl rfl (by decide +kernel) ⟨(by rw [hR]; exact (Nat.le_of_ble_eq_true rfl)), (by rw [hR]; exact (Nat.le_of_ble_eq_true rfl))⟩) (sP_V hP hD hK hN hLy29 hKy29 rfl rfl) rfl rfl hl.1 rfl (lv_room (Nat.le_of_ble_eq_true rfl)) dX6_body_31 ⟨(by rw [hR]; exact (Nat.le_of_ble_eq_true rfl)), (by rw [hR]; exact (Nat.le_of_ble_eq_true rfl))⟩) hS hP (fun z31 H locs hz31 hP hS => ?_)
      have xpz31 := hz31
      subst hR; subst hQz
      exact W.iret (v := z31) hx hb hr (fun t ht hW => ⟨⟨z31, (), rfl, (fun σ h => by have q := xpz2.1 t5; rw [cx_1 h] at q; have va := cx_b h (b := p1.toInt.toNat) (k := p2.toInt.toNat) (by omega) (by omega); rw [show fb Q (an Q p0) p1.toInt.toNat = y29 from (by rw [show an Q p0 = y22 from gd_of ey22]; exact fb_of ey25 ey29)] at va; unfold bdR; rw [if_pos ⟨q, by omega, by omega⟩, ← va]; exact congrArg Int32.toInt (xpz31 (by omega) (by omega))), trivial⟩, hS.F ht⟩) hS.2.2 dX6_body_34
    · have t14 := tq_eq (k := z11.toInt) (q := (0)) c14 rfl (by decide +kernel)
      refine lv_sipush (v := (-2000)) hx hb dX6_body_17 (by decide +kernel) ?_
      subst hR; subst hQz
      exact W.iret (v := (-2000)) hx hb hr (fun t ht hW => ⟨⟨(-2000), (), rfl, (fun σ h => by unfold bdR; rw [if_neg (fun w => by first | exact (xpz2.2 t5) (by rw [cx_1 h]; exact w.1) | exact xpz11 t14 w.2)]; decide +kernel), trivial⟩, hS.F ht⟩) hS.2.2 dX6_body_20

set_option maxHeartbeats 4000000 in
set_option maxRecDepth 100000 in
theorem s_X6_common (l : Launch) (dC : Nat → ClassId) (dI : Nat → Nat → Nat) (cs : Nat → ClassId) (L : List Nat) (K G : Nat → Nat) (Q : Nat → Nat → Option Nat) (hQ : Sv L K G Q) (x0 m0 : Nat) (tx : GT) (tm : GT × Int) (sz : Nat) (I : Nat → Nat → Int32) (J : Nat → Nat → Int64) (hI : Iv L K x0 m0 tx tm I) (p0 : Nat) (hLp0 : p0 ∈ L) (hKp0 : K p0 = 6) (p1 : Int32) (p2 : Int32) : Met l yX6_common (.code yX6_common cX6_common 3 (some .int) :: pw) ({ frames := 3, cells := 0, slots := 0, locals := 83 }) (sP (dC, dI) cs [.ref p0, .int p1, .int p2] sz L K I J Q) (va_Qi (fun (r : Int32) (_ : Unit) => (∀ σ : Sx, cxA Q I J p0 σ → r.toInt = comR σ p1 p2)) (fun _ _ => True) (fun _ => False)) 0 0 (fun _ => False) := by
  refine Met.ofW (cc := cX6_common) (maxL := 3) (ret := (some .int)) (by decide +kernel) rfl ?_
  intro p e s m args below meth c s₁ B hml hv
  obtain ⟨rfl, hsz, hP, hK, hD0, hN⟩ := hv
  have hx := B.exec
  have hb := B.bytes
  have hr := B.returns
  have hts := fun w (h : w ∈ pw) => atoms_spec (ws := Cond.code yX6_common cX6_common 3 (some .int) :: pw) B.pre w (List.mem_cons_of_mem _ h)
  have hown : s.vm.findClass RX6 = some m.cls := findClass_of_methodNamed B.named
  have hlocks := B.notSynchronized
  subst hsz
  have hBB : 999 ≤ tm.2 ∧ tm.2 ≤ 6000000 := hI.2.2.2.2.1
  have hD := hD0
  obtain ⟨H, hHe⟩ : ∃ H : Heap, H = s.heap := ⟨_, rfl⟩
  have hS : va_S (fun _ => False) s.heap H [] := by rw [hHe]; exact va_S.rf
  rw [← hHe] at hP
  have hl := lv_entry ([.ref p0, .int p1, .int p2]) (n := 3) (Nat.le_of_ble_eq_true rfl)
  rw [lg_entry_eq]
  generalize (lg_sl ([.ref p0, .int p1, .int p2]) ++ List.replicate (3 - (lg_sl ([.ref p0, .int p1, .int p2])).length) Slot.unset).toArray = ls at hl ⊢
  have hl : lv_has ls 3 [(0, .ref p0), (1, .int p1), (2, .int p2)] := hl
  rw [← hHe]
  refine namedW (fun R Qz hR hQz => ?_)
  refine lv_aload_n hx hb dX6_common_0 rfl (lv_at hl 0 rfl) ?_
  refine lv_iload_n hx hb dX6_common_1 rfl (lv_at hl 1 rfl) ?_
  refine lv_iload_n hx hb dX6_common_2 rfl (lv_at hl 2 rfl) ?_
  refine ro_i (va_runV (As := [.int p1, .int p2]) (rest := []) ⟨hx, hb, hml, hown, hts⟩ (s_X6_areTwoBodies l dC dI cs L K G Q hQ x0 m0 tx tm H.size I J hI p0 hLp0 hKp0 p1 p2) (cwV 2 hts (gV pq970 pq972 pq7 pq74 pq973) rfl rfl rfl (by decide +kernel) ⟨(by rw [hR]; exact (Nat.le_of_ble_eq_true rfl)), (by rw [hR]; exact (Nat.le_of_ble_eq_true rfl))⟩) (sP_V hP hD hK hN hLp0 hKp0 rfl rfl) rfl rfl hl.1 rfl (lv_room (Nat.le_of_ble_eq_true rfl)) dX6_common_3 ⟨(by rw [hR]; exact (Nat.le_of_ble_eq_true rfl)), (by rw [hR]; exact (Nat.le_of_ble_eq_true rfl))⟩) hS hP (fun z3 H locs hz3 hP hS => ?_)
  obtain ⟨bz3, imz3, xpz3⟩ := hz3
  refine lv_if_ne (tgt := 11) hx hb dX6_common_6 (by decide) (fun c6 => ?_) (fun c6 => ?_)
  · have t6 := tq_ne (k := z3.toInt) (q := (0)) c6 rfl (by decide +kernel)
    have i6 := imz3 t6
    refine lv_aload_n hx hb dX6_common_11 rfl (lv_at hl 0 rfl) ?_
    obtain ⟨y12, ey12, hLy12, hKy12, hGy12⟩ := oQ_6_5 (Sv_at hQ hLp0 hKp0)
    refine p_get (v := .ref y12) hx hb hts inX6 hown hK hP hLp0 hKp0 rfl rfl 5 (by decide) (hts _ pq354) (congrArg (fun q => some (va_rf q)) ey12) dX6_common_12 ?_
    refine lv_iload_n hx hb dX6_common_15 rfl (lv_at hl 1 rfl) ?_
    refine lv_iload_n hx hb dX6_common_16 rfl (lv_at hl 2 rfl) ?_
    refine lv_iconst (v := 0) hx hb dX6_common_17 (by decide +kernel) ?_
    refine lv_iconst (v := 0) hx hb dX6_common_18 (by decide +kernel) ?_
    refine ro_i (va_runV (As := [.int p1, .int p2, .int 0, .int 0]) (rest := []) ⟨hx, hb, hml, hown, hts⟩ (s_X5_sharedIfMoved l dC dI cs L K G Q hQ x0 m0 tx tm H.size I J hI y12 hLy12 hKy12 p1 ⟨by omega, by omega⟩ p2 ⟨by omega, by omega⟩ 0 0) (cwV 4 hts (gV pq974 pq975 pq976 pq79 pq977) rfl rfl rfl (by decide +kernel) ⟨(by rw [hR]; exact (Nat.le_of_ble_eq_true rfl)), (by rw [hR]; exact (Nat.le_of_ble_eq_true rfl))⟩) (sP_V hP hD hK hN hLy12 hKy12 rfl rfl) rfl rfl hl.1 rfl (lv_room (Nat.le_of_ble_eq_true rfl)) dX6_common_19 ⟨(by rw [hR]; exact (Nat.le_of_ble_eq_true rfl)), (by rw [hR]; exact (Nat.le_of_ble_eq_true rfl))⟩) hS hP (fun z19 H locs hz19 hP hS => ?_)
    have cst19_0 : (0 : Int32).toInt = 0 := by decide +kernel
    have xpz19 := hz19
    try rw [cst19_0] at xpz19
    subst hR; subst hQz
    exact W.iret (v := z19) hx hb hr (fun t ht hW => ⟨⟨z19, (), rfl, (fun σ h => by have e := cx_1 h; have T := cxA_tg h; rw [show se Q p0 = y12 from gd_of ey12] at T; have t := xpz3.mp t6; rw [e] at t; have w := xpz19 σ.1 T.1 T.2.1 T.2.2 (show p1.toInt.toNat < _ by omega) (show p2.toInt.toNat < _ by omega) ⟨⟨by decide +kernel, by decide +kernel⟩, by decide +kernel, by decide +kernel⟩; (try rw [show (0 : Int32).toInt = 0 from by decide +kernel] at w); rw [com_y t]; exact w), trivial⟩, hS.F ht⟩) hS.2.2 dX6_common_22
  · have t6 := tq_eq (k := z3.toInt) (q := (0)) c6 rfl (by decide +kernel)
    refine lv_iconst (v := (-1)) hx hb dX6_common_9 (by decide +kernel) ?_
    subst hR; subst hQz
    exact W.iret (v := (-1)) hx hb hr (fun t ht hW => ⟨⟨(-1), (), rfl, (fun σ h => by have e := cx_1 h; rw [com_n (fun t => by unfold twV at t; rw [← e] at t; exact (xpz3.mpr t) t6)]; decide +kernel), trivial⟩, hS.F ht⟩) hS.2.2 dX6_common_10

set_option maxHeartbeats 4000000 in
set_option maxRecDepth 100000 in
theorem s_X6_meet (l : Launch) (dC : Nat → ClassId) (dI : Nat → Nat → Nat) (cs : Nat → ClassId) (L : List Nat) (K G : Nat → Nat) (Q : Nat → Nat → Option Nat) (hQ : Sv L K G Q) (x0 m0 : Nat) (tx : GT) (tm : GT × Int) (sz : Nat) (I : Nat → Nat → Int32) (J : Nat → Nat → Int64) (hI : Iv L K x0 m0 tx tm I) (p0 : Nat) (hLp0 : p0 ∈ L) (hKp0 : K p0 = 6) (p1 : Int32) (p2 : Int32) (p3 : Int32) : Met l yX6_meet (.code yX6_meet cX6_meet 4 (some .int) :: pw) ({ frames := 3, cells := 0, slots := 0, locals := 81 }) (sP (dC, dI) cs [.ref p0, .int p1, .int p2, .int p3] sz L K I J Q) (va_Qi (fun (r : Int32) (_ : Unit) => (∀ σ : Sx, cxA Q I J p0 σ → mtR σ p1 p2 p3 r)) (fun _ t => sB (dC, dI) cs L K Q (fun I1 J1 => Iv L K x0 m0 tx tm I1 ∧ (∀ b, ¬ (K b = 2 ∨ K b = 5 ∨ K b = 11 ∨ (K b = 3 ∧ G b / 100 = 4)) → I1 b = I b) ∧ (∀ b, K b = 7 ∨ K b = 18 ∨ K b = 19 ∨ K b = 20 ∨ K b = 24 → I1 b = I b) ∧ (∀ σ : Sx, cxA Q I J p0 σ → cxA Q I1 J1 p0 σ) ∧ J1 = J) t) (fun q => q ∈ L ∨ sz ≤ q)) 0 0 (fun q => q ∈ L ∨ sz ≤ q) := by
  refine Met.ofW (cc := cX6_meet) (maxL := 4) (ret := (some .int)) (by decide +kernel) rfl ?_
  intro p e s m args below meth c s₁ B hml hv
  obtain ⟨rfl, hsz, hP, hK, hD0, hN⟩ := hv
  have hx := B.exec
  have hb := B.bytes
  have hr := B.returns
  have hts := fun w (h : w ∈ pw) => atoms_spec (ws := Cond.code yX6_meet cX6_meet 4 (some .int) :: pw) B.pre w (List.mem_cons_of_mem _ h)
  have hown : s.vm.findClass RX6 = some m.cls := findClass_of_methodNamed B.named
  have hlocks := B.notSynchronized
  subst hsz
  have hBB : 999 ≤ tm.2 ∧ tm.2 ≤ 6000000 := hI.2.2.2.2.1
  have dn_I : (∀ b, K b = 7 ∨ K b = 18 ∨ K b = 19 ∨ K b = 20 ∨ K b = 24 → I b = I b) := fun _ _ => rfl
  have dj_J : J = J := rfl
  have fr_I : ∀ b, ¬ (K b = 2 ∨ K b = 5 ∨ K b = 11 ∨ (K b = 3 ∧ G b / 100 = 4)) → I b = I b := fun _ _ => rfl
  obtain ⟨A, hAe⟩ : ∃ A : Nat → Prop, A = (fun q => q ∈ L ∨ s.heap.size ≤ q) := ⟨_, rfl⟩
  rw [← hAe]
  have hAL : ∀ q, q ∈ L → A q := fun q h => by rw [hAe]; exact Or.inl h
  have hA : ∀ q, s.heap.size ≤ q → A q := fun q h => by rw [hAe]; exact Or.inr h
  have hD : ∀ F, va_D A (va_pl L F) := fun F => (hD0 F).weaken (fun k q hk _ => hAL _ (pl_mem hk))
  obtain ⟨H, hHe⟩ : ∃ H : Heap, H = s.heap := ⟨_, rfl⟩
  have hS : va_S A s.heap H [] := by rw [hHe]; exact va_S.rf
  rw [← hHe] at hP
  have hl := lv_entry ([.ref p0, .int p1, .int p2, .int p3]) (n := 4) (Nat.le_of_ble_eq_true rfl)
  rw [lg_entry_eq]
  generalize (lg_sl ([.ref p0, .int p1, .int p2, .int p3]) ++ List.replicate (4 - (lg_sl ([.ref p0, .int p1, .int p2, .int p3])).length) Slot.unset).toArray = ls at hl ⊢
  have hl : lv_has ls 4 [(0, .ref p0), (1, .int p1), (2, .int p2), (3, .int p3)] := hl
  rw [← hHe]
  refine namedW (fun R Qz hR hQz => ?_)
  refine lv_aload_n hx hb dX6_meet_0 rfl (lv_at hl 0 rfl) ?_
  refine lv_iload_n hx hb dX6_meet_1 rfl (lv_at hl 1 rfl) ?_
  refine lv_iload_n hx hb dX6_meet_2 rfl (lv_at hl 2 rfl) ?_
  refine ro_i (va_runV (As := [.int p1, .int p2]) (rest := []) ⟨hx, hb, hml, hown, hts⟩ (s_X6_areTwoBodies l dC dI cs L K G Q hQ x0 m0 tx tm H.size I J hI p0 hLp0 hKp0 p1 p2) (cwV 2 hts (gV pq970 pq972 pq7 pq74 pq973) rfl rfl rfl (by decide +kernel) ⟨(by rw [hR]; exact (Nat.le_of_ble_eq_true rfl)), (by rw [hR]; exact (Nat.le_of_ble_eq_true rfl))⟩) (sP_V hP hD hK hN hLp0 hKp0 rfl rfl) rfl rfl hl.1 rfl (lv_room (Nat.le_of_ble_eq_true rfl)) dX6_meet_3 ⟨(by rw [hR]; exact (Nat.le_of_ble_eq_true rfl)), (by rw [hR]; exact (Nat.le_of_ble_eq_true rfl))⟩) hS hP (fun z3 H locs hz3 hP hS => ?_)
  obtain ⟨bz3, imz3, xpz3⟩ := hz3
  refine lv_if_eq (tgt := 17) hx hb dX6_meet_6 (by decide) (fun c6 => ?_) (fun c6 => ?_)
  · have t6 := tq_eq (k := z3.toInt) (q := (0)) c6 rfl (by decide +kernel)
    refine lv_sipush (v := (-2000)) hx hb dX6_meet_17 (by decide +kernel) ?_
    subst hR; subst hQz
    exact W.iret (v := (-2000)) hx hb hr (fun t ht hW => ⟨⟨(-2000), (), rfl, (fun σ h => by have e := cx_1 h; exact ⟨fun w => absurd w (fun w => by first | (have t := w.1; unfold twV at t; rw [← e] at t; exact (xpz3.mpr t) t6) | exact xpz11 t14 w.2), fun _ => by decide +kernel⟩), ⟨I, J, ⟨hI, fr_I, dn_I, (fun σ A => cxA_scr hQ hLp0 hKp0 fr_I (fun _ _ _ => rfl) A), dj_J⟩, by rw [ht]; exact hP⟩⟩, hS.F ht⟩) hS.2.2 dX6_meet_20
  · have t6 := tq_ne (k := z3.toInt) (q := (0)) c6 rfl (by decide +kernel)
    have i6 := imz3 t6
    refine lv_iload_n hx hb dX6_meet_9 rfl (lv_at hl 3 rfl) ?_
    refine lv_iconst (v := 1) hx hb dX6_meet_10 (by decide +kernel) ?_
    refine ro_i (va_runS (As := [.int p3, .int 1]) (rest := []) ⟨hx, hb, hml, hown, hts⟩ (s_X6_isFrom0To l dC dI cs L K G Q hQ x0 m0 tx tm H.size I J hI p3 1) (va_cwS 2 hts (gS pq651 pq652 pq74 pq653) rfl rfl rfl (by decide +kernel) ⟨(by rw [hR]; exact (Nat.le_of_ble_eq_true rfl)), (by rw [hR]; exact (Nat.le_of_ble_eq_true rfl))⟩) (sP_S hP hD hK hN) rfl rfl hl.1 rfl (lv_room (Nat.le_of_ble_eq_true rfl)) dX6_meet_11 ⟨(by rw [hR]; exact (Nat.le_of_ble_eq_true rfl)), (by rw [hR]; exact (Nat.le_of_ble_eq_true rfl))⟩) hS hP (fun z11 H locs hz11 hP hS => ?_)
    have cst11_1 : (1 : Int32).toInt = 1 := by decide +kernel
    obtain ⟨bz11, imz11, xpz11⟩ := hz11
    try rw [cst11_1] at xpz11
    refine lv_if_ne (tgt := 21) hx hb dX6_meet_14 (by decide) (fun c14 => ?_) (fun c14 => ?_)
    · have t14 := tq_ne (k := z11.toInt) (q := (0)) c14 rfl (by decide +kernel)
      have i14 := imz11 t14
      refine lv_aload_n hx hb dX6_meet_21 rfl (lv_at hl 0 rfl) ?_
      obtain ⟨y22, ey22, hLy22, hKy22, hGy22⟩ := oQ_6_5 (Sv_at hQ hLp0 hKp0)
      refine p_get (v := .ref y22) hx hb hts inX6 hown hK hP hLp0 hKp0 rfl rfl 5 (by decide) (hts _ pq354) (congrArg (fun q => some (va_rf q)) ey22) dX6_meet_22 ?_
      refine lv_iload_n hx hb dX6_meet_25 rfl (lv_at hl 1 rfl) ?_
      refine lv_iload_n hx hb dX6_meet_26 rfl (lv_at hl 2 rfl) ?_
      refine sw_ir (Z := (fun u => (fun I1 J1 => Iv L K x0 m0 tx tm I1 ∧ (∀ b, ¬ (b = y22) → I1 b = I b) ∧ (∀ c : Fx, okF c → cxF Q I J (nf Q y22) c → cxS Q I J y22 c → p1.toInt.toNat < (c.1 1).toInt.toNat → p2.toInt.toNat < (c.1 1).toInt.toNat → (u.toInt = 0 → ∀ x y, ¬ inC c p1.toInt.toNat p2.toInt.toNat x y) ∧ (¬ u.toInt = 0 → ∃ x y, mtF (inC c p1.toInt.toNat p2.toInt.toNat) x y ∧ (I1 y22 7).toInt = x ∧ (I1 y22 8).toInt = y)) ∧ J1 = J))) (va_runV (As := [.int p1, .int p2]) (rest := []) ⟨hx, hb, hml, hown, hts⟩ (s_X5_findMeeting l dC dI cs L K G Q hQ x0 m0 tx tm H.size I J hI y22 hLy22 hKy22 p1 ⟨by omega, by omega⟩ p2 ⟨by omega, by omega⟩) (cwV 2 hts (gV pq985 pq986 pq987 pq79 pq988) rfl rfl rfl (by decide +kernel) ⟨(by rw [hR]; exact (Nat.le_of_ble_eq_true rfl)), (by rw [hR]; exact (Nat.le_of_ble_eq_true rfl))⟩) (sP_V hP hD hK hN hLy22 hKy22 rfl rfl) rfl rfl hl.1 rfl (lv_room (Nat.le_of_ble_eq_true rfl)) dX6_meet_27 ⟨(by rw [hR]; exact (Nat.le_of_ble_eq_true rfl)), (by rw [hR]; exact (Nat.le_of_ble_eq_true rfl))⟩) hS hAL hA (fun z27 Iz27 Jz27 H locs hz27 hIz27 hP hS => ?_)
      obtain ⟨hIz27, frc27, jz27, djc27⟩ := hIz27
      obtain rfl : J = Jz27 := djc27.symm
      have dn_Iz27 : (∀ b, K b = 7 ∨ K b = 18 ∨ K b = 19 ∨ K b = 20 ∨ K b = 24 → Iz27 b = I b) := fun b hc => (frc27 b (fun z => by have q := hKy22; rw [← z] at q; omega)).trans (dn_I b hc)
      have fr_Iz27 : ∀ b, ¬ (K b = 2 ∨ K b = 5 ∨ K b = 11 ∨ (K b = 3 ∧ G b / 100 = 4)) → Iz27 b = I b := fun b q => (frc27 b (fun z => q (by rw [z]; have := hKy22; omega))).trans (fr_I b q)
      have bz27 := hz27
      refine lv_if_ne (tgt := 37) hx hb dX6_meet_30 (by decide) (fun c30 => ?_) (fun c30 => ?_)
      · have t30 := tq_ne (k := z27.toInt) (q := (0)) c30 rfl (by decide +kernel)
        refine lv_iload_n hx hb dX6_meet_37 rfl (lv_at hl 3 rfl) ?_
        refine lv_if_ne (tgt := 51) hx hb dX6_meet_38 (by decide) (fun c38 => ?_) (fun c38 => ?_)
        · have t38 := tq_ne (k := p3.toInt) (q := (0)) c38 rfl (by decide +kernel)
          refine lv_aload_n hx hb dX6_meet_51 rfl (lv_at hl 0 rfl) ?_
          refine p_get (v := .ref y22) hx hb hts inX6 hown hK hP hLp0 hKp0 rfl rfl 5 (by decide) (hts _ pq354) (congrArg (fun q => some (va_rf q)) ey22) dX6_meet_52 ?_
          refine p_get hx hb hts inX5 hown hK hP hLy22 hKy22 rfl rfl 8 (by decide) (hts _ pq287) rfl dX6_meet_55 ?_
          refine lv_topi (fun z55 ez55 => ?_)
          subst hR; subst hQz
          exact W.iret (v := z55) hx hb hr (fun t ht hW => ⟨⟨z55, (), rfl, (fun σ h => by have e := cx_1 h; have T := cxA_tg h; rw [show se Q p0 = y22 from gd_of ey22] at T; have t := xpz3.mp t6; rw [e] at t; have M := jz27 σ.1 T.1 T.2.1 T.2.2 (show p1.toInt.toNat < _ by omega) (show p2.toInt.toNat < _ by omega); obtain ⟨x, y, F, c7, c8⟩ := M.2 t30; exact ⟨fun _ => Or.inl ⟨x, y, F, by rw [if_neg t38, ← c8]; exact congrArg Int32.toInt ez55⟩, fun q => absurd ⟨t, by omega, by omega⟩ q⟩), ⟨Iz27, J, ⟨hIz27, fr_Iz27, dn_Iz27, (fun σ A => cxA_scr hQ hLp0 hKp0 fr_Iz27 (fun _ _ _ => rfl) A), dj_J⟩, by rw [ht]; exact hP⟩⟩, hS.F ht⟩) hS.2.2 dX6_meet_58
        · have t38 := tq_eq (k := p3.toInt) (q := (0)) c38 rfl (by decide +kernel)
          refine lv_aload_n hx hb dX6_meet_41 rfl (lv_at hl 0 rfl) ?_
          refine p_get (v := .ref y22) hx hb hts inX6 hown hK hP hLp0 hKp0 rfl rfl 5 (by decide) (hts _ pq354) (congrArg (fun q => some (va_rf q)) ey22) dX6_meet_42 ?_
          refine p_get hx hb hts inX5 hown hK hP hLy22 hKy22 rfl rfl 7 (by decide) (hts _ pq285) rfl dX6_meet_45 ?_
          refine lv_topi (fun z45 ez45 => ?_)
          refine lv_goto (tgt := 58) hx hb dX6_meet_48 (by decide) ?_
          subst hR; subst hQz
          exact W.iret (v := z45) hx hb hr (fun t ht hW => ⟨⟨z45, (), rfl, (fun σ h => by have e := cx_1 h; have T := cxA_tg h; rw [show se Q p0 = y22 from gd_of ey22] at T; have t := xpz3.mp t6; rw [e] at t; have M := jz27 σ.1 T.1 T.2.1 T.2.2 (show p1.toInt.toNat < _ by omega) (show p2.toInt.toNat < _ by omega); obtain ⟨x, y, F, c7, c8⟩ := M.2 t30; exact ⟨fun _ => Or.inl ⟨x, y, F, by rw [if_pos t38, ← c7]; exact congrArg Int32.toInt ez45⟩, fun q => absurd ⟨t, by omega, by omega⟩ q⟩), ⟨Iz27, J, ⟨hIz27, fr_Iz27, dn_Iz27, (fun σ A => cxA_scr hQ hLp0 hKp0 fr_Iz27 (fun _ _ _ => rfl) A), dj_J⟩, by rw [ht]; exact hP⟩⟩, hS.F ht⟩) hS.2.2 dX6_meet_58
      · have t30 := tq_eq (k := z27.toInt) (q := (0)) c30 rfl (by decide +kernel)
        refine lv_sipush (v := (-2000)) hx hb dX6_meet_33 (by decide +kernel) ?_
        subst hR; subst hQz
        exact W.iret (v := (-2000)) hx hb hr (fun t ht hW => ⟨⟨(-2000), (), rfl, (fun σ h => by have e := cx_1 h; have T := cxA_tg h; rw [show se Q p0 = y22 from gd_of ey22] at T; have t := xpz3.mp t6; rw [e] at t; have M := jz27 σ.1 T.1 T.2.1 T.2.2 (show p1.toInt.toNat < _ by omega) (show p2.toInt.toNat < _ by omega); exact ⟨fun _ => Or.inr ⟨M.1 t30, by decide +kernel⟩, fun q => absurd ⟨t, by omega, by omega⟩ q⟩), ⟨Iz27, J, ⟨hIz27, fr_Iz27, dn_Iz27, (fun σ A => cxA_scr hQ hLp0 hKp0 fr_Iz27 (fun _ _ _ => rfl) A), dj_J⟩, by rw [ht]; exact hP⟩⟩, hS.F ht⟩) hS.2.2 dX6_meet_36
    · have t14 := tq_eq (k := z11.toInt) (q := (0)) c14 rfl (by decide +kernel)
      refine lv_sipush (v := (-2000)) hx hb dX6_meet_17 (by decide +kernel) ?_
      subst hR; subst hQz
      exact W.iret (v := (-2000)) hx hb hr (fun t ht hW => ⟨⟨(-2000), (), rfl, (fun σ h => by have e := cx_1 h; exact ⟨fun w => absurd w (fun w => by first | (have t := w.1; unfold twV at t; rw [← e] at t; exact (xpz3.mpr t) t6) | exact xpz11 t14 w.2), fun _ => by decide +kernel⟩), ⟨I, J, ⟨hI, fr_I, dn_I, (fun σ A => cxA_scr hQ hLp0 hKp0 fr_I (fun _ _ _ => rfl) A), dj_J⟩, by rw [ht]; exact hP⟩⟩, hS.F ht⟩) hS.2.2 dX6_meet_20

set_option maxHeartbeats 4000000 in
set_option maxRecDepth 100000 in
theorem s_X6_contact (l : Launch) (dC : Nat → ClassId) (dI : Nat → Nat → Nat) (cs : Nat → ClassId) (L : List Nat) (K G : Nat → Nat) (Q : Nat → Nat → Option Nat) (hQ : Sv L K G Q) (x0 m0 : Nat) (tx : GT) (tm : GT × Int) (sz : Nat) (I : Nat → Nat → Int32) (J : Nat → Nat → Int64) (hI : Iv L K x0 m0 tx tm I) (p0 : Nat) (hLp0 : p0 ∈ L) (hKp0 : K p0 = 6) (p1 : Int32) : Met l yX6_contact (.code yX6_contact cX6_contact 5 (some .int) :: pw) ({ frames := 4, cells := 0, slots := 0, locals := 106 }) (sP (dC, dI) cs [.ref p0, .int p1] sz L K I J Q) (va_Qi (fun (r : Int32) (_ : Unit) => (∀ σ : Sx, cxA Q I J p0 σ → r = cnR σ p1)) (fun _ _ => True) (fun _ => False)) 0 0 (fun _ => False) := by
  refine Met.ofW (cc := cX6_contact) (maxL := 5) (ret := (some .int)) (by decide +kernel) rfl ?_
  intro p e s m args below meth c s₁ B hml hv
  obtain ⟨rfl, hsz, hP, hK, hD0, hN⟩ := hv
  have hx := B.exec
  have hb := B.bytes
  have hr := B.returns
  have hts := fun w (h : w ∈ pw) => atoms_spec (ws := Cond.code yX6_contact cX6_contact 5 (some .int) :: pw) B.pre w (List.mem_cons_of_mem _ h)
  have hown : s.vm.findClass RX6 = some m.cls := findClass_of_methodNamed B.named
  have hlocks := B.notSynchronized
  subst hsz
  have hBB : 999 ≤ tm.2 ∧ tm.2 ≤ 6000000 := hI.2.2.2.2.1
  have hD := hD0
  obtain ⟨H, hHe⟩ : ∃ H : Heap, H = s.heap := ⟨_, rfl⟩
  have hS : va_S (fun _ => False) s.heap H [] := by rw [hHe]; exact va_S.rf
  rw [← hHe] at hP
  have hl := lv_entry ([.ref p0, .int p1]) (n := 5) (Nat.le_of_ble_eq_true rfl)
  rw [lg_entry_eq]
  generalize (lg_sl ([.ref p0, .int p1]) ++ List.replicate (5 - (lg_sl ([.ref p0, .int p1])).length) Slot.unset).toArray = ls at hl ⊢
  have hl : lv_has ls 5 [(0, .ref p0), (1, .int p1)] := hl
  rw [← hHe]
  refine namedW (fun R Qz hR hQz => ?_)
  refine lv_iload_n hx hb dX6_contact_0 rfl (lv_at hl 1 rfl) ?_
  refine lv_iconst (v := (-1)) hx hb dX6_contact_1 (by decide +kernel) ?_
  refine lv_icmp_ge (tgt := 7) hx hb dX6_contact_2 (by decide) (fun c2 => ?_) (fun c2 => ?_)
  · have t2 := tq_le (k := (-1)) (q := p1.toInt) c2 (by decide +kernel) rfl
    refine lv_iconst (v := 0) hx hb dX6_contact_7 (by decide +kernel) ?_
    refine lv_istore_n (lv' := [(2, .int 0), (0, .ref p0), (1, .int p1)]) hx hb dX6_contact_8 rfl hl (by decide) rfl (fun ls hl => ?_)
    refine lv_iconst (v := 0) hx hb dX6_contact_9 (by decide +kernel) ?_
    refine lv_istore_n (lv' := [(3, .int 0), (2, .int 0), (0, .ref p0), (1, .int p1)]) hx hb dX6_contact_10 rfl hl (by decide) rfl (fun ls hl => ?_)
    have key11 := blocks (fun n => ∀ (v11_2 : Int32) (v11_3 : Int32) (H : Heap) (lo : List Loc) (ls : Array Slot), (11 - v11_3.toInt).toNat = n → ((0) ≤ v11_3.toInt ∧ v11_3.toInt ≤ 10) → (∀ σ : Sx, cxA Q I J p0 σ → cnR σ p1 = cnL (toP σ.1) p1 (prI (σ.1.1 1).toInt.toNat v11_3.toInt.toNat ((σ.1.1 1).toInt.toNat - v11_3.toInt.toNat)) v11_2 ∧ (v11_3.toInt ≤ (σ.1.1 1).toInt ∨ v11_3.toInt = 0)) → va_P (dC, dI) vwCl (Wd cs L K I J Q) H → va_S (fun _ => False) s.heap H lo → lv_has ls 5 [(0, .ref p0), (1, .int p1), (2, .int v11_2), (3, .int v11_3)] → W p l e R s m (([.ref p0, .int p1] : List Value).toArray) below meth c H lo 0 0 Qz (F0 m 11 ls [])) (by
      intro n ih11
      intro v11_2 v11_3 H lo ls hmu11 bv11_3 g11 hP hS hl
      refine lv_iload_n hx hb dX6_contact_11 rfl (lv_at hl 3 rfl) ?_
      refine lv_aload_n hx hb dX6_contact_12 rfl (lv_at hl 0 rfl) ?_
      obtain ⟨y13, ey13, hLy13, hKy13, hGy13⟩ := oQ_6_2 (Sv_at hQ hLp0 hKp0)
      refine p_get (v := .ref y13) hx hb hts inX6 hown hK hP hLp0 hKp0 rfl rfl 2 (by decide) (hts _ pq351) (congrArg (fun q => some (va_rf q)) ey13) dX6_contact_13 ?_
      refine p_get hx hb hts inX1 hown hK hP hLy13 hKy13 rfl rfl 3 (by decide) (hts _ pq226) rfl dX6_contact_16 ?_
      refine lv_topi (fun z16 ez16 => ?_)
      have cgz16 := congrArg Int32.toInt ez16
      have bz16 := oI_1_3 (Iv_at hI hLy13 hKy13)
      rw [← ez16] at bz16
      refine lv_icmp_ge (tgt := 82) hx hb dX6_contact_19 (by decide) (fun c19 => ?_) (fun c19 => ?_)
      · have t19 := tq_le (k := z16.toInt) (q := v11_3.toInt) c19 rfl rfl
        refine lv_iload_n hx hb dX6_contact_82 rfl (lv_at hl 1 rfl) ?_
        refine lv_iconst (v := (-1)) hx hb dX6_contact_83 (by decide +kernel) ?_
        refine lv_icmp_ne (tgt := 91) hx hb dX6_contact_84 (by decide) (fun c84 => ?_) (fun c84 => ?_)
        · have t84 := tq_ne (k := p1.toInt) (q := (-1)) c84 rfl (by decide +kernel)
          refine lv_bipush (v := (-2)) hx hb dX6_contact_91 (by decide +kernel) ?_
          subst hR; subst hQz
          exact W.iret (v := (-2)) hx hb hr (fun t ht hW => ⟨⟨(-2), (), rfl, (fun σ h => by have en := cgz16.trans (congrArg Int32.toInt (show I y13 3 = σ.1.1 1 by rw [show y13 = an Q p0 from (gd_of ey13).symm]; exact cx_1 h)); rw [(g11 σ h).1, prI_end (by omega)]; unfold cnL; rw [if_neg (fun q => t84 (by rw [q]; decide +kernel))]), trivial⟩, hS.F ht⟩) hS.2.2 dX6_contact_93
        · have t84 := tq_eq (k := p1.toInt) (q := (-1)) c84 rfl (by decide +kernel)
          refine lv_iload_n hx hb dX6_contact_87 rfl (lv_at hl 2 rfl) ?_
          refine lv_goto (tgt := 93) hx hb dX6_contact_88 (by decide) ?_
          subst hR; subst hQz
          exact W.iret (v := v11_2) hx hb hr (fun t ht hW => ⟨⟨v11_2, (), rfl, (fun σ h => by have en := cgz16.trans (congrArg Int32.toInt (show I y13 3 = σ.1.1 1 by rw [show y13 = an Q p0 from (gd_of ey13).symm]; exact cx_1 h)); rw [(g11 σ h).1, prI_end (by omega)]; unfold cnL; rw [if_pos (Int32.toInt_inj.mp (t84.trans (by decide +kernel)))]), trivial⟩, hS.F ht⟩) hS.2.2 dX6_contact_93
      · have t19 := tq_nle (k := z16.toInt) (q := v11_3.toInt) c19 rfl rfl
        refine lv_iload_n hx hb dX6_contact_22 rfl (lv_at hl 3 rfl) ?_
        refine lv_iconst (v := 1) hx hb dX6_contact_23 (by decide +kernel) ?_
        refine lv_iadd hx hb dX6_contact_24 ?_
        refine lv_topi (fun z24 ez24 => ?_)
        have bz24 := tq_add (k := v11_3.toInt) (q := (1)) ez24 rfl (by decide +kernel) (by omega) (by omega)
        refine lv_istore (lv' := [(4, .int z24), (0, .ref p0), (1, .int p1), (2, .int v11_2), (3, .int v11_3)]) hx hb dX6_contact_25 hl (by decide) rfl (fun ls hl => ?_)
        have key27 := blocks (fun n => ∀ (v27_2 : Int32) (v27_4 : Int32) (H : Heap) (lo : List Loc) (ls : Array Slot), (11 - v27_4.toInt).toNat = n → ((1) ≤ v27_4.toInt ∧ v27_4.toInt ≤ 10) → (∀ σ : Sx, cxA Q I J p0 σ → cnR σ p1 = cnL (toP σ.1) p1 (prJ (σ.1.1 1).toInt.toNat v11_3.toInt.toNat v27_4.toInt.toNat) v27_2) → va_P (dC, dI) vwCl (Wd cs L K I J Q) H → va_S (fun _ => False) s.heap H lo → lv_has ls 5 [(0, .ref p0), (1, .int p1), (2, .int v27_2), (3, .int v11_3), (4, .int v27_4)] → W p l e R s m (([.ref p0, .int p1] : List Value).toArray) below meth c H lo 0 0 Qz (F0 m 27 ls [])) (by
          intro n ih27
          intro v27_2 v27_4 H lo ls hmu27 bv27_4 g27 hP hS hl
          refine lv_iload hx hb dX6_contact_27 (lv_at hl 4 rfl) ?_
          refine lv_aload_n hx hb dX6_contact_29 rfl (lv_at hl 0 rfl) ?_
          refine p_get (v := .ref y13) hx hb hts inX6 hown hK hP hLp0 hKp0 rfl rfl 2 (by decide) (hts _ pq351) (congrArg (fun q => some (va_rf q)) ey13) dX6_contact_30 ?_
          refine p_get hx hb hts inX1 hown hK hP hLy13 hKy13 rfl rfl 3 (by decide) (hts _ pq226) rfl dX6_contact_33 ?_
          refine lv_topi (fun z33 ez33 => ?_)
          obtain rfl : z16 = z33 := ez16.trans ez33.symm
          refine lv_icmp_ge (tgt := 76) hx hb dX6_contact_36 (by decide) (fun c36 => ?_) (fun c36 => ?_)
          · have t36 := tq_le (k := z16.toInt) (q := v27_4.toInt) c36 rfl rfl
            obtain ⟨z76, ez76⟩ : ∃ y : Int32, y = v11_3 + 1 := ⟨_, rfl⟩
            refine lv_iinc (v := z76) (lv' := [(3, .int z76), (0, .ref p0), (1, .int p1), (2, .int v27_2), (4, .int v27_4)]) hx hb dX6_contact_76 hl (k := 3) rfl (by rw [ez76]; rfl) (by decide) rfl (fun ls hl => ?_)
            have bz76 := tq_add (k := v11_3.toInt) (q := 1) ez76 rfl (by decide +kernel) (by omega) (by omega)
            refine lv_goto (tgt := 11) hx hb dX6_contact_79 (by decide) ?_
            exact ih11 _ (by omega) v27_2 z76 _ _ _ rfl ⟨by omega, by omega⟩ (fun σ h => by have en := cgz16.trans (congrArg Int32.toInt (show I y13 3 = σ.1.1 1 by rw [show y13 = an Q p0 from (gd_of ey13).symm]; exact cx_1 h)); exact ⟨by rw [g27 σ h, prJ_end (by omega), show z76.toInt.toNat = v11_3.toInt.toNat + 1 by omega], Or.inl (by omega)⟩) hP hS (lv_sub hl [1, 2, 3, 0] rfl)
          · have t36 := tq_nle (k := z16.toInt) (q := v27_4.toInt) c36 rfl rfl
            refine lv_aload_n hx hb dX6_contact_39 rfl (lv_at hl 0 rfl) ?_
            obtain ⟨y40, ey40, hLy40, hKy40, hGy40⟩ := oQ_6_5 (Sv_at hQ hLp0 hKp0)
            refine p_get (v := .ref y40) hx hb hts inX6 hown hK hP hLp0 hKp0 rfl rfl 5 (by decide) (hts _ pq354) (congrArg (fun q => some (va_rf q)) ey40) dX6_contact_40 ?_
            refine lv_iload_n hx hb dX6_contact_43 rfl (lv_at hl 3 rfl) ?_
            refine lv_iload hx hb dX6_contact_44 (lv_at hl 4 rfl) ?_
            refine lv_iconst (v := 0) hx hb dX6_contact_46 (by decide +kernel) ?_
            refine lv_iconst (v := 0) hx hb dX6_contact_47 (by decide +kernel) ?_
            refine ro_i (va_runV (As := [.int v11_3, .int v27_4, .int 0, .int 0]) (rest := []) ⟨hx, hb, hml, hown, hts⟩ (s_X5_touchesIfMoved l dC dI cs L K G Q hQ x0 m0 tx tm H.size I J hI y40 hLy40 hKy40 v11_3 ⟨by omega, by omega⟩ v27_4 ⟨by omega, by omega⟩ 0 0) (cwV 4 hts (gV pq997 pq810 pq811 pq79 pq812) rfl rfl rfl (by decide +kernel) ⟨(by rw [hR]; exact (Nat.le_of_ble_eq_true rfl)), (by rw [hR]; exact (Nat.le_of_ble_eq_true rfl))⟩) (sP_V hP hD hK hN hLy40 hKy40 rfl rfl) rfl rfl hl.1 rfl (lv_room (Nat.le_of_ble_eq_true rfl)) dX6_contact_48 ⟨(by rw [hR]; exact (Nat.le_of_ble_eq_true rfl)), (by rw [hR]; exact (Nat.le_of_ble_eq_true rfl))⟩) hS hP (fun z48 H locs hz48 hP hS => ?_)
            have cst48_0 : (0 : Int32).toInt = 0 := by decide +kernel
            obtain ⟨bz48, xpz48⟩ := hz48
            try rw [cst48_0] at xpz48
            have j70 : ∀ (v70_2 : Int32) (H : Heap) (lo : List Loc) (ls : Array Slot), (∀ σ : Sx, cxA Q I J p0 σ → cnR σ p1 = cnL (toP σ.1) p1 (prJ (σ.1.1 1).toInt.toNat v11_3.toInt.toNat (v27_4.toInt.toNat + 1)) v70_2) → va_P (dC, dI) vwCl (Wd cs L K I J Q) H → va_S (fun _ => False) s.heap H lo → lv_has ls 5 [(0, .ref p0), (1, .int p1), (2, .int v70_2), (3, .int v11_3), (4, .int v27_4)] → W p l e R s m (([.ref p0, .int p1] : List Value).toArray) below meth c H lo 0 0 Qz (F0 m 70 ls []) := by
              intro v70_2 H lo ls g70 hP hS hl
              obtain ⟨z70, ez70⟩ : ∃ y : Int32, y = v27_4 + 1 := ⟨_, rfl⟩
              refine lv_iinc (v := z70) (lv' := [(4, .int z70), (0, .ref p0), (1, .int p1), (2, .int v70_2), (3, .int v11_3)]) hx hb dX6_contact_70 hl (k := 4) rfl (by rw [ez70]; rfl) (by decide) rfl (fun ls hl => ?_)
              have bz70 := tq_add (k := v27_4.toInt) (q := 1) ez70 rfl (by decide +kernel) (by omega) (by omega)
              refine lv_goto (tgt := 27) hx hb dX6_contact_73 (by decide) ?_
              exact ih27 _ (by omega) v70_2 z70 _ _ _ rfl ⟨by omega, by omega⟩ (fun σ h => by rw [g70 σ h, show z70.toInt.toNat = v27_4.toInt.toNat + 1 by omega]) hP hS (lv_sub hl [1, 2, 3, 4, 0] rfl)
            refine lv_if_eq (tgt := 70) hx hb dX6_contact_51 (by decide) (fun c51 => ?_) (fun c51 => ?_)
            · have t51 := tq_eq (k := z48.toInt) (q := (0)) c51 rfl (by decide +kernel)
              exact j70 v27_2 _ _ _ (fun σ h => by have en := cgz16.trans (congrArg Int32.toInt (show I y13 3 = σ.1.1 1 by rw [show y13 = an Q p0 from (gd_of ey13).symm]; exact cx_1 h)); have T := cxA_tg h; rw [show se Q p0 = y40 from gd_of ey40] at T; have w := xpz48 σ.1 T.1 T.2.1 T.2.2 (show v11_3.toInt.toNat < _ by omega) (show v27_4.toInt.toNat < _ by omega) ⟨by decide +kernel, by decide +kernel⟩; rw [g27 σ h, prJ_go (by omega), cn_no (fun q => (w.mpr q) t51)]) hP hS (lv_sub hl [0, 1, 2, 3, 4] rfl)
            · have t51 := tq_ne (k := z48.toInt) (q := (0)) c51 rfl (by decide +kernel)
              refine lv_iload_n hx hb dX6_contact_54 rfl (lv_at hl 2 rfl) ?_
              refine lv_iload_n hx hb dX6_contact_55 rfl (lv_at hl 1 rfl) ?_
              refine lv_icmp_ne (tgt := 67) hx hb dX6_contact_56 (by decide) (fun c56 => ?_) (fun c56 => ?_)
              · have t56 := tq_ne (k := v27_2.toInt) (q := p1.toInt) c56 rfl rfl
                obtain ⟨z67, ez67⟩ : ∃ y : Int32, y = v27_2 + 1 := ⟨_, rfl⟩
                refine lv_iinc (v := z67) (lv' := [(2, .int z67), (0, .ref p0), (1, .int p1), (3, .int v11_3), (4, .int v27_4)]) hx hb dX6_contact_67 hl (k := 2) rfl (by rw [ez67]; rfl) (by decide) rfl (fun ls hl => ?_)
                exact j70 z67 _ _ _ (fun σ h => by have en := cgz16.trans (congrArg Int32.toInt (show I y13 3 = σ.1.1 1 by rw [show y13 = an Q p0 from (gd_of ey13).symm]; exact cx_1 h)); have T := cxA_tg h; rw [show se Q p0 = y40 from gd_of ey40] at T; have w := xpz48 σ.1 T.1 T.2.1 T.2.2 (show v11_3.toInt.toNat < _ by omega) (show v27_4.toInt.toNat < _ by omega) ⟨by decide +kernel, by decide +kernel⟩; rw [g27 σ h, prJ_go (by omega), cn_go (w.mp t51) (fun q => t56 (congrArg Int32.toInt q)), ez67]) hP hS (lv_sub hl [1, 2, 0, 3, 4] rfl)
              · have t56 := tq_eq (k := v27_2.toInt) (q := p1.toInt) c56 rfl rfl
                refine lv_bipush (v := 100) hx hb dX6_contact_59 (by decide +kernel) ?_
                refine lv_iload_n hx hb dX6_contact_61 rfl (lv_at hl 3 rfl) ?_
                refine lv_imul hx hb dX6_contact_62 ?_
                refine lv_topi (fun z62 ez62 => ?_)
                have bz62 := tq_mul (k := (100)) (q := v11_3.toInt) ez62 (by decide +kernel) rfl (by omega) (by omega)
                refine lv_iload hx hb dX6_contact_63 (lv_at hl 4 rfl) ?_
                refine lv_iadd hx hb dX6_contact_65 ?_
                refine lv_topi (fun z65 ez65 => ?_)
                have bz65 := tq_add (k := z62.toInt) (q := v27_4.toInt) ez65 rfl rfl (by omega) (by omega)
                subst hR; subst hQz
                exact W.iret (v := z65) hx hb hr (fun t ht hW => ⟨⟨z65, (), rfl, (fun σ h => by have en := cgz16.trans (congrArg Int32.toInt (show I y13 3 = σ.1.1 1 by rw [show y13 = an Q p0 from (gd_of ey13).symm]; exact cx_1 h)); have T := cxA_tg h; rw [show se Q p0 = y40 from gd_of ey40] at T; have w := xpz48 σ.1 T.1 T.2.1 T.2.2 (show v11_3.toInt.toNat < _ by omega) (show v27_4.toInt.toNat < _ by omega) ⟨by decide +kernel, by decide +kernel⟩; rw [g27 σ h, prJ_go (by omega), cn_hit (w.mp t51) (Int32.toInt_inj.mp t56)]; exact oi_eq (by show z65.toInt = 100 * (v11_3.toInt.toNat : Int) + (v27_4.toInt.toNat : Int); omega)), trivial⟩, hS.F ht⟩) hS.2.2 dX6_contact_66)
        exact key27 _ v11_2 z24 _ _ _ rfl ⟨by omega, by omega⟩ (fun σ h => by have en := cgz16.trans (congrArg Int32.toInt (show I y13 3 = σ.1.1 1 by rw [show y13 = an Q p0 from (gd_of ey13).symm]; exact cx_1 h)); rw [(g11 σ h).1, prI_go (by omega), show z24.toInt.toNat = v11_3.toInt.toNat + 1 by omega]) hP hS (lv_sub hl [1, 2, 3, 4, 0] rfl))
    exact key11 _ 0 0 _ _ _ rfl ⟨by decide +kernel, by decide +kernel⟩ (fun σ h => ⟨by unfold cnR; rw [if_neg (by omega), show (0 : Int32).toInt.toNat = 0 from by decide +kernel], Or.inr (by decide +kernel)⟩) hP hS (lv_sub hl [2, 3, 1, 0] rfl)
  · have t2 := tq_nle (k := (-1)) (q := p1.toInt) c2 (by decide +kernel) rfl
    refine lv_iconst (v := (-1)) hx hb dX6_contact_5 (by decide +kernel) ?_
    subst hR; subst hQz
    exact W.iret (v := (-1)) hx hb hr (fun t ht hW => ⟨⟨(-1), (), rfl, (fun σ h => by unfold cnR; rw [if_pos (by omega)]), trivial⟩, hS.F ht⟩) hS.2.2 dX6_contact_6

set_option maxHeartbeats 4000000 in
set_option maxRecDepth 100000 in
theorem s_X6_passesSieve (l : Launch) (dC : Nat → ClassId) (dI : Nat → Nat → Nat) (cs : Nat → ClassId) (L : List Nat) (K G : Nat → Nat) (Q : Nat → Nat → Option Nat) (hQ : Sv L K G Q) (x0 m0 : Nat) (tx : GT) (tm : GT × Int) (sz : Nat) (I : Nat → Nat → Int32) (J : Nat → Nat → Int64) (hI : Iv L K x0 m0 tx tm I) (p0 : Nat) (hLp0 : p0 ∈ L) (hKp0 : K p0 = 6) (p1 : Int32) (bp1 : (0) ≤ p1.toInt ∧ p1.toInt ≤ 9) (p2 : Int32) (bp2 : (0) ≤ p2.toInt ∧ p2.toInt ≤ 9) (p3 : Int32) : Met l yX6_passesSieve (.code yX6_passesSieve cX6_passesSieve 4 (some .boolean) :: pw) ({ frames := 4, cells := 0, slots := 0, locals := 106 }) (sP (dC, dI) cs [.ref p0, .int p1, .int p2, .int p3] sz L K I J Q) (va_Qi (fun (r : Int32) (_ : Unit) => ((0) ≤ r.toInt ∧ r.toInt ≤ 1) ∧ (∀ σ : Sx, cxA Q I J p0 σ → p1.toInt.toNat < (σ.1.1 1).toInt.toNat → p2.toInt.toNat < (σ.1.1 1).toInt.toNat → (¬ r.toInt = 0 ↔ svP σ.1 p3.toInt p1.toInt.toNat p2.toInt.toNat))) (fun _ _ => True) (fun _ => False)) 0 0 (fun _ => False) := by
  refine Met.ofW (cc := cX6_passesSieve) (maxL := 4) (ret := (some .boolean)) (by decide +kernel) rfl ?_
  intro p e s m args below meth c s₁ B hml hv
  obtain ⟨rfl, hsz, hP, hK, hD0, hN⟩ := hv
  have hx := B.exec
  have hb := B.bytes
  have hr := B.returns
  have hts := fun w (h : w ∈ pw) => atoms_spec (ws := Cond.code yX6_passesSieve cX6_passesSieve 4 (some .boolean) :: pw) B.pre w (List.mem_cons_of_mem _ h)
  have hown : s.vm.findClass RX6 = some m.cls := findClass_of_methodNamed B.named
  have hlocks := B.notSynchronized
  subst hsz
  have hBB : 999 ≤ tm.2 ∧ tm.2 ≤ 6000000 := hI.2.2.2.2.1
  have hD := hD0
  obtain ⟨H, hHe⟩ : ∃ H : Heap, H = s.heap := ⟨_, rfl⟩
  have hS : va_S (fun _ => False) s.heap H [] := by rw [hHe]; exact va_S.rf
  rw [← hHe] at hP
  have hl := lv_entry ([.ref p0, .int p1, .int p2, .int p3]) (n := 4) (Nat.le_of_ble_eq_true rfl)
  rw [lg_entry_eq]
  generalize (lg_sl ([.ref p0, .int p1, .int p2, .int p3]) ++ List.replicate (4 - (lg_sl ([.ref p0, .int p1, .int p2, .int p3])).length) Slot.unset).toArray = ls at hl ⊢
  have hl : lv_has ls 4 [(0, .ref p0), (1, .int p1), (2, .int p2), (3, .int p3)] := hl
  rw [← hHe]
  refine namedW (fun R Qz hR hQz => ?_)
  refine lv_iload_n hx hb dX6_passesSieve_0 rfl (lv_at hl 3 rfl) ?_
  refine lv_if_ne (tgt := 14) hx hb dX6_passesSieve_1 (by decide) (fun c1 => ?_) (fun c1 => ?_)
  · have t1 := tq_ne (k := p3.toInt) (q := (0)) c1 rfl (by decide +kernel)
    refine lv_iload_n hx hb dX6_passesSieve_14 rfl (lv_at hl 3 rfl) ?_
    refine lv_iconst (v := 1) hx hb dX6_passesSieve_15 (by decide +kernel) ?_
    refine lv_icmp_ne (tgt := 49) hx hb dX6_passesSieve_16 (by decide) (fun c16 => ?_) (fun c16 => ?_)
    · have t16 := tq_ne (k := p3.toInt) (q := (1)) c16 rfl (by decide +kernel)
      refine lv_aload_n hx hb dX6_passesSieve_49 rfl (lv_at hl 0 rfl) ?_
      obtain ⟨y50, ey50, hLy50, hKy50, hGy50⟩ := oQ_6_5 (Sv_at hQ hLp0 hKp0)
      refine p_get (v := .ref y50) hx hb hts inX6 hown hK hP hLp0 hKp0 rfl rfl 5 (by decide) (hts _ pq354) (congrArg (fun q => some (va_rf q)) ey50) dX6_passesSieve_50 ?_
      refine lv_iload_n hx hb dX6_passesSieve_53 rfl (lv_at hl 1 rfl) ?_
      refine lv_iload_n hx hb dX6_passesSieve_54 rfl (lv_at hl 2 rfl) ?_
      refine lv_iconst (v := 0) hx hb dX6_passesSieve_55 (by decide +kernel) ?_
      refine lv_iconst (v := 0) hx hb dX6_passesSieve_56 (by decide +kernel) ?_
      refine ro_i (va_runV (As := [.int p1, .int p2, .int 0, .int 0]) (rest := []) ⟨hx, hb, hml, hown, hts⟩ (s_X5_touchesIfMoved l dC dI cs L K G Q hQ x0 m0 tx tm H.size I J hI y50 hLy50 hKy50 p1 ⟨by omega, by omega⟩ p2 ⟨by omega, by omega⟩ 0 0) (cwV 4 hts (gV pq997 pq810 pq811 pq79 pq812) rfl rfl rfl (by decide +kernel) ⟨(by rw [hR]; exact (Nat.le_of_ble_eq_true rfl)), (by rw [hR]; exact (Nat.le_of_ble_eq_true rfl))⟩) (sP_V hP hD hK hN hLy50 hKy50 rfl rfl) rfl rfl hl.1 rfl (lv_room (Nat.le_of_ble_eq_true rfl)) dX6_passesSieve_57 ⟨(by rw [hR]; exact (Nat.le_of_ble_eq_true rfl)), (by rw [hR]; exact (Nat.le_of_ble_eq_true rfl))⟩) hS hP (fun z57 H locs hz57 hP hS => ?_)
      have cst57_0 : (0 : Int32).toInt = 0 := by decide +kernel
      obtain ⟨bz57, xpz57⟩ := hz57
      try rw [cst57_0] at xpz57
      subst hR; subst hQz
      exact W.zret (v := z57) hx hb hr (nar01 (by omega) (by omega)) (fun t ht hW => ⟨⟨z57, (), rfl, ⟨⟨by omega, by omega⟩, (fun σ h ha hb => by have T := cxA_tg h; rw [show se Q p0 = y50 from gd_of ey50] at T; have w := xpz57 σ.1 T.1 T.2.1 T.2.2 ha hb ⟨by decide, by decide⟩; unfold svP; exact w.trans ⟨fun q => ⟨q.1, Or.inr ⟨met_box q.2, Or.inr q.2⟩⟩, fun q => ⟨q.1, q.2.elim (fun e => absurd e t1) (fun e => e.2.elim (fun e2 => absurd e2 t16) id)⟩⟩)⟩, trivial⟩, hS.F ht⟩) hS.2.2 dX6_passesSieve_60
    · have t16 := tq_eq (k := p3.toInt) (q := (1)) c16 rfl (by decide +kernel)
      refine lv_aload_n hx hb dX6_passesSieve_19 rfl (lv_at hl 0 rfl) ?_
      obtain ⟨y20, ey20, hLy20, hKy20, hGy20⟩ := oQ_6_5 (Sv_at hQ hLp0 hKp0)
      refine p_get (v := .ref y20) hx hb hts inX6 hown hK hP hLp0 hKp0 rfl rfl 5 (by decide) (hts _ pq354) (congrArg (fun q => some (va_rf q)) ey20) dX6_passesSieve_20 ?_
      refine lv_iload_n hx hb dX6_passesSieve_23 rfl (lv_at hl 1 rfl) ?_
      refine lv_iload_n hx hb dX6_passesSieve_24 rfl (lv_at hl 2 rfl) ?_
      refine ro_i (va_runV (As := [.int p1, .int p2]) (rest := []) ⟨hx, hb, hml, hown, hts⟩ (s_X5_mayTouch l dC dI cs L K G Q hQ x0 m0 tx tm H.size I J hI y20 hLy20 hKy20 p1 ⟨by omega, by omega⟩ p2 ⟨by omega, by omega⟩) (cwV 2 hts (gV pq1006 pq757 pq758 pq79 pq759) rfl rfl rfl (by decide +kernel) ⟨(by rw [hR]; exact (Nat.le_of_ble_eq_true rfl)), (by rw [hR]; exact (Nat.le_of_ble_eq_true rfl))⟩) (sP_V hP hD hK hN hLy20 hKy20 rfl rfl) rfl rfl hl.1 rfl (lv_room (Nat.le_of_ble_eq_true rfl)) dX6_passesSieve_25 ⟨(by rw [hR]; exact (Nat.le_of_ble_eq_true rfl)), (by rw [hR]; exact (Nat.le_of_ble_eq_true rfl))⟩) hS hP (fun z25 H locs hz25 hP hS => ?_)
      obtain ⟨bz25, xpz25⟩ := hz25
      refine lv_if_eq (tgt := 47) hx hb dX6_passesSieve_28 (by decide) (fun c28 => ?_) (fun c28 => ?_)
      · have t28 := tq_eq (k := z25.toInt) (q := (0)) c28 rfl (by decide +kernel)
        refine lv_iconst (v := 0) hx hb dX6_passesSieve_47 (by decide +kernel) ?_
        subst hR; subst hQz
        exact W.zret (v := 0) hx hb hr (by decide +kernel) (fun t ht hW => ⟨⟨0, (), rfl, ⟨⟨by decide +kernel, by decide +kernel⟩, (fun σ h ha hb => by have T := cxA_tg h; rw [show se Q p0 = y20 from gd_of ey20] at T; have w := xpz25 σ.1 T.2.1 ha hb; refine ⟨fun q => absurd (by decide +kernel) q, fun q => ?_⟩; first | exact absurd t28 (w.mpr q.1) | (have w2 := xpz37 σ.1 T.1 T.2.1 T.2.2 ha hb; exact q.2.elim (fun e => by omega) (fun e => absurd t40 (w2.mpr e.1))))⟩, trivial⟩, hS.F ht⟩) hS.2.2 dX6_passesSieve_48
      · have t28 := tq_ne (k := z25.toInt) (q := (0)) c28 rfl (by decide +kernel)
        refine lv_aload_n hx hb dX6_passesSieve_31 rfl (lv_at hl 0 rfl) ?_
        refine p_get (v := .ref y20) hx hb hts inX6 hown hK hP hLp0 hKp0 rfl rfl 5 (by decide) (hts _ pq354) (congrArg (fun q => some (va_rf q)) ey20) dX6_passesSieve_32 ?_
        refine lv_iload_n hx hb dX6_passesSieve_35 rfl (lv_at hl 1 rfl) ?_
        refine lv_iload_n hx hb dX6_passesSieve_36 rfl (lv_at hl 2 rfl) ?_
        refine ro_i (va_runV (As := [.int p1, .int p2]) (rest := []) ⟨hx, hb, hml, hown, hts⟩ (s_X5_boxesShare l dC dI cs L K G Q hQ x0 m0 tx tm H.size I J hI y20 hLy20 hKy20 p1 ⟨by omega, by omega⟩ p2 ⟨by omega, by omega⟩) (cwV 2 hts (gV pq1007 pq1008 pq1009 pq79 pq1010) rfl rfl rfl (by decide +kernel) ⟨(by rw [hR]; exact (Nat.le_of_ble_eq_true rfl)), (by rw [hR]; exact (Nat.le_of_ble_eq_true rfl))⟩) (sP_V hP hD hK hN hLy20 hKy20 rfl rfl) rfl rfl hl.1 rfl (lv_room (Nat.le_of_ble_eq_true rfl)) dX6_passesSieve_37 ⟨(by rw [hR]; exact (Nat.le_of_ble_eq_true rfl)), (by rw [hR]; exact (Nat.le_of_ble_eq_true rfl))⟩) hS hP (fun z37 H locs hz37 hP hS => ?_)
        obtain ⟨bz37, xpz37⟩ := hz37
        refine lv_if_eq (tgt := 47) hx hb dX6_passesSieve_40 (by decide) (fun c40 => ?_) (fun c40 => ?_)
        · have t40 := tq_eq (k := z37.toInt) (q := (0)) c40 rfl (by decide +kernel)
          refine lv_iconst (v := 0) hx hb dX6_passesSieve_47 (by decide +kernel) ?_
          subst hR; subst hQz
          exact W.zret (v := 0) hx hb hr (by decide +kernel) (fun t ht hW => ⟨⟨0, (), rfl, ⟨⟨by decide +kernel, by decide +kernel⟩, (fun σ h ha hb => by have T := cxA_tg h; rw [show se Q p0 = y20 from gd_of ey20] at T; have w := xpz25 σ.1 T.2.1 ha hb; refine ⟨fun q => absurd (by decide +kernel) q, fun q => ?_⟩; first | exact absurd t28 (w.mpr q.1) | (have w2 := xpz37 σ.1 T.1 T.2.1 T.2.2 ha hb; exact q.2.elim (fun e => by omega) (fun e => absurd t40 (w2.mpr e.1))))⟩, trivial⟩, hS.F ht⟩) hS.2.2 dX6_passesSieve_48
        · have t40 := tq_ne (k := z37.toInt) (q := (0)) c40 rfl (by decide +kernel)
          refine lv_iconst (v := 1) hx hb dX6_passesSieve_43 (by decide +kernel) ?_
          refine lv_goto (tgt := 48) hx hb dX6_passesSieve_44 (by decide) ?_
          subst hR; subst hQz
          exact W.zret (v := 1) hx hb hr (by decide +kernel) (fun t ht hW => ⟨⟨1, (), rfl, ⟨⟨by decide +kernel, by decide +kernel⟩, (fun σ h ha hb => by have T := cxA_tg h; rw [show se Q p0 = y20 from gd_of ey20] at T; have w := xpz25 σ.1 T.2.1 ha hb; have w2 := xpz37 σ.1 T.1 T.2.1 T.2.2 ha hb; exact ⟨fun _ => ⟨w.mp t28, Or.inr ⟨w2.mp t40, Or.inl t16⟩⟩, fun _ => by decide +kernel⟩)⟩, trivial⟩, hS.F ht⟩) hS.2.2 dX6_passesSieve_48
  · have t1 := tq_eq (k := p3.toInt) (q := (0)) c1 rfl (by decide +kernel)
    refine lv_aload_n hx hb dX6_passesSieve_4 rfl (lv_at hl 0 rfl) ?_
    obtain ⟨y5, ey5, hLy5, hKy5, hGy5⟩ := oQ_6_5 (Sv_at hQ hLp0 hKp0)
    refine p_get (v := .ref y5) hx hb hts inX6 hown hK hP hLp0 hKp0 rfl rfl 5 (by decide) (hts _ pq354) (congrArg (fun q => some (va_rf q)) ey5) dX6_passesSieve_5 ?_
    refine lv_iload_n hx hb dX6_passesSieve_8 rfl (lv_at hl 1 rfl) ?_
    refine lv_iload_n hx hb dX6_passesSieve_9 rfl (lv_at hl 2 rfl) ?_
    refine ro_i (va_runV (As := [.int p1, .int p2]) (rest := []) ⟨hx, hb, hml, hown, hts⟩ (s_X5_mayTouch l dC dI cs L K G Q hQ x0 m0 tx tm H.size I J hI y5 hLy5 hKy5 p1 ⟨by omega, by omega⟩ p2 ⟨by omega, by omega⟩) (cwV 2 hts (gV pq1006 pq757 pq758 pq79 pq759) rfl rfl rfl (by decide +kernel) ⟨(by rw [hR]; exact (Nat.le_of_ble_eq_true rfl)), (by rw [hR]; exact (Nat.le_of_ble_eq_true rfl))⟩) (sP_V hP hD hK hN hLy5 hKy5 rfl rfl) rfl rfl hl.1 rfl (lv_room (Nat.le_of_ble_eq_true rfl)) dX6_passesSieve_10 ⟨(by rw [hR]; exact (Nat.le_of_ble_eq_true rfl)), (by rw [hR]; exact (Nat.le_of_ble_eq_true rfl))⟩) hS hP (fun z10 H locs hz10 hP hS => ?_)
    obtain ⟨bz10, xpz10⟩ := hz10
    subst hR; subst hQz
    exact W.zret (v := z10) hx hb hr (nar01 (by omega) (by omega)) (fun t ht hW => ⟨⟨z10, (), rfl, ⟨⟨by omega, by omega⟩, (fun σ h ha hb => by have T := cxA_tg h; rw [show se Q p0 = y5 from gd_of ey5] at T; have w := xpz10 σ.1 T.2.1 ha hb; unfold svP; exact w.trans ⟨fun q => ⟨q, Or.inl t1⟩, fun q => q.1⟩)⟩, trivial⟩, hS.F ht⟩) hS.2.2 dX6_passesSieve_13

set_option maxHeartbeats 4000000 in
set_option maxRecDepth 100000 in
theorem s_X6_sieve (l : Launch) (dC : Nat → ClassId) (dI : Nat → Nat → Nat) (cs : Nat → ClassId) (L : List Nat) (K G : Nat → Nat) (Q : Nat → Nat → Option Nat) (hQ : Sv L K G Q) (x0 m0 : Nat) (tx : GT) (tm : GT × Int) (sz : Nat) (I : Nat → Nat → Int32) (J : Nat → Nat → Int64) (hI : Iv L K x0 m0 tx tm I) (p0 : Nat) (hLp0 : p0 ∈ L) (hKp0 : K p0 = 6) (p1 : Int32) : Met l yX6_sieve (.code yX6_sieve cX6_sieve 5 (some .int) :: pw) ({ frames := 5, cells := 0, slots := 0, locals := 129 }) (sP (dC, dI) cs [.ref p0, .int p1] sz L K I J Q) (va_Qi (fun (r : Int32) (_ : Unit) => (∀ σ : Sx, cxA Q I J p0 σ → r = svR σ p1)) (fun _ _ => True) (fun _ => False)) 0 0 (fun _ => False) := by
  refine Met.ofW (cc := cX6_sieve) (maxL := 5) (ret := (some .int)) (by decide +kernel) rfl ?_
  intro p e s m args below meth c s₁ B hml hv
  obtain ⟨rfl, hsz, hP, hK, hD0, hN⟩ := hv
  have hx := B.exec
  have hb := B.bytes
  have hr := B.returns
  have hts := fun w (h : w ∈ pw) => atoms_spec (ws := Cond.code yX6_sieve cX6_sieve 5 (some .int) :: pw) B.pre w (List.mem_cons_of_mem _ h)
  have hown : s.vm.findClass RX6 = some m.cls := findClass_of_methodNamed B.named
  have hlocks := B.notSynchronized
  subst hsz
  have hBB : 999 ≤ tm.2 ∧ tm.2 ≤ 6000000 := hI.2.2.2.2.1
  have hD := hD0
  obtain ⟨H, hHe⟩ : ∃ H : Heap, H = s.heap := ⟨_, rfl⟩
  have hS : va_S (fun _ => False) s.heap H [] := by rw [hHe]; exact va_S.rf
  rw [← hHe] at hP
  have hl := lv_entry ([.ref p0, .int p1]) (n := 5) (Nat.le_of_ble_eq_true rfl)
  rw [lg_entry_eq]
  generalize (lg_sl ([.ref p0, .int p1]) ++ List.replicate (5 - (lg_sl ([.ref p0, .int p1])).length) Slot.unset).toArray = ls at hl ⊢
  have hl : lv_has ls 5 [(0, .ref p0), (1, .int p1)] := hl
  rw [← hHe]
  refine namedW (fun R Qz hR hQz => ?_)
  refine lv_iload_n hx hb dX6_sieve_0 rfl (lv_at hl 1 rfl) ?_
  refine lv_iconst (v := 2) hx hb dX6_sieve_1 (by decide +kernel) ?_
  refine ro_i (va_runS (As := [.int p1, .int 2]) (rest := []) ⟨hx, hb, hml, hown, hts⟩ (s_X6_isFrom0To l dC dI cs L K G Q hQ x0 m0 tx tm H.size I J hI p1 2) (va_cwS 2 hts (gS pq651 pq652 pq74 pq653) rfl rfl rfl (by decide +kernel) ⟨(by rw [hR]; exact (Nat.le_of_ble_eq_true rfl)), (by rw [hR]; exact (Nat.le_of_ble_eq_true rfl))⟩) (sP_S hP hD hK hN) rfl rfl hl.1 rfl (lv_room (Nat.le_of_ble_eq_true rfl)) dX6_sieve_2 ⟨(by rw [hR]; exact (Nat.le_of_ble_eq_true rfl)), (by rw [hR]; exact (Nat.le_of_ble_eq_true rfl))⟩) hS hP (fun z2 H locs hz2 hP hS => ?_)
  have cst2_2 : (2 : Int32).toInt = 2 := by decide +kernel
  obtain ⟨bz2, imz2, xpz2⟩ := hz2
  try rw [cst2_2] at xpz2
  refine lv_if_ne (tgt := 10) hx hb dX6_sieve_5 (by decide) (fun c5 => ?_) (fun c5 => ?_)
  · have t5 := tq_ne (k := z2.toInt) (q := (0)) c5 rfl (by decide +kernel)
    have i5 := imz2 t5
    refine lv_iconst (v := 0) hx hb dX6_sieve_10 (by decide +kernel) ?_
    refine lv_istore_n (lv' := [(2, .int 0), (0, .ref p0), (1, .int p1)]) hx hb dX6_sieve_11 rfl hl (by decide) rfl (fun ls hl => ?_)
    refine lv_iconst (v := 0) hx hb dX6_sieve_12 (by decide +kernel) ?_
    refine lv_istore_n (lv' := [(3, .int 0), (2, .int 0), (0, .ref p0), (1, .int p1)]) hx hb dX6_sieve_13 rfl hl (by decide) rfl (fun ls hl => ?_)
    have key14 := blocks (fun n => ∀ (v14_2 : Int32) (v14_3 : Int32) (H : Heap) (lo : List Loc) (ls : Array Slot), (11 - v14_3.toInt).toNat = n → ((0) ≤ v14_3.toInt ∧ v14_3.toInt ≤ 10) → (∀ σ : Sx, cxA Q I J p0 σ → svR σ p1 = smL (svT σ p1.toInt) (prI (σ.1.1 1).toInt.toNat v14_3.toInt.toNat ((σ.1.1 1).toInt.toNat - v14_3.toInt.toNat)) v14_2) → va_P (dC, dI) vwCl (Wd cs L K I J Q) H → va_S (fun _ => False) s.heap H lo → lv_has ls 5 [(0, .ref p0), (1, .int p1), (2, .int v14_2), (3, .int v14_3)] → W p l e R s m (([.ref p0, .int p1] : List Value).toArray) below meth c H lo 0 0 Qz (F0 m 14 ls [])) (by
      intro n ih14
      intro v14_2 v14_3 H lo ls hmu14 bv14_3 g14 hP hS hl
      refine lv_iload_n hx hb dX6_sieve_14 rfl (lv_at hl 3 rfl) ?_
      refine lv_aload_n hx hb dX6_sieve_15 rfl (lv_at hl 0 rfl) ?_
      obtain ⟨y16, ey16, hLy16, hKy16, hGy16⟩ := oQ_6_2 (Sv_at hQ hLp0 hKp0)
      refine p_get (v := .ref y16) hx hb hts inX6 hown hK hP hLp0 hKp0 rfl rfl 2 (by decide) (hts _ pq351) (congrArg (fun q => some (va_rf q)) ey16) dX6_sieve_16 ?_
      refine p_get hx hb hts inX1 hown hK hP hLy16 hKy16 rfl rfl 3 (by decide) (hts _ pq226) rfl dX6_sieve_19 ?_
      refine lv_topi (fun z19 ez19 => ?_)
      have cgz19 := congrArg Int32.toInt ez19
      have bz19 := oI_1_3 (Iv_at hI hLy16 hKy16)
      rw [← ez19] at bz19
      refine lv_icmp_ge (tgt := 68) hx hb dX6_sieve_22 (by decide) (fun c22 => ?_) (fun c22 => ?_)
      · have t22 := tq_le (k := z19.toInt) (q := v14_3.toInt) c22 rfl rfl
        refine lv_iload_n hx hb dX6_sieve_68 rfl (lv_at hl 2 rfl) ?_
        subst hR; subst hQz
        exact W.iret (v := v14_2) hx hb hr (fun t ht hW => ⟨⟨v14_2, (), rfl, (fun σ h => by have en := cgz19.trans (congrArg Int32.toInt (show I y16 3 = σ.1.1 1 by rw [show y16 = an Q p0 from (gd_of ey16).symm]; exact cx_1 h)); rw [g14 σ h, prI_end (by omega)]; rfl), trivial⟩, hS.F ht⟩) hS.2.2 dX6_sieve_69
      · have t22 := tq_nle (k := z19.toInt) (q := v14_3.toInt) c22 rfl rfl
        refine lv_iload_n hx hb dX6_sieve_25 rfl (lv_at hl 3 rfl) ?_
        refine lv_iconst (v := 1) hx hb dX6_sieve_26 (by decide +kernel) ?_
        refine lv_iadd hx hb dX6_sieve_27 ?_
        refine lv_topi (fun z27 ez27 => ?_)
        have bz27 := tq_add (k := v14_3.toInt) (q := (1)) ez27 rfl (by decide +kernel) (by omega) (by omega)
        refine lv_istore (lv' := [(4, .int z27), (0, .ref p0), (1, .int p1), (2, .int v14_2), (3, .int v14_3)]) hx hb dX6_sieve_28 hl (by decide) rfl (fun ls hl => ?_)
        have key30 := blocks (fun n => ∀ (v30_2 : Int32) (v30_4 : Int32) (H : Heap) (lo : List Loc) (ls : Array Slot), (11 - v30_4.toInt).toNat = n → ((1) ≤ v30_4.toInt ∧ v30_4.toInt ≤ 10) → (∀ σ : Sx, cxA Q I J p0 σ → svR σ p1 = smL (svT σ p1.toInt) (prJ (σ.1.1 1).toInt.toNat v14_3.toInt.toNat v30_4.toInt.toNat) v30_2) → va_P (dC, dI) vwCl (Wd cs L K I J Q) H → va_S (fun _ => False) s.heap H lo → lv_has ls 5 [(0, .ref p0), (1, .int p1), (2, .int v30_2), (3, .int v14_3), (4, .int v30_4)] → W p l e R s m (([.ref p0, .int p1] : List Value).toArray) below meth c H lo 0 0 Qz (F0 m 30 ls [])) (by
          intro n ih30
          intro v30_2 v30_4 H lo ls hmu30 bv30_4 g30 hP hS hl
          refine lv_iload hx hb dX6_sieve_30 (lv_at hl 4 rfl) ?_
          refine lv_aload_n hx hb dX6_sieve_32 rfl (lv_at hl 0 rfl) ?_
          refine p_get (v := .ref y16) hx hb hts inX6 hown hK hP hLp0 hKp0 rfl rfl 2 (by decide) (hts _ pq351) (congrArg (fun q => some (va_rf q)) ey16) dX6_sieve_33 ?_
          refine p_get hx hb hts inX1 hown hK hP hLy16 hKy16 rfl rfl 3 (by decide) (hts _ pq226) rfl dX6_sieve_36 ?_
          refine lv_topi (fun z36 ez36 => ?_)
          obtain rfl : z19 = z36 := ez19.trans ez36.symm
          refine lv_icmp_ge (tgt := 62) hx hb dX6_sieve_39 (by decide) (fun c39 => ?_) (fun c39 => ?_)
          · have t39 := tq_le (k := z19.toInt) (q := v30_4.toInt) c39 rfl rfl
            obtain ⟨z62, ez62⟩ : ∃ y : Int32, y = v14_3 + 1 := ⟨_, rfl⟩
            refine lv_iinc (v := z62) (lv' := [(3, .int z62), (0, .ref p0), (1, .int p1), (2, .int v30_2), (4, .int v30_4)]) hx hb dX6_sieve_62 hl (k := 3) rfl (by rw [ez62]; rfl) (by decide) rfl (fun ls hl => ?_)
            have bz62 := tq_add (k := v14_3.toInt) (q := 1) ez62 rfl (by decide +kernel) (by omega) (by omega)
            refine lv_goto (tgt := 14) hx hb dX6_sieve_65 (by decide) ?_
            exact ih14 _ (by omega) v30_2 z62 _ _ _ rfl ⟨by omega, by omega⟩ (fun σ h => by have en := cgz19.trans (congrArg Int32.toInt (show I y16 3 = σ.1.1 1 by rw [show y16 = an Q p0 from (gd_of ey16).symm]; exact cx_1 h)); rw [g30 σ h, prJ_end (by omega), show z62.toInt.toNat = v14_3.toInt.toNat + 1 by omega]) hP hS (lv_sub hl [1, 2, 3, 0] rfl)
          · have t39 := tq_nle (k := z19.toInt) (q := v30_4.toInt) c39 rfl rfl
            refine lv_aload_n hx hb dX6_sieve_42 rfl (lv_at hl 0 rfl) ?_
            refine lv_iload_n hx hb dX6_sieve_43 rfl (lv_at hl 3 rfl) ?_
            refine lv_iload hx hb dX6_sieve_44 (lv_at hl 4 rfl) ?_
            refine lv_iload_n hx hb dX6_sieve_46 rfl (lv_at hl 1 rfl) ?_
            refine ro_i (va_runV (As := [.int v14_3, .int v30_4, .int p1]) (rest := []) ⟨hx, hb, hml, hown, hts⟩ (s_X6_passesSieve l dC dI cs L K G Q hQ x0 m0 tx tm H.size I J hI p0 hLp0 hKp0 v14_3 ⟨by omega, by omega⟩ v30_4 ⟨by omega, by omega⟩ p1) (cwV 3 hts (gV pq1002 pq1004 pq8 pq74 pq1005) rfl rfl rfl (by decide +kernel) ⟨(by rw [hR]; exact (Nat.le_of_ble_eq_true rfl)), (by rw [hR]; exact (Nat.le_of_ble_eq_true rfl))⟩) (sP_V hP hD hK hN hLp0 hKp0 rfl rfl) rfl rfl hl.1 rfl (lv_room (Nat.le_of_ble_eq_true rfl)) dX6_sieve_47 ⟨(by rw [hR]; exact (Nat.le_of_ble_eq_true rfl)), (by rw [hR]; exact (Nat.le_of_ble_eq_true rfl))⟩) hS hP (fun z47 H locs hz47 hP hS => ?_)
            obtain ⟨bz47, xpz47⟩ := hz47
            have j56 : ∀ (v56_2 : Int32) (H : Heap) (lo : List Loc) (ls : Array Slot), (∀ σ : Sx, cxA Q I J p0 σ → svR σ p1 = smL (svT σ p1.toInt) (prJ (σ.1.1 1).toInt.toNat v14_3.toInt.toNat (v30_4.toInt.toNat + 1)) v56_2) → va_P (dC, dI) vwCl (Wd cs L K I J Q) H → va_S (fun _ => False) s.heap H lo → lv_has ls 5 [(0, .ref p0), (1, .int p1), (2, .int v56_2), (3, .int v14_3), (4, .int v30_4)] → W p l e R s m (([.ref p0, .int p1] : List Value).toArray) below meth c H lo 0 0 Qz (F0 m 56 ls []) := by
              intro v56_2 H lo ls g56 hP hS hl
              obtain ⟨z56, ez56⟩ : ∃ y : Int32, y = v30_4 + 1 := ⟨_, rfl⟩
              refine lv_iinc (v := z56) (lv' := [(4, .int z56), (0, .ref p0), (1, .int p1), (2, .int v56_2), (3, .int v14_3)]) hx hb dX6_sieve_56 hl (k := 4) rfl (by rw [ez56]; rfl) (by decide) rfl (fun ls hl => ?_)
              have bz56 := tq_add (k := v30_4.toInt) (q := 1) ez56 rfl (by decide +kernel) (by omega) (by omega)
              refine lv_goto (tgt := 30) hx hb dX6_sieve_59 (by decide) ?_
              exact ih30 _ (by omega) v56_2 z56 _ _ _ rfl ⟨by omega, by omega⟩ (fun σ h => by rw [g56 σ h, show z56.toInt.toNat = v30_4.toInt.toNat + 1 by omega]) hP hS (lv_sub hl [1, 2, 3, 4, 0] rfl)
            refine lv_if_eq (tgt := 56) hx hb dX6_sieve_50 (by decide) (fun c50 => ?_) (fun c50 => ?_)
            · have t50 := tq_eq (k := z47.toInt) (q := (0)) c50 rfl (by decide +kernel)
              exact j56 v30_2 _ _ _ (fun σ h => by have en := cgz19.trans (congrArg Int32.toInt (show I y16 3 = σ.1.1 1 by rw [show y16 = an Q p0 from (gd_of ey16).symm]; exact cx_1 h)); have w := xpz47 σ h (show v14_3.toInt.toNat < _ by omega) (show v30_4.toInt.toNat < _ by omega); rw [g30 σ h, prJ_go (by omega), sm_no (fun q => (w.mpr q) t50)]) hP hS (lv_sub hl [0, 1, 2, 3, 4] rfl)
            · have t50 := tq_ne (k := z47.toInt) (q := (0)) c50 rfl (by decide +kernel)
              obtain ⟨z53, ez53⟩ : ∃ y : Int32, y = v30_2 + 1 := ⟨_, rfl⟩
              refine lv_iinc (v := z53) (lv' := [(2, .int z53), (0, .ref p0), (1, .int p1), (3, .int v14_3), (4, .int v30_4)]) hx hb dX6_sieve_53 hl (k := 2) rfl (by rw [ez53]; rfl) (by decide) rfl (fun ls hl => ?_)
              exact j56 z53 _ _ _ (fun σ h => by have en := cgz19.trans (congrArg Int32.toInt (show I y16 3 = σ.1.1 1 by rw [show y16 = an Q p0 from (gd_of ey16).symm]; exact cx_1 h)); have w := xpz47 σ h (show v14_3.toInt.toNat < _ by omega) (show v30_4.toInt.toNat < _ by omega); rw [g30 σ h, prJ_go (by omega), sm_go (w.mp t50), ez53]) hP hS (lv_sub hl [1, 2, 0, 3, 4] rfl))
        exact key30 _ v14_2 z27 _ _ _ rfl ⟨by omega, by omega⟩ (fun σ h => by have en := cgz19.trans (congrArg Int32.toInt (show I y16 3 = σ.1.1 1 by rw [show y16 = an Q p0 from (gd_of ey16).symm]; exact cx_1 h)); rw [g14 σ h, prI_go (by omega), show z27.toInt.toNat = v14_3.toInt.toNat + 1 by omega]) hP hS (lv_sub hl [1, 2, 3, 4, 0] rfl))
    exact key14 _ 0 0 _ _ _ rfl ⟨by decide +kernel, by decide +kernel⟩ (fun σ h => by unfold svR; rw [if_pos ⟨by omega, by omega⟩, show (0 : Int32).toInt.toNat = 0 from by decide +kernel]) hP hS (lv_sub hl [2, 3, 1, 0] rfl)
  · have t5 := tq_eq (k := z2.toInt) (q := (0)) c5 rfl (by decide +kernel)
    refine lv_iconst (v := (-1)) hx hb dX6_sieve_8 (by decide +kernel) ?_
    subst hR; subst hQz
    exact W.iret (v := (-1)) hx hb hr (fun t ht hW => ⟨⟨(-1), (), rfl, (fun σ h => by unfold svR; exact (if_neg (xpz2 t5)).symm), trivial⟩, hS.F ht⟩) hS.2.2 dX6_sieve_9

set_option maxHeartbeats 4000000 in
set_option maxRecDepth 100000 in
theorem s_X6_touching (l : Launch) (dC : Nat → ClassId) (dI : Nat → Nat → Nat) (cs : Nat → ClassId) (L : List Nat) (K G : Nat → Nat) (Q : Nat → Nat → Option Nat) (hQ : Sv L K G Q) (x0 m0 : Nat) (tx : GT) (tm : GT × Int) (sz : Nat) (I : Nat → Nat → Int32) (J : Nat → Nat → Int64) (hI : Iv L K x0 m0 tx tm I) (p0 : Nat) (hLp0 : p0 ∈ L) (hKp0 : K p0 = 6) (p1 : Int32) : Met l yX6_touching (.code yX6_touching cX6_touching 4 (some .int) :: pw) ({ frames := 4, cells := 0, slots := 0, locals := 106 }) (sP (dC, dI) cs [.ref p0, .int p1] sz L K I J Q) (va_Qi (fun (r : Int32) (_ : Unit) => (∀ σ : Sx, cxA Q I J p0 σ → tcR σ p1 r)) (fun _ _ => True) (fun _ => False)) 0 0 (fun _ => False) := by
  refine Met.ofW (cc := cX6_touching) (maxL := 4) (ret := (some .int)) (by decide +kernel) rfl ?_
  intro p e s m args below meth c s₁ B hml hv
  obtain ⟨rfl, hsz, hP, hK, hD0, hN⟩ := hv
  have hx := B.exec
  have hb := B.bytes
  have hr := B.returns
  have hts := fun w (h : w ∈ pw) => atoms_spec (ws := Cond.code yX6_touching cX6_touching 4 (some .int) :: pw) B.pre w (List.mem_cons_of_mem _ h)
  have hown : s.vm.findClass RX6 = some m.cls := findClass_of_methodNamed B.named
  have hlocks := B.notSynchronized
  subst hsz
  have hBB : 999 ≤ tm.2 ∧ tm.2 ≤ 6000000 := hI.2.2.2.2.1
  have hD := hD0
  obtain ⟨H, hHe⟩ : ∃ H : Heap, H = s.heap := ⟨_, rfl⟩
  have hS : va_S (fun _ => False) s.heap H [] := by rw [hHe]; exact va_S.rf
  rw [← hHe] at hP
  have hl := lv_entry ([.ref p0, .int p1]) (n := 4) (Nat.le_of_ble_eq_true rfl)
  rw [lg_entry_eq]
  generalize (lg_sl ([.ref p0, .int p1]) ++ List.replicate (4 - (lg_sl ([.ref p0, .int p1])).length) Slot.unset).toArray = ls at hl ⊢
  have hl : lv_has ls 4 [(0, .ref p0), (1, .int p1)] := hl
  rw [← hHe]
  refine namedW (fun R Qz hR hQz => ?_)
  refine lv_aload_n hx hb dX6_touching_0 rfl (lv_at hl 0 rfl) ?_
  refine lv_iload_n hx hb dX6_touching_1 rfl (lv_at hl 1 rfl) ?_
  refine ro_i (va_runV (As := [.int p1]) (rest := []) ⟨hx, hb, hml, hown, hts⟩ (s_X6_isBody l dC dI cs L K G Q hQ x0 m0 tx tm H.size I J hI p0 hLp0 hKp0 p1) (cwV 1 hts (gV pq636 pq638 pq2 pq74 pq639) rfl rfl rfl (by decide +kernel) ⟨(by rw [hR]; exact (Nat.le_of_ble_eq_true rfl)), (by rw [hR]; exact (Nat.le_of_ble_eq_true rfl))⟩) (sP_V hP hD hK hN hLp0 hKp0 rfl rfl) rfl rfl hl.1 rfl (lv_room (Nat.le_of_ble_eq_true rfl)) dX6_touching_2 ⟨(by rw [hR]; exact (Nat.le_of_ble_eq_true rfl)), (by rw [hR]; exact (Nat.le_of_ble_eq_true rfl))⟩) hS hP (fun z2 H locs hz2 hP hS => ?_)
  obtain ⟨bz2, imz2, xpz2⟩ := hz2
  refine lv_if_ne (tgt := 10) hx hb dX6_touching_5 (by decide) (fun c5 => ?_) (fun c5 => ?_)
  · have t5 := tq_ne (k := z2.toInt) (q := (0)) c5 rfl (by decide +kernel)
    have i5 := imz2 t5
    refine lv_iconst (v := 0) hx hb dX6_touching_10 (by decide +kernel) ?_
    refine lv_istore_n (lv' := [(2, .int 0), (0, .ref p0), (1, .int p1)]) hx hb dX6_touching_11 rfl hl (by decide) rfl (fun ls hl => ?_)
    refine lv_iconst (v := 0) hx hb dX6_touching_12 (by decide +kernel) ?_
    refine lv_istore_n (lv' := [(3, .int 0), (2, .int 0), (0, .ref p0), (1, .int p1)]) hx hb dX6_touching_13 rfl hl (by decide) rfl (fun ls hl => ?_)
    have key14 := blocks (fun n => ∀ (v14_2 : Int32) (v14_3 : Int32) (H : Heap) (lo : List Loc) (ls : Array Slot), (11 - v14_3.toInt).toNat = n → ((0) ≤ v14_3.toInt ∧ v14_3.toInt ≤ 10) → (∀ σ : Sx, cxA Q I J p0 σ → (0 ≤ p1.toInt ∧ p1.toInt < (σ.1.1 1).toInt) ∧ ∀ o : Nat, hbt v14_2 o = true ↔ o < v14_3.toInt.toNat ∧ tcP σ.1 p1.toInt.toNat o) → va_P (dC, dI) vwCl (Wd cs L K I J Q) H → va_S (fun _ => False) s.heap H lo → lv_has ls 4 [(0, .ref p0), (1, .int p1), (2, .int v14_2), (3, .int v14_3)] → W p l e R s m (([.ref p0, .int p1] : List Value).toArray) below meth c H lo 0 0 Qz (F0 m 14 ls [])) (by
      intro n ih14
      intro v14_2 v14_3 H lo ls hmu14 bv14_3 g14 hP hS hl
      refine lv_iload_n hx hb dX6_touching_14 rfl (lv_at hl 3 rfl) ?_
      refine lv_aload_n hx hb dX6_touching_15 rfl (lv_at hl 0 rfl) ?_
      obtain ⟨y16, ey16, hLy16, hKy16, hGy16⟩ := oQ_6_2 (Sv_at hQ hLp0 hKp0)
      refine p_get (v := .ref y16) hx hb hts inX6 hown hK hP hLp0 hKp0 rfl rfl 2 (by decide) (hts _ pq351) (congrArg (fun q => some (va_rf q)) ey16) dX6_touching_16 ?_
      refine p_get hx hb hts inX1 hown hK hP hLy16 hKy16 rfl rfl 3 (by decide) (hts _ pq226) rfl dX6_touching_19 ?_
      refine lv_topi (fun z19 ez19 => ?_)
      have cgz19 := congrArg Int32.toInt ez19
      have bz19 := oI_1_3 (Iv_at hI hLy16 hKy16)
      rw [← ez19] at bz19
      refine lv_icmp_ge (tgt := 56) hx hb dX6_touching_22 (by decide) (fun c22 => ?_) (fun c22 => ?_)
      · have t22 := tq_le (k := z19.toInt) (q := v14_3.toInt) c22 rfl rfl
        refine lv_iload_n hx hb dX6_touching_56 rfl (lv_at hl 2 rfl) ?_
        subst hR; subst hQz
        exact W.iret (v := v14_2) hx hb hr (fun t ht hW => ⟨⟨v14_2, (), rfl, (fun σ h => by have en := cgz19.trans (congrArg Int32.toInt (show I y16 3 = σ.1.1 1 by rw [show y16 = an Q p0 from (gd_of ey16).symm]; exact cx_1 h)); have g := g14 σ h; exact ⟨fun _ o => (g.2 o).trans ⟨fun w => w.2, fun w => ⟨by have := w.1; omega, w⟩⟩, fun w => absurd g.1 w⟩), trivial⟩, hS.F ht⟩) hS.2.2 dX6_touching_57
      · have t22 := tq_nle (k := z19.toInt) (q := v14_3.toInt) c22 rfl rfl
        refine lv_iload_n hx hb dX6_touching_25 rfl (lv_at hl 3 rfl) ?_
        refine lv_iload_n hx hb dX6_touching_26 rfl (lv_at hl 1 rfl) ?_
        have j50 : ∀ (v50_2 : Int32) (H : Heap) (lo : List Loc) (ls : Array Slot), (∀ σ : Sx, cxA Q I J p0 σ → (0 ≤ p1.toInt ∧ p1.toInt < (σ.1.1 1).toInt) ∧ ∀ o : Nat, hbt v50_2 o = true ↔ o < v14_3.toInt.toNat + 1 ∧ tcP σ.1 p1.toInt.toNat o) → va_P (dC, dI) vwCl (Wd cs L K I J Q) H → va_S (fun _ => False) s.heap H lo → lv_has ls 4 [(0, .ref p0), (1, .int p1), (2, .int v50_2), (3, .int v14_3)] → W p l e R s m (([.ref p0, .int p1] : List Value).toArray) below meth c H lo 0 0 Qz (F0 m 50 ls []) := by
          intro v50_2 H lo ls g50 hP hS hl
          obtain ⟨z50, ez50⟩ : ∃ y : Int32, y = v14_3 + 1 := ⟨_, rfl⟩
          refine lv_iinc (v := z50) (lv' := [(3, .int z50), (0, .ref p0), (1, .int p1), (2, .int v50_2)]) hx hb dX6_touching_50 hl (k := 3) rfl (by rw [ez50]; rfl) (by decide) rfl (fun ls hl => ?_)
          have bz50 := tq_add (k := v14_3.toInt) (q := 1) ez50 rfl (by decide +kernel) (by omega) (by omega)
          refine lv_goto (tgt := 14) hx hb dX6_touching_53 (by decide) ?_
          exact ih14 _ (by omega) v50_2 z50 _ _ _ rfl ⟨by omega, by omega⟩ (fun σ h => by rw [show z50.toInt.toNat = v14_3.toInt.toNat + 1 by omega]; exact g50 σ h) hP hS (lv_sub hl [1, 2, 3, 0] rfl)
        refine lv_icmp_eq (tgt := 50) hx hb dX6_touching_27 (by decide) (fun c27 => ?_) (fun c27 => ?_)
        · have t27 := tq_eq (k := v14_3.toInt) (q := p1.toInt) c27 rfl rfl
          exact j50 v14_2 _ _ _ (fun σ h => by have en := cgz19.trans (congrArg Int32.toInt (show I y16 3 = σ.1.1 1 by rw [show y16 = an Q p0 from (gd_of ey16).symm]; exact cx_1 h)); have g := g14 σ h; exact ⟨g.1, tc_no g.2 rfl (fun q => q.2.1 (by omega))⟩) hP hS (lv_sub hl [0, 1, 2, 3] rfl)
        · have t27 := tq_ne (k := v14_3.toInt) (q := p1.toInt) c27 rfl rfl
          refine lv_aload_n hx hb dX6_touching_30 rfl (lv_at hl 0 rfl) ?_
          obtain ⟨y31, ey31, hLy31, hKy31, hGy31⟩ := oQ_6_5 (Sv_at hQ hLp0 hKp0)
          refine p_get (v := .ref y31) hx hb hts inX6 hown hK hP hLp0 hKp0 rfl rfl 5 (by decide) (hts _ pq354) (congrArg (fun q => some (va_rf q)) ey31) dX6_touching_31 ?_
          refine lv_iload_n hx hb dX6_touching_34 rfl (lv_at hl 1 rfl) ?_
          refine lv_iload_n hx hb dX6_touching_35 rfl (lv_at hl 3 rfl) ?_
          refine lv_iconst (v := 0) hx hb dX6_touching_36 (by decide +kernel) ?_
          refine lv_iconst (v := 0) hx hb dX6_touching_37 (by decide +kernel) ?_
          refine ro_i (va_runV (As := [.int p1, .int v14_3, .int 0, .int 0]) (rest := []) ⟨hx, hb, hml, hown, hts⟩ (s_X5_touchesIfMoved l dC dI cs L K G Q hQ x0 m0 tx tm H.size I J hI y31 hLy31 hKy31 p1 ⟨by omega, by omega⟩ v14_3 ⟨by omega, by omega⟩ 0 0) (cwV 4 hts (gV pq997 pq810 pq811 pq79 pq812) rfl rfl rfl (by decide +kernel) ⟨(by rw [hR]; exact (Nat.le_of_ble_eq_true rfl)), (by rw [hR]; exact (Nat.le_of_ble_eq_true rfl))⟩) (sP_V hP hD hK hN hLy31 hKy31 rfl rfl) rfl rfl hl.1 rfl (lv_room (Nat.le_of_ble_eq_true rfl)) dX6_touching_38 ⟨(by rw [hR]; exact (Nat.le_of_ble_eq_true rfl)), (by rw [hR]; exact (Nat.le_of_ble_eq_true rfl))⟩) hS hP (fun z38 H locs hz38 hP hS => ?_)
          have cst38_0 : (0 : Int32).toInt = 0 := by decide +kernel
          obtain ⟨bz38, xpz38⟩ := hz38
          try rw [cst38_0] at xpz38
          refine lv_if_eq (tgt := 50) hx hb dX6_touching_41 (by decide) (fun c41 => ?_) (fun c41 => ?_)
          · have t41 := tq_eq (k := z38.toInt) (q := (0)) c41 rfl (by decide +kernel)
            exact j50 v14_2 _ _ _ (fun σ h => by have en := cgz19.trans (congrArg Int32.toInt (show I y16 3 = σ.1.1 1 by rw [show y16 = an Q p0 from (gd_of ey16).symm]; exact cx_1 h)); have g := g14 σ h; have T := cxA_tg h; rw [show se Q p0 = y31 from gd_of ey31] at T; have w := xpz38 σ.1 T.1 T.2.1 T.2.2 (show p1.toInt.toNat < _ by omega) (show v14_3.toInt.toNat < _ by omega) ⟨by decide +kernel, by decide +kernel⟩; exact ⟨g.1, tc_no g.2 rfl (fun q => (w.mpr q.2.2) t41)⟩) hP hS (lv_sub hl [0, 1, 2, 3] rfl)
          · have t41 := tq_ne (k := z38.toInt) (q := (0)) c41 rfl (by decide +kernel)
            refine lv_iload_n hx hb dX6_touching_44 rfl (lv_at hl 2 rfl) ?_
            refine lv_iconst (v := 1) hx hb dX6_touching_45 (by decide +kernel) ?_
            refine lv_iload_n hx hb dX6_touching_46 rfl (lv_at hl 3 rfl) ?_
            refine lv_ishl hx hb dX6_touching_47 ?_
            refine lv_topi (fun z47 ez47 => ?_)
            refine lv_ior hx hb dX6_touching_48 ?_
            refine lv_topi (fun z48 ez48 => ?_)
            refine lv_istore_n (lv' := [(2, .int z48), (0, .ref p0), (1, .int p1), (3, .int v14_3)]) hx hb dX6_touching_49 rfl hl (by decide) rfl (fun ls hl => ?_)
            exact j50 z48 _ _ _ (fun σ h => by have en := cgz19.trans (congrArg Int32.toInt (show I y16 3 = σ.1.1 1 by rw [show y16 = an Q p0 from (gd_of ey16).symm]; exact cx_1 h)); have g := g14 σ h; have T := cxA_tg h; rw [show se Q p0 = y31 from gd_of ey31] at T; have w := xpz38 σ.1 T.1 T.2.1 T.2.2 (show p1.toInt.toNat < _ by omega) (show v14_3.toInt.toNat < _ by omega) ⟨by decide +kernel, by decide +kernel⟩; exact ⟨g.1, tc_yes g.2 rfl (hb_set ez47 ez48 ⟨by omega, by omega⟩) ⟨by omega, by omega, w.mp t41⟩⟩) hP hS (lv_sub hl [1, 2, 0, 3] rfl))
    exact key14 _ 0 0 _ _ _ rfl ⟨by decide +kernel, by decide +kernel⟩ (fun σ h => by have q := xpz2.1 t5; rw [cx_1 h] at q; exact ⟨q, fun o => by rw [hb_0, show (0 : Int32).toInt.toNat = 0 from by decide +kernel]; exact ⟨fun w => (by cases w), fun w => absurd w.1 (Nat.not_lt_zero _)⟩⟩) hP hS (lv_sub hl [2, 3, 1, 0] rfl)
  · have t5 := tq_eq (k := z2.toInt) (q := (0)) c5 rfl (by decide +kernel)
    refine lv_iconst (v := (-1)) hx hb dX6_touching_8 (by decide +kernel) ?_
    subst hR; subst hQz
    exact W.iret (v := (-1)) hx hb hr (fun t ht hW => ⟨⟨(-1), (), rfl, (fun σ h => by have q := xpz2.2 t5; rw [cx_1 h] at q; exact ⟨fun w => absurd w q, fun _ => by decide +kernel⟩), trivial⟩, hS.F ht⟩) hS.2.2 dX6_touching_9

set_option maxHeartbeats 4000000 in
set_option maxRecDepth 100000 in
theorem s_X6_at (l : Launch) (dC : Nat → ClassId) (dI : Nat → Nat → Nat) (cs : Nat → ClassId) (L : List Nat) (K G : Nat → Nat) (Q : Nat → Nat → Option Nat) (hQ : Sv L K G Q) (x0 m0 : Nat) (tx : GT) (tm : GT × Int) (sz : Nat) (I : Nat → Nat → Int32) (J : Nat → Nat → Int64) (hI : Iv L K x0 m0 tx tm I) (p0 : Nat) (hLp0 : p0 ∈ L) (hKp0 : K p0 = 6) (p1 : Int32) (p2 : Int32) : Met l yX6_at (.code yX6_at cX6_at 5 (some .int) :: pw) ({ frames := 3, cells := 0, slots := 0, locals := 68 }) (sP (dC, dI) cs [.ref p0, .int p1, .int p2] sz L K I J Q) (va_Qi (fun (r : Int32) (_ : Unit) => (∀ σ : Sx, cxA Q I J p0 σ → atR σ p1 p2 r)) (fun _ _ => True) (fun _ => False)) 0 0 (fun _ => False) := by
  refine Met.ofW (cc := cX6_at) (maxL := 5) (ret := (some .int)) (by decide +kernel) rfl ?_
  intro p e s m args below meth c s₁ B hml hv
  obtain ⟨rfl, hsz, hP, hK, hD0, hN⟩ := hv
  have hx := B.exec
  have hb := B.bytes
  have hr := B.returns
  have hts := fun w (h : w ∈ pw) => atoms_spec (ws := Cond.code yX6_at cX6_at 5 (some .int) :: pw) B.pre w (List.mem_cons_of_mem _ h)
  have hown : s.vm.findClass RX6 = some m.cls := findClass_of_methodNamed B.named
  have hlocks := B.notSynchronized
  subst hsz
  have hBB : 999 ≤ tm.2 ∧ tm.2 ≤ 6000000 := hI.2.2.2.2.1
  have hD := hD0
  obtain ⟨H, hHe⟩ : ∃ H : Heap, H = s.heap := ⟨_, rfl⟩
  have hS : va_S (fun _ => False) s.heap H [] := by rw [hHe]; exact va_S.rf
  rw [← hHe] at hP
  have hl := lv_entry ([.ref p0, .int p1, .int p2]) (n := 5) (Nat.le_of_ble_eq_true rfl)
  rw [lg_entry_eq]
  generalize (lg_sl ([.ref p0, .int p1, .int p2]) ++ List.replicate (5 - (lg_sl ([.ref p0, .int p1, .int p2])).length) Slot.unset).toArray = ls at hl ⊢
  have hl : lv_has ls 5 [(0, .ref p0), (1, .int p1), (2, .int p2)] := hl
  rw [← hHe]
  refine namedW (fun R Qz hR hQz => ?_)
  refine lv_iconst (v := 0) hx hb dX6_at_0 (by decide +kernel) ?_
  refine lv_istore_n (lv' := [(3, .int 0), (0, .ref p0), (1, .int p1), (2, .int p2)]) hx hb dX6_at_1 rfl hl (by decide) rfl (fun ls hl => ?_)
  refine lv_iconst (v := 0) hx hb dX6_at_2 (by decide +kernel) ?_
  refine lv_istore (lv' := [(4, .int 0), (3, .int 0), (0, .ref p0), (1, .int p1), (2, .int p2)]) hx hb dX6_at_3 hl (by decide) rfl (fun ls hl => ?_)
  have key5 := blocks (fun n => ∀ (v5_3 : Int32) (v5_4 : Int32) (H : Heap) (lo : List Loc) (ls : Array Slot), (11 - v5_4.toInt).toNat = n → ((0) ≤ v5_4.toInt ∧ v5_4.toInt ≤ 10) → (∀ σ : Sx, cxA Q I J p0 σ → ∀ o : Nat, hbt v5_3 o = true ↔ o < v5_4.toInt.toNat ∧ cvP σ.1 p1 p2 o) → va_P (dC, dI) vwCl (Wd cs L K I J Q) H → va_S (fun _ => False) s.heap H lo → lv_has ls 5 [(0, .ref p0), (1, .int p1), (2, .int p2), (3, .int v5_3), (4, .int v5_4)] → W p l e R s m (([.ref p0, .int p1, .int p2] : List Value).toArray) below meth c H lo 0 0 Qz (F0 m 5 ls [])) (by
    intro n ih5
    intro v5_3 v5_4 H lo ls hmu5 bv5_4 g5 hP hS hl
    refine lv_iload hx hb dX6_at_5 (lv_at hl 4 rfl) ?_
    refine lv_aload_n hx hb dX6_at_7 rfl (lv_at hl 0 rfl) ?_
    obtain ⟨y8, ey8, hLy8, hKy8, hGy8⟩ := oQ_6_2 (Sv_at hQ hLp0 hKp0)
    refine p_get (v := .ref y8) hx hb hts inX6 hown hK hP hLp0 hKp0 rfl rfl 2 (by decide) (hts _ pq351) (congrArg (fun q => some (va_rf q)) ey8) dX6_at_8 ?_
    refine p_get hx hb hts inX1 hown hK hP hLy8 hKy8 rfl rfl 3 (by decide) (hts _ pq226) rfl dX6_at_11 ?_
    refine lv_topi (fun z11 ez11 => ?_)
    have cgz11 := congrArg Int32.toInt ez11
    have bz11 := oI_1_3 (Iv_at hI hLy8 hKy8)
    rw [← ez11] at bz11
    refine lv_icmp_ge (tgt := 44) hx hb dX6_at_14 (by decide) (fun c14 => ?_) (fun c14 => ?_)
    · have t14 := tq_le (k := z11.toInt) (q := v5_4.toInt) c14 rfl rfl
      refine lv_iload_n hx hb dX6_at_44 rfl (lv_at hl 3 rfl) ?_
      subst hR; subst hQz
      exact W.iret (v := v5_3) hx hb hr (fun t ht hW => ⟨⟨v5_3, (), rfl, (fun σ h o => by have en := cgz11.trans (congrArg Int32.toInt (show I y8 3 = σ.1.1 1 by rw [show y8 = an Q p0 from (gd_of ey8).symm]; exact cx_1 h)); exact (g5 σ h o).trans ⟨fun w => w.2, fun w => ⟨by have := w.1; omega, w⟩⟩), trivial⟩, hS.F ht⟩) hS.2.2 dX6_at_45
    · have t14 := tq_nle (k := z11.toInt) (q := v5_4.toInt) c14 rfl rfl
      refine lv_aload_n hx hb dX6_at_17 rfl (lv_at hl 0 rfl) ?_
      obtain ⟨y18, ey18, hLy18, hKy18, hGy18⟩ := oQ_6_5 (Sv_at hQ hLp0 hKp0)
      refine p_get (v := .ref y18) hx hb hts inX6 hown hK hP hLp0 hKp0 rfl rfl 5 (by decide) (hts _ pq354) (congrArg (fun q => some (va_rf q)) ey18) dX6_at_18 ?_
      refine lv_iload hx hb dX6_at_21 (lv_at hl 4 rfl) ?_
      refine lv_iload_n hx hb dX6_at_23 rfl (lv_at hl 1 rfl) ?_
      refine lv_iload_n hx hb dX6_at_24 rfl (lv_at hl 2 rfl) ?_
      refine ro_i (va_runV (As := [.int v5_4, .int p1, .int p2]) (rest := []) ⟨hx, hb, hml, hown, hts⟩ (s_X5_covers l dC dI cs L K G Q hQ x0 m0 tx tm H.size I J hI y18 hLy18 hKy18 v5_4 ⟨by omega, by omega⟩ p1 p2) (cwV 3 hts (gV pq1019 pq1020 pq1021 pq79 pq1022) rfl rfl rfl (by decide +kernel) ⟨(by rw [hR]; exact (Nat.le_of_ble_eq_true rfl)), (by rw [hR]; exact (Nat.le_of_ble_eq_true rfl))⟩) (sP_V hP hD hK hN hLy18 hKy18 rfl rfl) rfl rfl hl.1 rfl (lv_room (Nat.le_of_ble_eq_true rfl)) dX6_at_25 ⟨(by rw [hR]; exact (Nat.le_of_ble_eq_true rfl)), (by rw [hR]; exact (Nat.le_of_ble_eq_true rfl))⟩) hS hP (fun z25 H locs hz25 hP hS => ?_)
      obtain ⟨bz25, xpz25⟩ := hz25
      have j38 : ∀ (v38_3 : Int32) (H : Heap) (lo : List Loc) (ls : Array Slot), (∀ σ : Sx, cxA Q I J p0 σ → ∀ o : Nat, hbt v38_3 o = true ↔ o < v5_4.toInt.toNat + 1 ∧ cvP σ.1 p1 p2 o) → va_P (dC, dI) vwCl (Wd cs L K I J Q) H → va_S (fun _ => False) s.heap H lo → lv_has ls 5 [(0, .ref p0), (1, .int p1), (2, .int p2), (3, .int v38_3), (4, .int v5_4)] → W p l e R s m (([.ref p0, .int p1, .int p2] : List Value).toArray) below meth c H lo 0 0 Qz (F0 m 38 ls []) := by
        intro v38_3 H lo ls g38 hP hS hl
        obtain ⟨z38, ez38⟩ : ∃ y : Int32, y = v5_4 + 1 := ⟨_, rfl⟩
        refine lv_iinc (v := z38) (lv' := [(4, .int z38), (0, .ref p0), (1, .int p1), (2, .int p2), (3, .int v38_3)]) hx hb dX6_at_38 hl (k := 4) rfl (by rw [ez38]; rfl) (by decide) rfl (fun ls hl => ?_)
        have bz38 := tq_add (k := v5_4.toInt) (q := 1) ez38 rfl (by decide +kernel) (by omega) (by omega)
        refine lv_goto (tgt := 5) hx hb dX6_at_41 (by decide) ?_
        exact ih5 _ (by omega) v38_3 z38 _ _ _ rfl ⟨by omega, by omega⟩ (fun σ h => by rw [show z38.toInt.toNat = v5_4.toInt.toNat + 1 by omega]; exact g38 σ h) hP hS (lv_sub hl [1, 2, 3, 4, 0] rfl)
      refine lv_if_eq (tgt := 38) hx hb dX6_at_28 (by decide) (fun c28 => ?_) (fun c28 => ?_)
      · have t28 := tq_eq (k := z25.toInt) (q := (0)) c28 rfl (by decide +kernel)
        exact j38 v5_3 _ _ _ (fun σ h => by have en := cgz11.trans (congrArg Int32.toInt (show I y8 3 = σ.1.1 1 by rw [show y8 = an Q p0 from (gd_of ey8).symm]; exact cx_1 h)); have T := cxA_tg h; rw [show se Q p0 = y18 from gd_of ey18] at T; have w := xpz25 σ.1 T.1 T.2.1 T.2.2 (show v5_4.toInt.toNat < _ by omega); exact bt_no (g5 σ h) rfl (fun q => (w.mpr q.2) t28)) hP hS (lv_sub hl [0, 1, 2, 3, 4] rfl)
      · have t28 := tq_ne (k := z25.toInt) (q := (0)) c28 rfl (by decide +kernel)
        refine lv_iload_n hx hb dX6_at_31 rfl (lv_at hl 3 rfl) ?_
        refine lv_iconst (v := 1) hx hb dX6_at_32 (by decide +kernel) ?_
        refine lv_iload hx hb dX6_at_33 (lv_at hl 4 rfl) ?_
        refine lv_ishl hx hb dX6_at_35 ?_
        refine lv_topi (fun z35 ez35 => ?_)
        refine lv_ior hx hb dX6_at_36 ?_
        refine lv_topi (fun z36 ez36 => ?_)
        refine lv_istore_n (lv' := [(3, .int z36), (0, .ref p0), (1, .int p1), (2, .int p2), (4, .int v5_4)]) hx hb dX6_at_37 rfl hl (by decide) rfl (fun ls hl => ?_)
        exact j38 z36 _ _ _ (fun σ h => by have en := cgz11.trans (congrArg Int32.toInt (show I y8 3 = σ.1.1 1 by rw [show y8 = an Q p0 from (gd_of ey8).symm]; exact cx_1 h)); have T := cxA_tg h; rw [show se Q p0 = y18 from gd_of ey18] at T; have w := xpz25 σ.1 T.1 T.2.1 T.2.2 (show v5_4.toInt.toNat < _ by omega); exact bt_yes (g5 σ h) rfl (hb_set ez35 ez36 ⟨by omega, by omega⟩) ⟨by omega, w.mp t28⟩) hP hS (lv_sub hl [1, 2, 3, 0, 4] rfl))
  exact key5 _ 0 0 _ _ _ rfl ⟨by decide +kernel, by decide +kernel⟩ (fun σ h o => by rw [hb_0, show (0 : Int32).toInt.toNat = 0 from by decide +kernel]; exact ⟨fun w => (by cases w), fun w => absurd w.1 (Nat.not_lt_zero _)⟩) hP hS (lv_sub hl [2, 3, 4, 1, 0] rfl)

set_option maxHeartbeats 4000000 in
set_option maxRecDepth 100000 in
theorem s_X6_first (l : Launch) (dC : Nat → ClassId) (dI : Nat → Nat → Nat) (cs : Nat → ClassId) (L : List Nat) (K G : Nat → Nat) (Q : Nat → Nat → Option Nat) (hQ : Sv L K G Q) (x0 m0 : Nat) (tx : GT) (tm : GT × Int) (sz : Nat) (I : Nat → Nat → Int32) (J : Nat → Nat → Int64) (hI : Iv L K x0 m0 tx tm I) (p0 : Nat) (hLp0 : p0 ∈ L) (hKp0 : K p0 = 6) (p1 : Int32) (p2 : Int32) (p3 : Int32) : Met l yX6_first (.code yX6_first cX6_first 6 (some .int) :: pw) ({ frames := 4, cells := 0, slots := 0, locals := 108 }) (sP (dC, dI) cs [.ref p0, .int p1, .int p2, .int p3] sz L K I J Q) (va_Qi (fun (r : Int32) (_ : Unit) => (∀ σ : Sx, cxA Q I J p0 σ → fsR σ p1 p2 p3 r)) (fun _ _ => True) (fun _ => False)) 0 0 (fun _ => False) := by
  refine Met.ofW (cc := cX6_first) (maxL := 6) (ret := (some .int)) (by decide +kernel) rfl ?_
  intro p e s m args below meth c s₁ B hml hv
  obtain ⟨rfl, hsz, hP, hK, hD0, hN⟩ := hv
  have hx := B.exec
  have hb := B.bytes
  have hr := B.returns
  have hts := fun w (h : w ∈ pw) => atoms_spec (ws := Cond.code yX6_first cX6_first 6 (some .int) :: pw) B.pre w (List.mem_cons_of_mem _ h)
  have hown : s.vm.findClass RX6 = some m.cls := findClass_of_methodNamed B.named
  have hlocks := B.notSynchronized
  subst hsz
  have hBB : 999 ≤ tm.2 ∧ tm.2 ≤ 6000000 := hI.2.2.2.2.1
  have hD := hD0
  obtain ⟨H, hHe⟩ : ∃ H : Heap, H = s.heap := ⟨_, rfl⟩
  have hS : va_S (fun _ => False) s.heap H [] := by rw [hHe]; exact va_S.rf
  rw [← hHe] at hP
  have hl := lv_entry ([.ref p0, .int p1, .int p2, .int p3]) (n := 6) (Nat.le_of_ble_eq_true rfl)
  rw [lg_entry_eq]
  generalize (lg_sl ([.ref p0, .int p1, .int p2, .int p3]) ++ List.replicate (6 - (lg_sl ([.ref p0, .int p1, .int p2, .int p3])).length) Slot.unset).toArray = ls at hl ⊢
  have hl : lv_has ls 6 [(0, .ref p0), (1, .int p1), (2, .int p2), (3, .int p3)] := hl
  rw [← hHe]
  refine namedW (fun R Qz hR hQz => ?_)
  refine lv_aload_n hx hb dX6_first_0 rfl (lv_at hl 0 rfl) ?_
  refine lv_iload_n hx hb dX6_first_1 rfl (lv_at hl 1 rfl) ?_
  refine lv_iload_n hx hb dX6_first_2 rfl (lv_at hl 2 rfl) ?_
  refine ro_i (va_runV (As := [.int p1, .int p2]) (rest := []) ⟨hx, hb, hml, hown, hts⟩ (s_X6_areTwoBodies l dC dI cs L K G Q hQ x0 m0 tx tm H.size I J hI p0 hLp0 hKp0 p1 p2) (cwV 2 hts (gV pq970 pq972 pq7 pq74 pq973) rfl rfl rfl (by decide +kernel) ⟨(by rw [hR]; exact (Nat.le_of_ble_eq_true rfl)), (by rw [hR]; exact (Nat.le_of_ble_eq_true rfl))⟩) (sP_V hP hD hK hN hLp0 hKp0 rfl rfl) rfl rfl hl.1 rfl (lv_room (Nat.le_of_ble_eq_true rfl)) dX6_first_3 ⟨(by rw [hR]; exact (Nat.le_of_ble_eq_true rfl)), (by rw [hR]; exact (Nat.le_of_ble_eq_true rfl))⟩) hS hP (fun z3 H locs hz3 hP hS => ?_)
  obtain ⟨bz3, imz3, xpz3⟩ := hz3
  refine lv_if_eq (tgt := 19) hx hb dX6_first_6 (by decide) (fun c6 => ?_) (fun c6 => ?_)
  · have t6 := tq_eq (k := z3.toInt) (q := (0)) c6 rfl (by decide +kernel)
    refine lv_iconst (v := (-1)) hx hb dX6_first_19 (by decide +kernel) ?_
    subst hR; subst hQz
    exact W.iret (v := (-1)) hx hb hr (fun t ht hW => ⟨⟨(-1), (), rfl, (fun σ h => by have e := cx_1 h; exact ⟨fun w => absurd w (fun w => by first | (have t := w.1; unfold twV at t; rw [← e] at t; exact (xpz3.mpr t) t6) | exact xpz13 t16 w.2), fun _ => by decide +kernel⟩), trivial⟩, hS.F ht⟩) hS.2.2 dX6_first_20
  · have t6 := tq_ne (k := z3.toInt) (q := (0)) c6 rfl (by decide +kernel)
    have i6 := imz3 t6
    refine lv_iload_n hx hb dX6_first_9 rfl (lv_at hl 3 rfl) ?_
    refine lv_sipush (v := 300) hx hb dX6_first_10 (by decide +kernel) ?_
    refine ro_i (va_runS (As := [.int p3, .int 300]) (rest := []) ⟨hx, hb, hml, hown, hts⟩ (s_X6_isFrom0To l dC dI cs L K G Q hQ x0 m0 tx tm H.size I J hI p3 300) (va_cwS 2 hts (gS pq651 pq652 pq74 pq653) rfl rfl rfl (by decide +kernel) ⟨(by rw [hR]; exact (Nat.le_of_ble_eq_true rfl)), (by rw [hR]; exact (Nat.le_of_ble_eq_true rfl))⟩) (sP_S hP hD hK hN) rfl rfl hl.1 rfl (lv_room (Nat.le_of_ble_eq_true rfl)) dX6_first_13 ⟨(by rw [hR]; exact (Nat.le_of_ble_eq_true rfl)), (by rw [hR]; exact (Nat.le_of_ble_eq_true rfl))⟩) hS hP (fun z13 H locs hz13 hP hS => ?_)
    have cst13_300 : (300 : Int32).toInt = 300 := by decide +kernel
    obtain ⟨bz13, imz13, xpz13⟩ := hz13
    try rw [cst13_300] at xpz13
    refine lv_if_ne (tgt := 21) hx hb dX6_first_16 (by decide) (fun c16 => ?_) (fun c16 => ?_)
    · have t16 := tq_ne (k := z13.toInt) (q := (0)) c16 rfl (by decide +kernel)
      have i16 := imz13 t16
      refine lv_aload_n hx hb dX6_first_21 rfl (lv_at hl 0 rfl) ?_
      obtain ⟨y22, ey22, hLy22, hKy22, hGy22⟩ := oQ_6_2 (Sv_at hQ hLp0 hKp0)
      refine p_get (v := .ref y22) hx hb hts inX6 hown hK hP hLp0 hKp0 rfl rfl 2 (by decide) (hts _ pq351) (congrArg (fun q => some (va_rf q)) ey22) dX6_first_22 ?_
      obtain ⟨y25, ey25, hLy25, hKy25, hGy25⟩ := oQ_1_1 (Sv_at hQ hLy22 hKy22)
      refine p_get (v := .ref y25) hx hb hts inX1 hown hK hP hLy22 hKy22 rfl rfl 1 (by decide) (hts _ pq219) (congrArg (fun q => some (va_rf q)) ey25) dX6_first_25 ?_
      refine lv_iload_n hx hb dX6_first_28 rfl (lv_at hl 1 rfl) ?_
      obtain ⟨y29, ey29, hLy29, hKy29, hGy29⟩ := (Sv_at hQ hLy25 hKy25).1 p1.toNatClampNeg (clamp_lt (n := 10) (in_of (by omega) (by omega)))
      refine p_aaldR hx hb hK hP 4 hLy25 hKy25 rfl rfl (in_of (by omega) (by omega)) ey29 dX6_first_29 ?_
      refine p_get hx hb hts inX0 hown hK hP hLy29 hKy29 rfl rfl 6 (by decide) (hts _ pq191) rfl dX6_first_30 ?_
      refine lv_topi (fun z30 ez30 => ?_)
      have bz30 := oI_0_6 (Iv_at hI hLy29 hKy29)
      rw [← ez30] at bz30
      refine lv_aload_n hx hb dX6_first_33 rfl (lv_at hl 0 rfl) ?_
      refine p_get (v := .ref y22) hx hb hts inX6 hown hK hP hLp0 hKp0 rfl rfl 2 (by decide) (hts _ pq351) (congrArg (fun q => some (va_rf q)) ey22) dX6_first_34 ?_
      refine p_get (v := .ref y25) hx hb hts inX1 hown hK hP hLy22 hKy22 rfl rfl 1 (by decide) (hts _ pq219) (congrArg (fun q => some (va_rf q)) ey25) dX6_first_37 ?_
      refine lv_iload_n hx hb dX6_first_40 rfl (lv_at hl 2 rfl) ?_
      obtain ⟨y41, ey41, hLy41, hKy41, hGy41⟩ := (Sv_at hQ hLy25 hKy25).1 p2.toNatClampNeg (clamp_lt (n := 10) (in_of (by omega) (by omega)))
      refine p_aaldR hx hb hK hP 4 hLy25 hKy25 rfl rfl (in_of (by omega) (by omega)) ey41 dX6_first_41 ?_
      refine p_get hx hb hts inX0 hown hK hP hLy41 hKy41 rfl rfl 6 (by decide) (hts _ pq191) rfl dX6_first_42 ?_
      refine lv_topi (fun z42 ez42 => ?_)
      have bz42 := oI_0_6 (Iv_at hI hLy41 hKy41)
      rw [← ez42] at bz42
      refine lv_isub hx hb dX6_first_45 ?_
      refine lv_topi (fun z45 ez45 => ?_)
      have bz45 := tq_sub (k := z30.toInt) (q := z42.toInt) ez45 rfl rfl (by omega) (by omega)
      refine lv_istore (lv' := [(4, .int z45), (0, .ref p0), (1, .int p1), (2, .int p2), (3, .int p3)]) hx hb dX6_first_46 hl (by decide) rfl (fun ls hl => ?_)
      refine lv_aload_n hx hb dX6_first_48 rfl (lv_at hl 1 rfl) ?_
      refine p_get (v := .ref y22) hx hb hts inX6 hown hK hP hLp0 hKp0 rfl rfl 2 (by decide) (hts _ pq351) (congrArg (fun q => some (va_rf q)) ey22) dX6_first_49 ?_
      refine p_get (v := .ref y25) hx hb hts inX1 hown hK hP hLy22 hKy22 rfl rfl 1 (by decide) (hts _ pq219) (congrArg (fun q => some (va_rf q)) ey25) dX6_first_52 ?_
      refine lv_iload_n hx hb dX6_first_55 rfl (lv_at hl 2 rfl) ?_
      refine p_aaldR hx hb hK hP 4 hLy25 hKy25 rfl rfl (in_of (by omega) (by omega)) ey29 dX6_first_56 ?_
      refine p_get hx hb hts inX0 hown hK hP hLy29 hKy29 rfl rfl 7 (by decide) (hts _ pq194) rfl dX6_first_57 ?_
      refine lv_topi (fun z57 ez57 => ?_)
      have bz57 := oI_0_7 (Iv_at hI hLy29 hKy29)
      rw [← ez57] at bz57
      refine lv_aload_n hx hb dX6_first_60 rfl (lv_at hl 1 rfl) ?_
      refine p_get (v := .ref y22) hx hb hts inX6 hown hK hP hLp0 hKp0 rfl rfl 2 (by decide) (hts _ pq351) (congrArg (fun q => some (va_rf q)) ey22) dX6_first_61 ?_
      refine p_get (v := .ref y25) hx hb hts inX1 hown hK hP hLy22 hKy22 rfl rfl 1 (by decide) (hts _ pq219) (congrArg (fun q => some (va_rf q)) ey25) dX6_first_64 ?_
      refine lv_iload_n hx hb dX6_first_67 rfl (lv_at hl 3 rfl) ?_
      refine p_aaldR hx hb hK hP 4 hLy25 hKy25 rfl rfl (in_of (by omega) (by omega)) ey41 dX6_first_68 ?_
      refine p_get hx hb hts inX0 hown hK hP hLy41 hKy41 rfl rfl 7 (by decide) (hts _ pq194) rfl dX6_first_69 ?_
      refine lv_topi (fun z69 ez69 => ?_)
      have bz69 := oI_0_7 (Iv_at hI hLy41 hKy41)
      rw [← ez69] at bz69
      refine lv_isub hx hb dX6_first_72 ?_
      refine lv_topi (fun z72 ez72 => ?_)
      have bz72 := tq_sub (k := z57.toInt) (q := z69.toInt) ez72 rfl rfl (by omega) (by omega)
      refine lv_istore (lv' := [(5, .int z72), (4, .int z45), (0, .ref p0), (1, .int p1), (2, .int p2), (3, .int p3)]) hx hb dX6_first_73 hl (by decide) rfl (fun ls hl => ?_)
      refine lv_aload_n hx hb dX6_first_75 rfl (lv_at hl 2 rfl) ?_
      obtain ⟨y76, ey76, hLy76, hKy76, hGy76⟩ := oQ_6_5 (Sv_at hQ hLp0 hKp0)
      refine p_get (v := .ref y76) hx hb hts inX6 hown hK hP hLp0 hKp0 rfl rfl 5 (by decide) (hts _ pq354) (congrArg (fun q => some (va_rf q)) ey76) dX6_first_76 ?_
      refine lv_iload_n hx hb dX6_first_79 rfl (lv_at hl 3 rfl) ?_
      refine lv_iload_n hx hb dX6_first_80 rfl (lv_at hl 4 rfl) ?_
      refine lv_iload hx hb dX6_first_81 (lv_at hl 1 rfl) ?_
      refine lv_iload hx hb dX6_first_83 (lv_at hl 0 rfl) ?_
      refine lv_iload_n hx hb dX6_first_85 rfl (lv_at hl 5 rfl) ?_
      refine ro_i (va_runV (As := [.int p1, .int p2, .int z45, .int z72, .int p3]) (rest := []) ⟨hx, hb, hml, hown, hts⟩ (s_X5_firstTouchOfTwo l dC dI cs L K G Q hQ x0 m0 tx tm H.size I J hI y76 hLy76 hKy76 p1 ⟨by omega, by omega⟩ p2 ⟨by omega, by omega⟩ z45 z72 p3 ⟨by omega, by omega⟩) (cwV 5 hts (gV pq1028 pq1029 pq1030 pq79 pq1031) rfl rfl rfl (by decide +kernel) ⟨(by rw [hR]; exact (Nat.le_of_ble_eq_true rfl)), (by rw [hR]; exact (Nat.le_of_ble_eq_true rfl))⟩) (sP_V hP hD hK hN hLy76 hKy76 rfl rfl) rfl rfl hl.1 rfl (lv_room (Nat.le_of_ble_eq_true rfl)) dX6_first_86 ⟨(by rw [hR]; exact (Nat.le_of_ble_eq_true rfl)), (by rw [hR]; exact (Nat.le_of_ble_eq_true rfl))⟩) hS hP (fun z86 H locs hz86 hP hS => ?_)
      have xpz86 := hz86
      subst hR; subst hQz
      exact W.iret (v := z86) hx hb hr (fun t ht hW => ⟨⟨z86, (), rfl, (fun σ h => by have e := cx_1 h; have T := cxA_tg h; rw [show se Q p0 = y76 from gd_of ey76] at T; have t := xpz3.mp t6; rw [e] at t; have va6 := cx_b h (b := p1.toInt.toNat) (k := 6) (by omega) (by decide); have vb6 := cx_b h (b := p2.toInt.toNat) (k := 6) (by omega) (by decide); rw [show fb Q (an Q p0) p1.toInt.toNat = y29 from (by rw [show an Q p0 = y22 from gd_of ey22]; exact fb_of ey25 ey29)] at va6; rw [show fb Q (an Q p0) p2.toInt.toNat = y41 from (by rw [show an Q p0 = y22 from gd_of ey22]; exact fb_of ey25 ey41)] at vb6; have e45 : z45.toInt = fv σ 6 p1.toInt.toNat p2.toInt.toNat := (by unfold fv; rw [bz45, congrArg Int32.toInt (ez30.trans va6), congrArg Int32.toInt (ez42.trans vb6)]); have va7 := cx_b h (b := p1.toInt.toNat) (k := 7) (by omega) (by decide); have vb7 := cx_b h (b := p2.toInt.toNat) (k := 7) (by omega) (by decide); rw [show fb Q (an Q p0) p1.toInt.toNat = y29 from (by rw [show an Q p0 = y22 from gd_of ey22]; exact fb_of ey25 ey29)] at va7; rw [show fb Q (an Q p0) p2.toInt.toNat = y41 from (by rw [show an Q p0 = y22 from gd_of ey22]; exact fb_of ey25 ey41)] at vb7; have e72 : z72.toInt = fv σ 7 p1.toInt.toNat p2.toInt.toNat := (by unfold fv; rw [bz72, congrArg Int32.toInt (ez57.trans va7), congrArg Int32.toInt (ez69.trans vb7)]); have w := xpz86 σ.1 T.1 T.2.1 T.2.2 (show p1.toInt.toNat < _ by omega) (show p2.toInt.toNat < _ by omega) ⟨⟨by omega, by omega⟩, by omega, by omega⟩; rw [e45, e72] at w; exact ⟨fun _ => w, fun q => absurd ⟨t, by omega, by omega⟩ q⟩), trivial⟩, hS.F ht⟩) hS.2.2 dX6_first_89
    · have t16 := tq_eq (k := z13.toInt) (q := (0)) c16 rfl (by decide +kernel)
      refine lv_iconst (v := (-1)) hx hb dX6_first_19 (by decide +kernel) ?_
      subst hR; subst hQz
      exact W.iret (v := (-1)) hx hb hr (fun t ht hW => ⟨⟨(-1), (), rfl, (fun σ h => by have e := cx_1 h; exact ⟨fun w => absurd w (fun w => by first | (have t := w.1; unfold twV at t; rw [← e] at t; exact (xpz3.mpr t) t6) | exact xpz13 t16 w.2), fun _ => by decide +kernel⟩), trivial⟩, hS.F ht⟩) hS.2.2 dX6_first_20

set_option maxHeartbeats 4000000 in
set_option maxRecDepth 100000 in
theorem s_X6_reach (l : Launch) (dC : Nat → ClassId) (dI : Nat → Nat → Nat) (cs : Nat → ClassId) (L : List Nat) (K G : Nat → Nat) (Q : Nat → Nat → Option Nat) (hQ : Sv L K G Q) (x0 m0 : Nat) (tx : GT) (tm : GT × Int) (sz : Nat) (I : Nat → Nat → Int32) (J : Nat → Nat → Int64) (hI : Iv L K x0 m0 tx tm I) (p0 : Nat) (hLp0 : p0 ∈ L) (hKp0 : K p0 = 6) (p1 : Int32) (p2 : Int32) (p3 : Int32) (p4 : Int32) : Met l yX6_reach (.code yX6_reach cX6_reach 5 (some .int) :: pw) ({ frames := 5, cells := 0, slots := 0, locals := 136 }) (sP (dC, dI) cs [.ref p0, .int p1, .int p2, .int p3, .int p4] sz L K I J Q) (va_Qi (fun (r : Int32) (_ : Unit) => True) (fun _ t => sB (dC, dI) cs L K Q (fun I1 J1 => Iv L K x0 m0 tx tm I1 ∧ (∀ b, ¬ (K b = 2 ∨ K b = 5 ∨ K b = 11 ∨ (K b = 3 ∧ G b / 100 = 4)) → I1 b = I b) ∧ (∀ b, K b = 7 ∨ K b = 18 ∨ K b = 19 ∨ K b = 20 ∨ K b = 24 → I1 b = I b) ∧ (∀ σ : Sx, cxA Q I J p0 σ → cxA Q I1 J1 p0 σ) ∧ J1 = J) t) (fun q => q ∈ L ∨ sz ≤ q)) 0 0 (fun q => q ∈ L ∨ sz ≤ q) := by
  refine Met.ofW (cc := cX6_reach) (maxL := 5) (ret := (some .int)) (by decide +kernel) rfl ?_
  intro p e s m args below meth c s₁ B hml hv
  obtain ⟨rfl, hsz, hP, hK, hD0, hN⟩ := hv
  have hx := B.exec
  have hb := B.bytes
  have hr := B.returns
  have hts := fun w (h : w ∈ pw) => atoms_spec (ws := Cond.code yX6_reach cX6_reach 5 (some .int) :: pw) B.pre w (List.mem_cons_of_mem _ h)
  have hown : s.vm.findClass RX6 = some m.cls := findClass_of_methodNamed B.named
  have hlocks := B.notSynchronized
  subst hsz
  have hBB : 999 ≤ tm.2 ∧ tm.2 ≤ 6000000 := hI.2.2.2.2.1
  have dn_I : (∀ b, K b = 7 ∨ K b = 18 ∨ K b = 19 ∨ K b = 20 ∨ K b = 24 → I b = I b) := fun _ _ => rfl
  have dj_J : J = J := rfl
  have fr_I : ∀ b, ¬ (K b = 2 ∨ K b = 5 ∨ K b = 11 ∨ (K b = 3 ∧ G b / 100 = 4)) → I b = I b := fun _ _ => rfl
  obtain ⟨A, hAe⟩ : ∃ A : Nat → Prop, A = (fun q => q ∈ L ∨ s.heap.size ≤ q) := ⟨_, rfl⟩
  rw [← hAe]
  have hAL : ∀ q, q ∈ L → A q := fun q h => by rw [hAe]; exact Or.inl h
  have hA : ∀ q, s.heap.size ≤ q → A q := fun q h => by rw [hAe]; exact Or.inr h
  have hD : ∀ F, va_D A (va_pl L F) := fun F => (hD0 F).weaken (fun k q hk _ => hAL _ (pl_mem hk))
  obtain ⟨H, hHe⟩ : ∃ H : Heap, H = s.heap := ⟨_, rfl⟩
  have hS : va_S A s.heap H [] := by rw [hHe]; exact va_S.rf
  rw [← hHe] at hP
  have hl := lv_entry ([.ref p0, .int p1, .int p2, .int p3, .int p4]) (n := 5) (Nat.le_of_ble_eq_true rfl)
  rw [lg_entry_eq]
  generalize (lg_sl ([.ref p0, .int p1, .int p2, .int p3, .int p4]) ++ List.replicate (5 - (lg_sl ([.ref p0, .int p1, .int p2, .int p3, .int p4])).length) Slot.unset).toArray = ls at hl ⊢
  have hl : lv_has ls 5 [(0, .ref p0), (1, .int p1), (2, .int p2), (3, .int p3), (4, .int p4)] := hl
  rw [← hHe]
  refine namedW (fun R Qz hR hQz => ?_)
  refine lv_aload_n hx hb dX6_reach_0 rfl (lv_at hl 0 rfl) ?_
  refine lv_iload_n hx hb dX6_reach_1 rfl (lv_at hl 1 rfl) ?_
  refine ro_i (va_runV (As := [.int p1]) (rest := []) ⟨hx, hb, hml, hown, hts⟩ (s_X6_isBody l dC dI cs L K G Q hQ x0 m0 tx tm H.size I J hI p0 hLp0 hKp0 p1) (cwV 1 hts (gV pq636 pq638 pq2 pq74 pq639) rfl rfl rfl (by decide +kernel) ⟨(by rw [hR]; exact (Nat.le_of_ble_eq_true rfl)), (by rw [hR]; exact (Nat.le_of_ble_eq_true rfl))⟩) (sP_V hP hD hK hN hLp0 hKp0 rfl rfl) rfl rfl hl.1 rfl (lv_room (Nat.le_of_ble_eq_true rfl)) dX6_reach_2 ⟨(by rw [hR]; exact (Nat.le_of_ble_eq_true rfl)), (by rw [hR]; exact (Nat.le_of_ble_eq_true rfl))⟩) hS hP (fun z2 H locs hz2 hP hS => ?_)
  obtain ⟨bz2, imz2, xpz2⟩ := hz2
  refine lv_if_eq (tgt := 37) hx hb dX6_reach_5 (by decide) (fun c5 => ?_) (fun c5 => ?_)
  · have t5 := tq_eq (k := z2.toInt) (q := (0)) c5 rfl (by decide +kernel)
    refine lv_iconst (v := (-1)) hx hb dX6_reach_37 (by decide +kernel) ?_
    subst hR; subst hQz
    exact W.iret (v := (-1)) hx hb hr (fun t ht hW => ⟨⟨(-1), (), rfl, trivial, ⟨I, J, ⟨hI, fr_I, dn_I, (fun σ A => cxA_scr hQ hLp0 hKp0 fr_I (fun _ _ _ => rfl) A), dj_J⟩, by rw [ht]; exact hP⟩⟩, hS.F ht⟩) hS.2.2 dX6_reach_38
  · have t5 := tq_ne (k := z2.toInt) (q := (0)) c5 rfl (by decide +kernel)
    have i5 := imz2 t5
    refine lv_iload_n hx hb dX6_reach_8 rfl (lv_at hl 2 rfl) ?_
    refine lv_sipush (v := 200) hx hb dX6_reach_9 (by decide +kernel) ?_
    refine ro_i (va_runS (As := [.int p2, .int 200]) (rest := []) ⟨hx, hb, hml, hown, hts⟩ (s_X6_isWithin l dC dI cs L K G Q hQ x0 m0 tx tm H.size I J hI p2 200 ⟨by decide +kernel, by decide +kernel⟩) (va_cwS 2 hts (gS pq640 pq641 pq74 pq642) rfl rfl rfl (by decide +kernel) ⟨(by rw [hR]; exact (Nat.le_of_ble_eq_true rfl)), (by rw [hR]; exact (Nat.le_of_ble_eq_true rfl))⟩) (sP_S hP hD hK hN) rfl rfl hl.1 rfl (lv_room (Nat.le_of_ble_eq_true rfl)) dX6_reach_12 ⟨(by rw [hR]; exact (Nat.le_of_ble_eq_true rfl)), (by rw [hR]; exact (Nat.le_of_ble_eq_true rfl))⟩) hS hP (fun z12 H locs hz12 hP hS => ?_)
    have cst12_200 : (200 : Int32).toInt = 200 := by decide +kernel
    obtain ⟨bz12, imz12, xpz12⟩ := hz12
    try rw [cst12_200] at xpz12
    refine lv_if_eq (tgt := 37) hx hb dX6_reach_15 (by decide) (fun c15 => ?_) (fun c15 => ?_)
    · have t15 := tq_eq (k := z12.toInt) (q := (0)) c15 rfl (by decide +kernel)
      refine lv_iconst (v := (-1)) hx hb dX6_reach_37 (by decide +kernel) ?_
      subst hR; subst hQz
      exact W.iret (v := (-1)) hx hb hr (fun t ht hW => ⟨⟨(-1), (), rfl, trivial, ⟨I, J, ⟨hI, fr_I, dn_I, (fun σ A => cxA_scr hQ hLp0 hKp0 fr_I (fun _ _ _ => rfl) A), dj_J⟩, by rw [ht]; exact hP⟩⟩, hS.F ht⟩) hS.2.2 dX6_reach_38
    · have t15 := tq_ne (k := z12.toInt) (q := (0)) c15 rfl (by decide +kernel)
      have i15 := imz12 t15
      refine lv_iload_n hx hb dX6_reach_18 rfl (lv_at hl 3 rfl) ?_
      refine lv_sipush (v := 200) hx hb dX6_reach_19 (by decide +kernel) ?_
      refine ro_i (va_runS (As := [.int p3, .int 200]) (rest := []) ⟨hx, hb, hml, hown, hts⟩ (s_X6_isWithin l dC dI cs L K G Q hQ x0 m0 tx tm H.size I J hI p3 200 ⟨by decide +kernel, by decide +kernel⟩) (va_cwS 2 hts (gS pq640 pq641 pq74 pq642) rfl rfl rfl (by decide +kernel) ⟨(by rw [hR]; exact (Nat.le_of_ble_eq_true rfl)), (by rw [hR]; exact (Nat.le_of_ble_eq_true rfl))⟩) (sP_S hP hD hK hN) rfl rfl hl.1 rfl (lv_room (Nat.le_of_ble_eq_true rfl)) dX6_reach_22 ⟨(by rw [hR]; exact (Nat.le_of_ble_eq_true rfl)), (by rw [hR]; exact (Nat.le_of_ble_eq_true rfl))⟩) hS hP (fun z22 H locs hz22 hP hS => ?_)
      have cst22_200 : (200 : Int32).toInt = 200 := by decide +kernel
      obtain ⟨bz22, imz22, xpz22⟩ := hz22
      try rw [cst22_200] at xpz22
      refine lv_if_eq (tgt := 37) hx hb dX6_reach_25 (by decide) (fun c25 => ?_) (fun c25 => ?_)
      · have t25 := tq_eq (k := z22.toInt) (q := (0)) c25 rfl (by decide +kernel)
        refine lv_iconst (v := (-1)) hx hb dX6_reach_37 (by decide +kernel) ?_
        subst hR; subst hQz
        exact W.iret (v := (-1)) hx hb hr (fun t ht hW => ⟨⟨(-1), (), rfl, trivial, ⟨I, J, ⟨hI, fr_I, dn_I, (fun σ A => cxA_scr hQ hLp0 hKp0 fr_I (fun _ _ _ => rfl) A), dj_J⟩, by rw [ht]; exact hP⟩⟩, hS.F ht⟩) hS.2.2 dX6_reach_38
      · have t25 := tq_ne (k := z22.toInt) (q := (0)) c25 rfl (by decide +kernel)
        have i25 := imz22 t25
        refine lv_iload hx hb dX6_reach_28 (lv_at hl 4 rfl) ?_
        refine lv_iconst (v := 1) hx hb dX6_reach_30 (by decide +kernel) ?_
        refine ro_i (va_runS (As := [.int p4, .int 1]) (rest := []) ⟨hx, hb, hml, hown, hts⟩ (s_X6_isFrom0To l dC dI cs L K G Q hQ x0 m0 tx tm H.size I J hI p4 1) (va_cwS 2 hts (gS pq651 pq652 pq74 pq653) rfl rfl rfl (by decide +kernel) ⟨(by rw [hR]; exact (Nat.le_of_ble_eq_true rfl)), (by rw [hR]; exact (Nat.le_of_ble_eq_true rfl))⟩) (sP_S hP hD hK hN) rfl rfl hl.1 rfl (lv_room (Nat.le_of_ble_eq_true rfl)) dX6_reach_31 ⟨(by rw [hR]; exact (Nat.le_of_ble_eq_true rfl)), (by rw [hR]; exact (Nat.le_of_ble_eq_true rfl))⟩) hS hP (fun z31 H locs hz31 hP hS => ?_)
        have cst31_1 : (1 : Int32).toInt = 1 := by decide +kernel
        obtain ⟨bz31, imz31, xpz31⟩ := hz31
        try rw [cst31_1] at xpz31
        refine lv_if_ne (tgt := 39) hx hb dX6_reach_34 (by decide) (fun c34 => ?_) (fun c34 => ?_)
        · have t34 := tq_ne (k := z31.toInt) (q := (0)) c34 rfl (by decide +kernel)
          have i34 := imz31 t34
          refine lv_aload_n hx hb dX6_reach_39 rfl (lv_at hl 0 rfl) ?_
          obtain ⟨y40, ey40, hLy40, hKy40, hGy40⟩ := oQ_6_5 (Sv_at hQ hLp0 hKp0)
          refine p_get (v := .ref y40) hx hb hts inX6 hown hK hP hLp0 hKp0 rfl rfl 5 (by decide) (hts _ pq354) (congrArg (fun q => some (va_rf q)) ey40) dX6_reach_40 ?_
          refine lv_iload_n hx hb dX6_reach_43 rfl (lv_at hl 1 rfl) ?_
          refine lv_iload_n hx hb dX6_reach_44 rfl (lv_at hl 2 rfl) ?_
          refine lv_iload_n hx hb dX6_reach_45 rfl (lv_at hl 3 rfl) ?_
          refine sw_v (Z := (fun I1 J1 => Iv L K x0 m0 tx tm I1 ∧ (∀ b, ¬ (b = y40) → I1 b = I b) ∧ (glOK tm.2 Q I1 y40 p1) ∧ (∀ c : Fx, okF c → cxF Q I J (nf Q y40) c → cxS Q I J y40 c → p1.toInt.toNat < (c.1 1).toInt.toNat → gLR c p1.toInt.toNat p2.toInt p3.toInt (I1 y40 2).toInt (I1 y40 4).toInt (I1 y40 5).toInt) ∧ J1 = J)) (va_runV (As := [.int p1, .int p2, .int p3]) (rest := []) ⟨hx, hb, hml, hown, hts⟩ (s_X5_tryGlide l dC dI cs L K G Q hQ x0 m0 tx tm H.size I J hI y40 hLy40 hKy40 p1 ⟨by omega, by omega⟩ p2 ⟨by omega, by omega⟩ p3 ⟨by omega, by omega⟩) (cwV 3 hts (gV pq739 pq740 pq741 pq79 pq742) rfl rfl rfl (by decide +kernel) ⟨(by rw [hR]; exact (Nat.le_of_ble_eq_true rfl)), (by rw [hR]; exact (Nat.le_of_ble_eq_true rfl))⟩) (sP_V hP hD hK hN hLy40 hKy40 rfl rfl) rfl rfl hl.1 rfl (lv_room (Nat.le_of_ble_eq_true rfl)) dX6_reach_46 ⟨(by rw [hR]; exact (Nat.le_of_ble_eq_true rfl)), (by rw [hR]; exact (Nat.le_of_ble_eq_true rfl))⟩) hS hAL hA (fun Iz46 Jz46 H locs hz46 hIz46 hP hS => ?_)
          obtain ⟨hIz46, frc46, zp46, jz46, djc46⟩ := hIz46
          obtain rfl : J = Jz46 := djc46.symm
          have dn_Iz46 : (∀ b, K b = 7 ∨ K b = 18 ∨ K b = 19 ∨ K b = 20 ∨ K b = 24 → Iz46 b = I b) := fun b hc => (frc46 b (fun z => by have q := hKy40; rw [← z] at q; omega)).trans (dn_I b hc)
          have fr_Iz46 : ∀ b, ¬ (K b = 2 ∨ K b = 5 ∨ K b = 11 ∨ (K b = 3 ∧ G b / 100 = 4)) → Iz46 b = I b := fun b q => (frc46 b (fun z => q (by rw [z]; have := hKy40; omega))).trans (fr_I b q)
          refine lv_iload hx hb dX6_reach_49 (lv_at hl 4 rfl) ?_
          refine lv_if_ne (tgt := 62) hx hb dX6_reach_51 (by decide) (fun c51 => ?_) (fun c51 => ?_)
          · have t51 := tq_ne (k := p4.toInt) (q := (0)) c51 rfl (by decide +kernel)
            refine lv_aload_n hx hb dX6_reach_62 rfl (lv_at hl 0 rfl) ?_
            refine p_get (v := .ref y40) hx hb hts inX6 hown hK hP hLp0 hKp0 rfl rfl 5 (by decide) (hts _ pq354) (congrArg (fun q => some (va_rf q)) ey40) dX6_reach_63 ?_
            refine p_get hx hb hts inX5 hown hK hP hLy40 hKy40 rfl rfl 3 (by decide) (hts _ pq279) rfl dX6_reach_66 ?_
            refine lv_topi (fun z66 ez66 => ?_)
            refine lv_iconst (v := (-1)) hx hb dX6_reach_69 (by decide +kernel) ?_
            refine lv_icmp_ne (tgt := 78) hx hb dX6_reach_70 (by decide) (fun c70 => ?_) (fun c70 => ?_)
            · have t70 := tq_ne (k := z66.toInt) (q := (-1)) c70 rfl (by decide +kernel)
              refine lv_aload_n hx hb dX6_reach_78 rfl (lv_at hl 0 rfl) ?_
              refine p_get (v := .ref y40) hx hb hts inX6 hown hK hP hLp0 hKp0 rfl rfl 5 (by decide) (hts _ pq354) (congrArg (fun q => some (va_rf q)) ey40) dX6_reach_79 ?_
              refine p_get hx hb hts inX5 hown hK hP hLy40 hKy40 rfl rfl 3 (by decide) (hts _ pq279) rfl dX6_reach_82 ?_
              refine lv_topi (fun z82 ez82 => ?_)
              obtain rfl : z66 = z82 := ez66.trans ez82.symm
              subst hR; subst hQz
              exact W.iret (v := z66) hx hb hr (fun t ht hW => ⟨⟨z66, (), rfl, trivial, ⟨Iz46, J, ⟨hIz46, fr_Iz46, dn_Iz46, (fun σ A => cxA_scr hQ hLp0 hKp0 fr_Iz46 (fun _ _ _ => rfl) A), dj_J⟩, by rw [ht]; exact hP⟩⟩, hS.F ht⟩) hS.2.2 dX6_reach_85
            · have t70 := tq_eq (k := z66.toInt) (q := (-1)) c70 rfl (by decide +kernel)
              refine lv_bipush (v := (-2)) hx hb dX6_reach_73 (by decide +kernel) ?_
              refine lv_goto (tgt := 85) hx hb dX6_reach_75 (by decide) ?_
              subst hR; subst hQz
              exact W.iret (v := (-2)) hx hb hr (fun t ht hW => ⟨⟨(-2), (), rfl, trivial, ⟨Iz46, J, ⟨hIz46, fr_Iz46, dn_Iz46, (fun σ A => cxA_scr hQ hLp0 hKp0 fr_Iz46 (fun _ _ _ => rfl) A), dj_J⟩, by rw [ht]; exact hP⟩⟩, hS.F ht⟩) hS.2.2 dX6_reach_85
          · have t51 := tq_eq (k := p4.toInt) (q := (0)) c51 rfl (by decide +kernel)
            refine lv_aload_n hx hb dX6_reach_54 rfl (lv_at hl 0 rfl) ?_
            refine p_get (v := .ref y40) hx hb hts inX6 hown hK hP hLp0 hKp0 rfl rfl 5 (by decide) (hts _ pq354) (congrArg (fun q => some (va_rf q)) ey40) dX6_reach_55 ?_
            refine p_get hx hb hts inX5 hown hK hP hLy40 hKy40 rfl rfl 2 (by decide) (hts _ pq277) rfl dX6_reach_58 ?_
            refine lv_topi (fun z58 ez58 => ?_)
            have bz58 := oI_5_2 (Iv_at hIz46 hLy40 hKy40)
            rw [← ez58] at bz58
            subst hR; subst hQz
            exact W.iret (v := z58) hx hb hr (fun t ht hW => ⟨⟨z58, (), rfl, trivial, ⟨Iz46, J, ⟨hIz46, fr_Iz46, dn_Iz46, (fun σ A => cxA_scr hQ hLp0 hKp0 fr_Iz46 (fun _ _ _ => rfl) A), dj_J⟩, by rw [ht]; exact hP⟩⟩, hS.F ht⟩) hS.2.2 dX6_reach_61
        · have t34 := tq_eq (k := z31.toInt) (q := (0)) c34 rfl (by decide +kernel)
          refine lv_iconst (v := (-1)) hx hb dX6_reach_37 (by decide +kernel) ?_
          subst hR; subst hQz
          exact W.iret (v := (-1)) hx hb hr (fun t ht hW => ⟨⟨(-1), (), rfl, trivial, ⟨I, J, ⟨hI, fr_I, dn_I, (fun σ A => cxA_scr hQ hLp0 hKp0 fr_I (fun _ _ _ => rfl) A), dj_J⟩, by rw [ht]; exact hP⟩⟩, hS.F ht⟩) hS.2.2 dX6_reach_38

set_option maxHeartbeats 4000000 in
set_option maxRecDepth 100000 in
theorem s_X6_gap (l : Launch) (dC : Nat → ClassId) (dI : Nat → Nat → Nat) (cs : Nat → ClassId) (L : List Nat) (K G : Nat → Nat) (Q : Nat → Nat → Option Nat) (hQ : Sv L K G Q) (x0 m0 : Nat) (tx : GT) (tm : GT × Int) (sz : Nat) (I : Nat → Nat → Int32) (J : Nat → Nat → Int64) (hI : Iv L K x0 m0 tx tm I) (p0 : Nat) (hLp0 : p0 ∈ L) (hKp0 : K p0 = 6) (p1 : Int32) (p2 : Int32) (p3 : Int32) : Met l yX6_gap (.code yX6_gap cX6_gap 4 (some .int) :: pw) ({ frames := 4, cells := 0, slots := 0, locals := 108 }) (sP (dC, dI) cs [.ref p0, .int p1, .int p2, .int p3] sz L K I J Q) (va_Qi (fun (r : Int32) (_ : Unit) => (∀ σ : Sx, cxA Q I J p0 σ → gaR σ p1 p2 p3 r)) (fun _ _ => True) (fun _ => False)) 0 0 (fun _ => False) := by
  refine Met.ofW (cc := cX6_gap) (maxL := 4) (ret := (some .int)) (by decide +kernel) rfl ?_
  intro p e s m args below meth c s₁ B hml hv
  obtain ⟨rfl, hsz, hP, hK, hD0, hN⟩ := hv
  have hx := B.exec
  have hb := B.bytes
  have hr := B.returns
  have hts := fun w (h : w ∈ pw) => atoms_spec (ws := Cond.code yX6_gap cX6_gap 4 (some .int) :: pw) B.pre w (List.mem_cons_of_mem _ h)
  have hown : s.vm.findClass RX6 = some m.cls := findClass_of_methodNamed B.named
  have hlocks := B.notSynchronized
  subst hsz
  have hBB : 999 ≤ tm.2 ∧ tm.2 ≤ 6000000 := hI.2.2.2.2.1
  have hD := hD0
  obtain ⟨H, hHe⟩ : ∃ H : Heap, H = s.heap := ⟨_, rfl⟩
  have hS : va_S (fun _ => False) s.heap H [] := by rw [hHe]; exact va_S.rf
  rw [← hHe] at hP
  have hl := lv_entry ([.ref p0, .int p1, .int p2, .int p3]) (n := 4) (Nat.le_of_ble_eq_true rfl)
  rw [lg_entry_eq]
  generalize (lg_sl ([.ref p0, .int p1, .int p2, .int p3]) ++ List.replicate (4 - (lg_sl ([.ref p0, .int p1, .int p2, .int p3])).length) Slot.unset).toArray = ls at hl ⊢
  have hl : lv_has ls 4 [(0, .ref p0), (1, .int p1), (2, .int p2), (3, .int p3)] := hl
  rw [← hHe]
  refine namedW (fun R Qz hR hQz => ?_)
  refine lv_aload_n hx hb dX6_gap_0 rfl (lv_at hl 0 rfl) ?_
  refine lv_iload_n hx hb dX6_gap_1 rfl (lv_at hl 1 rfl) ?_
  refine lv_iload_n hx hb dX6_gap_2 rfl (lv_at hl 2 rfl) ?_
  refine ro_i (va_runV (As := [.int p1, .int p2]) (rest := []) ⟨hx, hb, hml, hown, hts⟩ (s_X6_areTwoBodies l dC dI cs L K G Q hQ x0 m0 tx tm H.size I J hI p0 hLp0 hKp0 p1 p2) (cwV 2 hts (gV pq970 pq972 pq7 pq74 pq973) rfl rfl rfl (by decide +kernel) ⟨(by rw [hR]; exact (Nat.le_of_ble_eq_true rfl)), (by rw [hR]; exact (Nat.le_of_ble_eq_true rfl))⟩) (sP_V hP hD hK hN hLp0 hKp0 rfl rfl) rfl rfl hl.1 rfl (lv_room (Nat.le_of_ble_eq_true rfl)) dX6_gap_3 ⟨(by rw [hR]; exact (Nat.le_of_ble_eq_true rfl)), (by rw [hR]; exact (Nat.le_of_ble_eq_true rfl))⟩) hS hP (fun z3 H locs hz3 hP hS => ?_)
  obtain ⟨bz3, imz3, xpz3⟩ := hz3
  refine lv_if_ne (tgt := 11) hx hb dX6_gap_6 (by decide) (fun c6 => ?_) (fun c6 => ?_)
  · have t6 := tq_ne (k := z3.toInt) (q := (0)) c6 rfl (by decide +kernel)
    have i6 := imz3 t6
    refine lv_iload_n hx hb dX6_gap_11 rfl (lv_at hl 3 rfl) ?_
    refine lv_topi (fun z12 ez12 => ?_)
    rcases sw4 z12 with rfl | rfl | rfl | rfl | hsw12
    · refine lv_tableIn (off := 32) (tgt := 44) hx hb dX6_gap_12 (by decide +kernel) (by decide +kernel) (by decide +kernel) (by decide) ?_
      have sv12 : p3.toInt = 0 := by rw [← ez12]; decide +kernel
      refine lv_aload_n hx hb dX6_gap_44 rfl (lv_at hl 0 rfl) ?_
      obtain ⟨y45, ey45, hLy45, hKy45, hGy45⟩ := oQ_6_5 (Sv_at hQ hLp0 hKp0)
      refine p_get (v := .ref y45) hx hb hts inX6 hown hK hP hLp0 hKp0 rfl rfl 5 (by decide) (hts _ pq354) (congrArg (fun q => some (va_rf q)) ey45) dX6_gap_45 ?_
      refine lv_iload_n hx hb dX6_gap_48 rfl (lv_at hl 1 rfl) ?_
      refine lv_iload_n hx hb dX6_gap_49 rfl (lv_at hl 2 rfl) ?_
      refine lv_iconst (v := 1) hx hb dX6_gap_50 (by decide +kernel) ?_
      refine lv_iconst (v := 0) hx hb dX6_gap_51 (by decide +kernel) ?_
      refine lv_sipush (v := 500) hx hb dX6_gap_52 (by decide +kernel) ?_
      refine ro_i (va_runV (As := [.int p1, .int p2, .int 1, .int 0, .int 500]) (rest := []) ⟨hx, hb, hml, hown, hts⟩ (s_X5_firstTouchOfTwo l dC dI cs L K G Q hQ x0 m0 tx tm H.size I J hI y45 hLy45 hKy45 p1 ⟨by omega, by omega⟩ p2 ⟨by omega, by omega⟩ 1 0 500 ⟨by decide +kernel, by decide +kernel⟩) (cwV 5 hts (gV pq1028 pq1029 pq1030 pq79 pq1031) rfl rfl rfl (by decide +kernel) ⟨(by rw [hR]; exact (Nat.le_of_ble_eq_true rfl)), (by rw [hR]; exact (Nat.le_of_ble_eq_true rfl))⟩) (sP_V hP hD hK hN hLy45 hKy45 rfl rfl) rfl rfl hl.1 rfl (lv_room (Nat.le_of_ble_eq_true rfl)) dX6_gap_55 ⟨(by rw [hR]; exact (Nat.le_of_ble_eq_true rfl)), (by rw [hR]; exact (Nat.le_of_ble_eq_true rfl))⟩) hS hP (fun z55 H locs hz55 hP hS => ?_)
      have cst55_0 : (0 : Int32).toInt = 0 := by decide +kernel
      have cst55_1 : (1 : Int32).toInt = 1 := by decide +kernel
      have cst55_500 : (500 : Int32).toInt = 500 := by decide +kernel
      have xpz55 := hz55
      try rw [cst55_0] at xpz55
      try rw [cst55_1] at xpz55
      try rw [cst55_500] at xpz55
      subst hR; subst hQz
      exact W.iret (v := z55) hx hb hr (fun t ht hW => ⟨⟨z55, (), rfl, (fun σ h => by have e := cx_1 h; have T := cxA_tg h; rw [show se Q p0 = y45 from gd_of ey45] at T; have t := xpz3.mp t6; rw [e] at t; have w := xpz55 σ.1 T.1 T.2.1 T.2.2 (show p1.toInt.toNat < _ by omega) (show p2.toInt.toNat < _ by omega) (by decide +kernel); exact ⟨fun _ => by rw [sv12, show gx 0 = 1 from by decide, show gy 0 = 0 from by decide]; exact w, fun q => absurd ⟨t, by omega, by omega⟩ q⟩), trivial⟩, hS.F ht⟩) hS.2.2 dX6_gap_58
    · refine lv_tableIn (off := 47) (tgt := 59) hx hb dX6_gap_12 (by decide +kernel) (by decide +kernel) (by decide +kernel) (by decide) ?_
      have sv12 : p3.toInt = 1 := by rw [← ez12]; decide +kernel
      refine lv_aload_n hx hb dX6_gap_59 rfl (lv_at hl 0 rfl) ?_
      obtain ⟨y60, ey60, hLy60, hKy60, hGy60⟩ := oQ_6_5 (Sv_at hQ hLp0 hKp0)
      refine p_get (v := .ref y60) hx hb hts inX6 hown hK hP hLp0 hKp0 rfl rfl 5 (by decide) (hts _ pq354) (congrArg (fun q => some (va_rf q)) ey60) dX6_gap_60 ?_
      refine lv_iload_n hx hb dX6_gap_63 rfl (lv_at hl 1 rfl) ?_
      refine lv_iload_n hx hb dX6_gap_64 rfl (lv_at hl 2 rfl) ?_
      refine lv_iconst (v := (-1)) hx hb dX6_gap_65 (by decide +kernel) ?_
      refine lv_iconst (v := 0) hx hb dX6_gap_66 (by decide +kernel) ?_
      refine lv_sipush (v := 500) hx hb dX6_gap_67 (by decide +kernel) ?_
      refine ro_i (va_runV (As := [.int p1, .int p2, .int (-1), .int 0, .int 500]) (rest := []) ⟨hx, hb, hml, hown, hts⟩ (s_X5_firstTouchOfTwo l dC dI cs L K G Q hQ x0 m0 tx tm H.size I J hI y60 hLy60 hKy60 p1 ⟨by omega, by omega⟩ p2 ⟨by omega, by omega⟩ (-1) 0 500 ⟨by decide +kernel, by decide +kernel⟩) (cwV 5 hts (gV pq1028 pq1029 pq1030 pq79 pq1031) rfl rfl rfl (by decide +kernel) ⟨(by rw [hR]; exact (Nat.le_of_ble_eq_true rfl)), (by rw [hR]; exact (Nat.le_of_ble_eq_true rfl))⟩) (sP_V hP hD hK hN hLy60 hKy60 rfl rfl) rfl rfl hl.1 rfl (lv_room (Nat.le_of_ble_eq_true rfl)) dX6_gap_70 ⟨(by rw [hR]; exact (Nat.le_of_ble_eq_true rfl)), (by rw [hR]; exact (Nat.le_of_ble_eq_true rfl))⟩) hS hP (fun z70 H locs hz70 hP hS => ?_)
      have cst70_m1 : ((-1) : Int32).toInt = (-1) := by decide +kernel
      have cst70_0 : (0 : Int32).toInt = 0 := by decide +kernel
      have cst70_500 : (500 : Int32).toInt = 500 := by decide +kernel
      have xpz70 := hz70
      try rw [cst70_m1] at xpz70
      try rw [cst70_0] at xpz70
      try rw [cst70_500] at xpz70
      subst hR; subst hQz
      exact W.iret (v := z70) hx hb hr (fun t ht hW => ⟨⟨z70, (), rfl, (fun σ h => by have e := cx_1 h; have T := cxA_tg h; rw [show se Q p0 = y60 from gd_of ey60] at T; have t := xpz3.mp t6; rw [e] at t; have w := xpz70 σ.1 T.1 T.2.1 T.2.2 (show p1.toInt.toNat < _ by omega) (show p2.toInt.toNat < _ by omega) (by decide +kernel); exact ⟨fun _ => by rw [sv12, show gx 1 = -1 from by decide, show gy 1 = 0 from by decide]; exact w, fun q => absurd ⟨t, by omega, by omega⟩ q⟩), trivial⟩, hS.F ht⟩) hS.2.2 dX6_gap_73
    · refine lv_tableIn (off := 62) (tgt := 74) hx hb dX6_gap_12 (by decide +kernel) (by decide +kernel) (by decide +kernel) (by decide) ?_
      have sv12 : p3.toInt = 2 := by rw [← ez12]; decide +kernel
      refine lv_aload_n hx hb dX6_gap_74 rfl (lv_at hl 0 rfl) ?_
      obtain ⟨y75, ey75, hLy75, hKy75, hGy75⟩ := oQ_6_5 (Sv_at hQ hLp0 hKp0)
      refine p_get (v := .ref y75) hx hb hts inX6 hown hK hP hLp0 hKp0 rfl rfl 5 (by decide) (hts _ pq354) (congrArg (fun q => some (va_rf q)) ey75) dX6_gap_75 ?_
      refine lv_iload_n hx hb dX6_gap_78 rfl (lv_at hl 1 rfl) ?_
      refine lv_iload_n hx hb dX6_gap_79 rfl (lv_at hl 2 rfl) ?_
      refine lv_iconst (v := 0) hx hb dX6_gap_80 (by decide +kernel) ?_
      refine lv_iconst (v := 1) hx hb dX6_gap_81 (by decide +kernel) ?_
      refine lv_sipush (v := 500) hx hb dX6_gap_82 (by decide +kernel) ?_
      refine ro_i (va_runV (As := [.int p1, .int p2, .int 0, .int 1, .int 500]) (rest := []) ⟨hx, hb, hml, hown, hts⟩ (s_X5_firstTouchOfTwo l dC dI cs L K G Q hQ x0 m0 tx tm H.size I J hI y75 hLy75 hKy75 p1 ⟨by omega, by omega⟩ p2 ⟨by omega, by omega⟩ 0 1 500 ⟨by decide +kernel, by decide +kernel⟩) (cwV 5 hts (gV pq1028 pq1029 pq1030 pq79 pq1031) rfl rfl rfl (by decide +kernel) ⟨(by rw [hR]; exact (Nat.le_of_ble_eq_true rfl)), (by rw [hR]; exact (Nat.le_of_ble_eq_true rfl))⟩) (sP_V hP hD hK hN hLy75 hKy75 rfl rfl) rfl rfl hl.1 rfl (lv_room (Nat.le_of_ble_eq_true rfl)) dX6_gap_85 ⟨(by rw [hR]; exact (Nat.le_of_ble_eq_true rfl)), (by rw [hR]; exact (Nat.le_of_ble_eq_true rfl))⟩) hS hP (fun z85 H locs hz85 hP hS => ?_)
      have cst85_0 : (0 : Int32).toInt = 0 := by decide +kernel
      have cst85_1 : (1 : Int32).toInt = 1 := by decide +kernel
      have cst85_500 : (500 : Int32).toInt = 500 := by decide +kernel
      have xpz85 := hz85
      try rw [cst85_0] at xpz85
      try rw [cst85_1] at xpz85
      try rw [cst85_500] at xpz85
      subst hR; subst hQz
      exact W.iret (v := z85) hx hb hr (fun t ht hW => ⟨⟨z85, (), rfl, (fun σ h => by have e := cx_1 h; have T := cxA_tg h; rw [show se Q p0 = y75 from gd_of ey75] at T; have t := xpz3.mp t6; rw [e] at t; have w := xpz85 σ.1 T.1 T.2.1 T.2.2 (show p1.toInt.toNat < _ by omega) (show p2.toInt.toNat < _ by omega) (by decide +kernel); exact ⟨fun _ => by rw [sv12, show gx 2 = 0 from by decide, show gy 2 = 1 from by decide]; exact w, fun q => absurd ⟨t, by omega, by omega⟩ q⟩), trivial⟩, hS.F ht⟩) hS.2.2 dX6_gap_88
    · refine lv_tableIn (off := 77) (tgt := 89) hx hb dX6_gap_12 (by decide +kernel) (by decide +kernel) (by decide +kernel) (by decide) ?_
      have sv12 : p3.toInt = 3 := by rw [← ez12]; decide +kernel
      refine lv_aload_n hx hb dX6_gap_89 rfl (lv_at hl 0 rfl) ?_
      obtain ⟨y90, ey90, hLy90, hKy90, hGy90⟩ := oQ_6_5 (Sv_at hQ hLp0 hKp0)
      refine p_get (v := .ref y90) hx hb hts inX6 hown hK hP hLp0 hKp0 rfl rfl 5 (by decide) (hts _ pq354) (congrArg (fun q => some (va_rf q)) ey90) dX6_gap_90 ?_
      refine lv_iload_n hx hb dX6_gap_93 rfl (lv_at hl 1 rfl) ?_
      refine lv_iload_n hx hb dX6_gap_94 rfl (lv_at hl 2 rfl) ?_
      refine lv_iconst (v := 0) hx hb dX6_gap_95 (by decide +kernel) ?_
      refine lv_iconst (v := (-1)) hx hb dX6_gap_96 (by decide +kernel) ?_
      refine lv_sipush (v := 500) hx hb dX6_gap_97 (by decide +kernel) ?_
      refine ro_i (va_runV (As := [.int p1, .int p2, .int 0, .int (-1), .int 500]) (rest := []) ⟨hx, hb, hml, hown, hts⟩ (s_X5_firstTouchOfTwo l dC dI cs L K G Q hQ x0 m0 tx tm H.size I J hI y90 hLy90 hKy90 p1 ⟨by omega, by omega⟩ p2 ⟨by omega, by omega⟩ 0 (-1) 500 ⟨by decide +kernel, by decide +kernel⟩) (cwV 5 hts (gV pq1028 pq1029 pq1030 pq79 pq1031) rfl rfl rfl (by decide +kernel) ⟨(by rw [hR]; exact (Nat.le_of_ble_eq_true rfl)), (by rw [hR]; exact (Nat.le_of_ble_eq_true rfl))⟩) (sP_V hP hD hK hN hLy90 hKy90 rfl rfl) rfl rfl hl.1 rfl (lv_room (Nat.le_of_ble_eq_true rfl)) dX6_gap_100 ⟨(by rw [hR]; exact (Nat.le_of_ble_eq_true rfl)), (by rw [hR]; exact (Nat.le_of_ble_eq_true rfl))⟩) hS hP (fun z100 H locs hz100 hP hS => ?_)
      have cst100_m1 : ((-1) : Int32).toInt = (-1) := by decide +kernel
      have cst100_0 : (0 : Int32).toInt = 0 := by decide +kernel
      have cst100_500 : (500 : Int32).toInt = 500 := by decide +kernel
      have xpz100 := hz100
      try rw [cst100_m1] at xpz100
      try rw [cst100_0] at xpz100
      try rw [cst100_500] at xpz100
      subst hR; subst hQz
      exact W.iret (v := z100) hx hb hr (fun t ht hW => ⟨⟨z100, (), rfl, (fun σ h => by have e := cx_1 h; have T := cxA_tg h; rw [show se Q p0 = y90 from gd_of ey90] at T; have t := xpz3.mp t6; rw [e] at t; have w := xpz100 σ.1 T.1 T.2.1 T.2.2 (show p1.toInt.toNat < _ by omega) (show p2.toInt.toNat < _ by omega) (by decide +kernel); exact ⟨fun _ => by rw [sv12, show gx 3 = 0 from by decide, show gy 3 = -1 from by decide]; exact w, fun q => absurd ⟨t, by omega, by omega⟩ q⟩), trivial⟩, hS.F ht⟩) hS.2.2 dX6_gap_103
    · refine lv_tableOut (tgt := 104) hx hb dX6_gap_12 hsw12 (by decide) ?_
      refine lv_iconst (v := (-1)) hx hb dX6_gap_104 (by decide +kernel) ?_
      subst hR; subst hQz
      exact W.iret (v := (-1)) hx hb hr (fun t ht hW => ⟨⟨(-1), (), rfl, (fun σ h => by have e := cx_1 h; exact ⟨fun w => absurd w (fun w => by first | (have t := w.1; unfold twV at t; rw [← e] at t; exact (xpz3.mpr t) t6) | (have a := w.2; have b := congrArg Int32.toInt ez12; omega)), fun _ => by decide +kernel⟩), trivial⟩, hS.F ht⟩) hS.2.2 dX6_gap_105
  · have t6 := tq_eq (k := z3.toInt) (q := (0)) c6 rfl (by decide +kernel)
    refine lv_iconst (v := (-1)) hx hb dX6_gap_9 (by decide +kernel) ?_
    subst hR; subst hQz
    exact W.iret (v := (-1)) hx hb hr (fun t ht hW => ⟨⟨(-1), (), rfl, (fun σ h => by have e := cx_1 h; exact ⟨fun w => absurd w (fun w => by first | (have t := w.1; unfold twV at t; rw [← e] at t; exact (xpz3.mpr t) t6) | (have a := w.2; have b := congrArg Int32.toInt ez12; omega)), fun _ => by decide +kernel⟩), trivial⟩, hS.F ht⟩) hS.2.2 dX6_gap_10

set_option maxHeartbeats 4000000 in
set_option maxRecDepth 100000 in
theorem s_X6_apart (l : Launch) (dC : Nat → ClassId) (dI : Nat → Nat → Nat) (cs : Nat → ClassId) (L : List Nat) (K G : Nat → Nat) (Q : Nat → Nat → Option Nat) (hQ : Sv L K G Q) (x0 m0 : Nat) (tx : GT) (tm : GT × Int) (sz : Nat) (I : Nat → Nat → Int32) (J : Nat → Nat → Int64) (hI : Iv L K x0 m0 tx tm I) (p0 : Nat) (hLp0 : p0 ∈ L) (hKp0 : K p0 = 6) (p1 : Int32) (p2 : Int32) (p3 : Int32) : Met l yX6_apart (.code yX6_apart cX6_apart 4 (some .int) :: pw) ({ frames := 4, cells := 0, slots := 0, locals := 108 }) (sP (dC, dI) cs [.ref p0, .int p1, .int p2, .int p3] sz L K I J Q) (va_Qi (fun (r : Int32) (_ : Unit) => (∀ σ : Sx, cxA Q I J p0 σ → apR σ p1 p2 p3 r)) (fun _ t => sB (dC, dI) cs L K Q (fun I1 J1 => Iv L K x0 m0 tx tm I1 ∧ (∀ b, ¬ (K b = 2 ∨ K b = 5 ∨ K b = 11 ∨ (K b = 3 ∧ G b / 100 = 4)) → I1 b = I b) ∧ (∀ b, K b = 7 ∨ K b = 18 ∨ K b = 19 ∨ K b = 20 ∨ K b = 24 → I1 b = I b) ∧ (∀ σ : Sx, cxA Q I J p0 σ → cxA Q I1 J1 p0 σ) ∧ J1 = J) t) (fun q => q ∈ L ∨ sz ≤ q)) 0 0 (fun q => q ∈ L ∨ sz ≤ q) := by
  refine Met.ofW (cc := cX6_apart) (maxL := 4) (ret := (some .int)) (by decide +kernel) rfl ?_
  intro p e s m args below meth c s₁ B hml hv
  obtain ⟨rfl, hsz, hP, hK, hD0, hN⟩ := hv
  have hx := B.exec
  have hb := B.bytes
  have hr := B.returns
  have hts := fun w (h : w ∈ pw) => atoms_spec (ws := Cond.code yX6_apart cX6_apart 4 (some .int) :: pw) B.pre w (List.mem_cons_of_mem _ h)
  have hown : s.vm.findClass RX6 = some m.cls := findClass_of_methodNamed B.named
  have hlocks := B.notSynchronized
  subst hsz
  have hBB : 999 ≤ tm.2 ∧ tm.2 ≤ 6000000 := hI.2.2.2.2.1
  have dn_I : (∀ b, K b = 7 ∨ K b = 18 ∨ K b = 19 ∨ K b = 20 ∨ K b = 24 → I b = I b) := fun _ _ => rfl
  have dj_J : J = J := rfl
  have fr_I : ∀ b, ¬ (K b = 2 ∨ K b = 5 ∨ K b = 11 ∨ (K b = 3 ∧ G b / 100 = 4)) → I b = I b := fun _ _ => rfl
  obtain ⟨A, hAe⟩ : ∃ A : Nat → Prop, A = (fun q => q ∈ L ∨ s.heap.size ≤ q) := ⟨_, rfl⟩
  rw [← hAe]
  have hAL : ∀ q, q ∈ L → A q := fun q h => by rw [hAe]; exact Or.inl h
  have hA : ∀ q, s.heap.size ≤ q → A q := fun q h => by rw [hAe]; exact Or.inr h
  have hD : ∀ F, va_D A (va_pl L F) := fun F => (hD0 F).weaken (fun k q hk _ => hAL _ (pl_mem hk))
  obtain ⟨H, hHe⟩ : ∃ H : Heap, H = s.heap := ⟨_, rfl⟩
  have hS : va_S A s.heap H [] := by rw [hHe]; exact va_S.rf
  rw [← hHe] at hP
  have hl := lv_entry ([.ref p0, .int p1, .int p2, .int p3]) (n := 4) (Nat.le_of_ble_eq_true rfl)
  rw [lg_entry_eq]
  generalize (lg_sl ([.ref p0, .int p1, .int p2, .int p3]) ++ List.replicate (4 - (lg_sl ([.ref p0, .int p1, .int p2, .int p3])).length) Slot.unset).toArray = ls at hl ⊢
  have hl : lv_has ls 4 [(0, .ref p0), (1, .int p1), (2, .int p2), (3, .int p3)] := hl
  rw [← hHe]
  refine namedW (fun R Qz hR hQz => ?_)
  refine lv_aload_n hx hb dX6_apart_0 rfl (lv_at hl 0 rfl) ?_
  refine lv_iload_n hx hb dX6_apart_1 rfl (lv_at hl 1 rfl) ?_
  refine lv_iload_n hx hb dX6_apart_2 rfl (lv_at hl 2 rfl) ?_
  refine ro_i (va_runV (As := [.int p1, .int p2]) (rest := []) ⟨hx, hb, hml, hown, hts⟩ (s_X6_areTwoBodies l dC dI cs L K G Q hQ x0 m0 tx tm H.size I J hI p0 hLp0 hKp0 p1 p2) (cwV 2 hts (gV pq970 pq972 pq7 pq74 pq973) rfl rfl rfl (by decide +kernel) ⟨(by rw [hR]; exact (Nat.le_of_ble_eq_true rfl)), (by rw [hR]; exact (Nat.le_of_ble_eq_true rfl))⟩) (sP_V hP hD hK hN hLp0 hKp0 rfl rfl) rfl rfl hl.1 rfl (lv_room (Nat.le_of_ble_eq_true rfl)) dX6_apart_3 ⟨(by rw [hR]; exact (Nat.le_of_ble_eq_true rfl)), (by rw [hR]; exact (Nat.le_of_ble_eq_true rfl))⟩) hS hP (fun z3 H locs hz3 hP hS => ?_)
  obtain ⟨bz3, imz3, xpz3⟩ := hz3
  refine lv_if_eq (tgt := 17) hx hb dX6_apart_6 (by decide) (fun c6 => ?_) (fun c6 => ?_)
  · have t6 := tq_eq (k := z3.toInt) (q := (0)) c6 rfl (by decide +kernel)
    refine lv_sipush (v := (-2000)) hx hb dX6_apart_17 (by decide +kernel) ?_
    subst hR; subst hQz
    exact W.iret (v := (-2000)) hx hb hr (fun t ht hW => ⟨⟨(-2000), (), rfl, (fun σ h => by have e := cx_1 h; exact ⟨fun w => absurd w (fun w => by first | (have t := w.1; unfold twV at t; rw [← e] at t; exact (xpz3.mpr t) t6) | exact xpz11 t14 w.2), fun _ => by decide +kernel⟩), ⟨I, J, ⟨hI, fr_I, dn_I, (fun σ A => cxA_scr hQ hLp0 hKp0 fr_I (fun _ _ _ => rfl) A), dj_J⟩, by rw [ht]; exact hP⟩⟩, hS.F ht⟩) hS.2.2 dX6_apart_20
  · have t6 := tq_ne (k := z3.toInt) (q := (0)) c6 rfl (by decide +kernel)
    have i6 := imz3 t6
    refine lv_iload_n hx hb dX6_apart_9 rfl (lv_at hl 3 rfl) ?_
    refine lv_iconst (v := 2) hx hb dX6_apart_10 (by decide +kernel) ?_
    refine ro_i (va_runS (As := [.int p3, .int 2]) (rest := []) ⟨hx, hb, hml, hown, hts⟩ (s_X6_isFrom0To l dC dI cs L K G Q hQ x0 m0 tx tm H.size I J hI p3 2) (va_cwS 2 hts (gS pq651 pq652 pq74 pq653) rfl rfl rfl (by decide +kernel) ⟨(by rw [hR]; exact (Nat.le_of_ble_eq_true rfl)), (by rw [hR]; exact (Nat.le_of_ble_eq_true rfl))⟩) (sP_S hP hD hK hN) rfl rfl hl.1 rfl (lv_room (Nat.le_of_ble_eq_true rfl)) dX6_apart_11 ⟨(by rw [hR]; exact (Nat.le_of_ble_eq_true rfl)), (by rw [hR]; exact (Nat.le_of_ble_eq_true rfl))⟩) hS hP (fun z11 H locs hz11 hP hS => ?_)
    have cst11_2 : (2 : Int32).toInt = 2 := by decide +kernel
    obtain ⟨bz11, imz11, xpz11⟩ := hz11
    try rw [cst11_2] at xpz11
    refine lv_if_ne (tgt := 21) hx hb dX6_apart_14 (by decide) (fun c14 => ?_) (fun c14 => ?_)
    · have t14 := tq_ne (k := z11.toInt) (q := (0)) c14 rfl (by decide +kernel)
      have i14 := imz11 t14
      refine lv_aload_n hx hb dX6_apart_21 rfl (lv_at hl 0 rfl) ?_
      obtain ⟨y22, ey22, hLy22, hKy22, hGy22⟩ := oQ_6_5 (Sv_at hQ hLp0 hKp0)
      refine p_get (v := .ref y22) hx hb hts inX6 hown hK hP hLp0 hKp0 rfl rfl 5 (by decide) (hts _ pq354) (congrArg (fun q => some (va_rf q)) ey22) dX6_apart_22 ?_
      refine lv_iload_n hx hb dX6_apart_25 rfl (lv_at hl 1 rfl) ?_
      refine lv_iload_n hx hb dX6_apart_26 rfl (lv_at hl 2 rfl) ?_
      refine sw_v (Z := (fun I1 J1 => Iv L K x0 m0 tx tm I1 ∧ (∀ b, ¬ (b = y22) → I1 b = I b) ∧ (∀ c : Fx, okF c → cxF Q I J (nf Q y22) c → cxS Q I J y22 c → p1.toInt.toNat < (c.1 1).toInt.toNat → p2.toInt.toNat < (c.1 1).toInt.toNat → ∃ d y t : Int, apF (apP c p1.toInt.toNat p2.toInt.toNat) d y t ∧ (I1 y22 6).toInt = d ∧ (I1 y22 7).toInt = apS d y t ∧ (I1 y22 8).toInt = y) ∧ J1 = J)) (va_runV (As := [.int p1, .int p2]) (rest := []) ⟨hx, hb, hml, hown, hts⟩ (s_X5_findApart l dC dI cs L K G Q hQ x0 m0 tx tm H.size I J hI y22 hLy22 hKy22 p1 ⟨by omega, by omega⟩ p2 ⟨by omega, by omega⟩) (cwV 2 hts (gV pq1044 pq1045 pq1046 pq79 pq1047) rfl rfl rfl (by decide +kernel) ⟨(by rw [hR]; exact (Nat.le_of_ble_eq_true rfl)), (by rw [hR]; exact (Nat.le_of_ble_eq_true rfl))⟩) (sP_V hP hD hK hN hLy22 hKy22 rfl rfl) rfl rfl hl.1 rfl (lv_room (Nat.le_of_ble_eq_true rfl)) dX6_apart_27 ⟨(by rw [hR]; exact (Nat.le_of_ble_eq_true rfl)), (by rw [hR]; exact (Nat.le_of_ble_eq_true rfl))⟩) hS hAL hA (fun Iz27 Jz27 H locs hz27 hIz27 hP hS => ?_)
      obtain ⟨hIz27, frc27, jz27, djc27⟩ := hIz27
      obtain rfl : J = Jz27 := djc27.symm
      have dn_Iz27 : (∀ b, K b = 7 ∨ K b = 18 ∨ K b = 19 ∨ K b = 20 ∨ K b = 24 → Iz27 b = I b) := fun b hc => (frc27 b (fun z => by have q := hKy22; rw [← z] at q; omega)).trans (dn_I b hc)
      have fr_Iz27 : ∀ b, ¬ (K b = 2 ∨ K b = 5 ∨ K b = 11 ∨ (K b = 3 ∧ G b / 100 = 4)) → Iz27 b = I b := fun b q => (frc27 b (fun z => q (by rw [z]; have := hKy22; omega))).trans (fr_I b q)
      refine lv_iload_n hx hb dX6_apart_30 rfl (lv_at hl 3 rfl) ?_
      refine lv_if_ne (tgt := 44) hx hb dX6_apart_31 (by decide) (fun c31 => ?_) (fun c31 => ?_)
      · have t31 := tq_ne (k := p3.toInt) (q := (0)) c31 rfl (by decide +kernel)
        refine lv_iload_n hx hb dX6_apart_44 rfl (lv_at hl 3 rfl) ?_
        refine lv_iconst (v := 1) hx hb dX6_apart_45 (by decide +kernel) ?_
        refine lv_icmp_ne (tgt := 59) hx hb dX6_apart_46 (by decide) (fun c46 => ?_) (fun c46 => ?_)
        · have t46 := tq_ne (k := p3.toInt) (q := (1)) c46 rfl (by decide +kernel)
          refine lv_aload_n hx hb dX6_apart_59 rfl (lv_at hl 0 rfl) ?_
          refine p_get (v := .ref y22) hx hb hts inX6 hown hK hP hLp0 hKp0 rfl rfl 5 (by decide) (hts _ pq354) (congrArg (fun q => some (va_rf q)) ey22) dX6_apart_60 ?_
          refine p_get hx hb hts inX5 hown hK hP hLy22 hKy22 rfl rfl 8 (by decide) (hts _ pq287) rfl dX6_apart_63 ?_
          refine lv_topi (fun z63 ez63 => ?_)
          subst hR; subst hQz
          exact W.iret (v := z63) hx hb hr (fun t ht hW => ⟨⟨z63, (), rfl, (fun σ h => by have e := cx_1 h; have T := cxA_tg h; rw [show se Q p0 = y22 from gd_of ey22] at T; have t := xpz3.mp t6; rw [e] at t; obtain ⟨d, y, u, F, c6, c7, c8⟩ := jz27 σ.1 T.1 T.2.1 T.2.2 (show p1.toInt.toNat < _ by omega) (show p2.toInt.toNat < _ by omega); exact ⟨fun _ => ⟨d, y, u, F, by unfold apA; rw [if_neg t31, if_neg t46, ← c8]; exact congrArg Int32.toInt ez63⟩, fun q => absurd ⟨t, by omega, by omega⟩ q⟩), ⟨Iz27, J, ⟨hIz27, fr_Iz27, dn_Iz27, (fun σ A => cxA_scr hQ hLp0 hKp0 fr_Iz27 (fun _ _ _ => rfl) A), dj_J⟩, by rw [ht]; exact hP⟩⟩, hS.F ht⟩) hS.2.2 dX6_apart_66
        · have t46 := tq_eq (k := p3.toInt) (q := (1)) c46 rfl (by decide +kernel)
          refine lv_aload_n hx hb dX6_apart_49 rfl (lv_at hl 0 rfl) ?_
          refine p_get (v := .ref y22) hx hb hts inX6 hown hK hP hLp0 hKp0 rfl rfl 5 (by decide) (hts _ pq354) (congrArg (fun q => some (va_rf q)) ey22) dX6_apart_50 ?_
          refine p_get hx hb hts inX5 hown hK hP hLy22 hKy22 rfl rfl 7 (by decide) (hts _ pq285) rfl dX6_apart_53 ?_
          refine lv_topi (fun z53 ez53 => ?_)
          refine lv_goto (tgt := 66) hx hb dX6_apart_56 (by decide) ?_
          subst hR; subst hQz
          exact W.iret (v := z53) hx hb hr (fun t ht hW => ⟨⟨z53, (), rfl, (fun σ h => by have e := cx_1 h; have T := cxA_tg h; rw [show se Q p0 = y22 from gd_of ey22] at T; have t := xpz3.mp t6; rw [e] at t; obtain ⟨d, y, u, F, c6, c7, c8⟩ := jz27 σ.1 T.1 T.2.1 T.2.2 (show p1.toInt.toNat < _ by omega) (show p2.toInt.toNat < _ by omega); exact ⟨fun _ => ⟨d, y, u, F, by unfold apA; rw [if_neg t31, if_pos t46, ← c7]; exact congrArg Int32.toInt ez53⟩, fun q => absurd ⟨t, by omega, by omega⟩ q⟩), ⟨Iz27, J, ⟨hIz27, fr_Iz27, dn_Iz27, (fun σ A => cxA_scr hQ hLp0 hKp0 fr_Iz27 (fun _ _ _ => rfl) A), dj_J⟩, by rw [ht]; exact hP⟩⟩, hS.F ht⟩) hS.2.2 dX6_apart_66
      · have t31 := tq_eq (k := p3.toInt) (q := (0)) c31 rfl (by decide +kernel)
        refine lv_aload_n hx hb dX6_apart_34 rfl (lv_at hl 0 rfl) ?_
        refine p_get (v := .ref y22) hx hb hts inX6 hown hK hP hLp0 hKp0 rfl rfl 5 (by decide) (hts _ pq354) (congrArg (fun q => some (va_rf q)) ey22) dX6_apart_35 ?_
        refine p_get hx hb hts inX5 hown hK hP hLy22 hKy22 rfl rfl 6 (by decide) (hts _ pq283) rfl dX6_apart_38 ?_
        refine lv_topi (fun z38 ez38 => ?_)
        refine lv_goto (tgt := 66) hx hb dX6_apart_41 (by decide) ?_
        subst hR; subst hQz
        exact W.iret (v := z38) hx hb hr (fun t ht hW => ⟨⟨z38, (), rfl, (fun σ h => by have e := cx_1 h; have T := cxA_tg h; rw [show se Q p0 = y22 from gd_of ey22] at T; have t := xpz3.mp t6; rw [e] at t; obtain ⟨d, y, u, F, c6, c7, c8⟩ := jz27 σ.1 T.1 T.2.1 T.2.2 (show p1.toInt.toNat < _ by omega) (show p2.toInt.toNat < _ by omega); exact ⟨fun _ => ⟨d, y, u, F, by unfold apA; rw [if_pos t31, ← c6]; exact congrArg Int32.toInt ez38⟩, fun q => absurd ⟨t, by omega, by omega⟩ q⟩), ⟨Iz27, J, ⟨hIz27, fr_Iz27, dn_Iz27, (fun σ A => cxA_scr hQ hLp0 hKp0 fr_Iz27 (fun _ _ _ => rfl) A), dj_J⟩, by rw [ht]; exact hP⟩⟩, hS.F ht⟩) hS.2.2 dX6_apart_66
    · have t14 := tq_eq (k := z11.toInt) (q := (0)) c14 rfl (by decide +kernel)
      refine lv_sipush (v := (-2000)) hx hb dX6_apart_17 (by decide +kernel) ?_
      subst hR; subst hQz
      exact W.iret (v := (-2000)) hx hb hr (fun t ht hW => ⟨⟨(-2000), (), rfl, (fun σ h => by have e := cx_1 h; exact ⟨fun w => absurd w (fun w => by first | (have t := w.1; unfold twV at t; rw [← e] at t; exact (xpz3.mpr t) t6) | exact xpz11 t14 w.2), fun _ => by decide +kernel⟩), ⟨I, J, ⟨hI, fr_I, dn_I, (fun σ A => cxA_scr hQ hLp0 hKp0 fr_I (fun _ _ _ => rfl) A), dj_J⟩, by rw [ht]; exact hP⟩⟩, hS.F ht⟩) hS.2.2 dX6_apart_20

set_option maxHeartbeats 4000000 in
set_option maxRecDepth 100000 in
theorem s_X6_best (l : Launch) (dC : Nat → ClassId) (dI : Nat → Nat → Nat) (cs : Nat → ClassId) (L : List Nat) (K G : Nat → Nat) (Q : Nat → Nat → Option Nat) (hQ : Sv L K G Q) (x0 m0 : Nat) (tx : GT) (tm : GT × Int) (sz : Nat) (I : Nat → Nat → Int32) (J : Nat → Nat → Int64) (hI : Iv L K x0 m0 tx tm I) (p0 : Nat) (hLp0 : p0 ∈ L) (hKp0 : K p0 = 6) (p1 : Int32) (p2 : Int32) (p3 : Int32) : Met l yX6_best (.code yX6_best cX6_best 4 (some .int) :: pw) ({ frames := 4, cells := 0, slots := 0, locals := 97 }) (sP (dC, dI) cs [.ref p0, .int p1, .int p2, .int p3] sz L K I J Q) (va_Qi (fun (r : Int32) (_ : Unit) => (∀ σ : Sx, cxA Q I J p0 σ → bsR σ p1 p2 p3 r)) (fun _ t => sB (dC, dI) cs L K Q (fun I1 J1 => Iv L K x0 m0 tx tm I1 ∧ (∀ b, ¬ (K b = 2 ∨ K b = 5 ∨ K b = 11 ∨ (K b = 3 ∧ G b / 100 = 4)) → I1 b = I b) ∧ (∀ b, K b = 7 ∨ K b = 18 ∨ K b = 19 ∨ K b = 20 ∨ K b = 24 → I1 b = I b) ∧ (∀ σ : Sx, cxA Q I J p0 σ → cxA Q I1 J1 p0 σ) ∧ J1 = J) t) (fun q => q ∈ L ∨ sz ≤ q)) 0 0 (fun q => q ∈ L ∨ sz ≤ q) := by
  refine Met.ofW (cc := cX6_best) (maxL := 4) (ret := (some .int)) (by decide +kernel) rfl ?_
  intro p e s m args below meth c s₁ B hml hv
  obtain ⟨rfl, hsz, hP, hK, hD0, hN⟩ := hv
  have hx := B.exec
  have hb := B.bytes
  have hr := B.returns
  have hts := fun w (h : w ∈ pw) => atoms_spec (ws := Cond.code yX6_best cX6_best 4 (some .int) :: pw) B.pre w (List.mem_cons_of_mem _ h)
  have hown : s.vm.findClass RX6 = some m.cls := findClass_of_methodNamed B.named
  have hlocks := B.notSynchronized
  subst hsz
  have hBB : 999 ≤ tm.2 ∧ tm.2 ≤ 6000000 := hI.2.2.2.2.1
  have dn_I : (∀ b, K b = 7 ∨ K b = 18 ∨ K b = 19 ∨ K b = 20 ∨ K b = 24 → I b = I b) := fun _ _ => rfl
  have dj_J : J = J := rfl
  have fr_I : ∀ b, ¬ (K b = 2 ∨ K b = 5 ∨ K b = 11 ∨ (K b = 3 ∧ G b / 100 = 4)) → I b = I b := fun _ _ => rfl
  obtain ⟨A, hAe⟩ : ∃ A : Nat → Prop, A = (fun q => q ∈ L ∨ s.heap.size ≤ q) := ⟨_, rfl⟩
  rw [← hAe]
  have hAL : ∀ q, q ∈ L → A q := fun q h => by rw [hAe]; exact Or.inl h
  have hA : ∀ q, s.heap.size ≤ q → A q := fun q h => by rw [hAe]; exact Or.inr h
  have hD : ∀ F, va_D A (va_pl L F) := fun F => (hD0 F).weaken (fun k q hk _ => hAL _ (pl_mem hk))
  obtain ⟨H, hHe⟩ : ∃ H : Heap, H = s.heap := ⟨_, rfl⟩
  have hS : va_S A s.heap H [] := by rw [hHe]; exact va_S.rf
  rw [← hHe] at hP
  have hl := lv_entry ([.ref p0, .int p1, .int p2, .int p3]) (n := 4) (Nat.le_of_ble_eq_true rfl)
  rw [lg_entry_eq]
  generalize (lg_sl ([.ref p0, .int p1, .int p2, .int p3]) ++ List.replicate (4 - (lg_sl ([.ref p0, .int p1, .int p2, .int p3])).length) Slot.unset).toArray = ls at hl ⊢
  have hl : lv_has ls 4 [(0, .ref p0), (1, .int p1), (2, .int p2), (3, .int p3)] := hl
  rw [← hHe]
  refine namedW (fun R Qz hR hQz => ?_)
  refine lv_aload_n hx hb dX6_best_0 rfl (lv_at hl 0 rfl) ?_
  refine lv_iload_n hx hb dX6_best_1 rfl (lv_at hl 1 rfl) ?_
  refine lv_iload_n hx hb dX6_best_2 rfl (lv_at hl 2 rfl) ?_
  refine ro_i (va_runV (As := [.int p1, .int p2]) (rest := []) ⟨hx, hb, hml, hown, hts⟩ (s_X6_areTwoBodies l dC dI cs L K G Q hQ x0 m0 tx tm H.size I J hI p0 hLp0 hKp0 p1 p2) (cwV 2 hts (gV pq970 pq972 pq7 pq74 pq973) rfl rfl rfl (by decide +kernel) ⟨(by rw [hR]; exact (Nat.le_of_ble_eq_true rfl)), (by rw [hR]; exact (Nat.le_of_ble_eq_true rfl))⟩) (sP_V hP hD hK hN hLp0 hKp0 rfl rfl) rfl rfl hl.1 rfl (lv_room (Nat.le_of_ble_eq_true rfl)) dX6_best_3 ⟨(by rw [hR]; exact (Nat.le_of_ble_eq_true rfl)), (by rw [hR]; exact (Nat.le_of_ble_eq_true rfl))⟩) hS hP (fun z3 H locs hz3 hP hS => ?_)
  obtain ⟨bz3, imz3, xpz3⟩ := hz3
  refine lv_if_eq (tgt := 17) hx hb dX6_best_6 (by decide) (fun c6 => ?_) (fun c6 => ?_)
  · have t6 := tq_eq (k := z3.toInt) (q := (0)) c6 rfl (by decide +kernel)
    refine lv_sipush (v := (-2000)) hx hb dX6_best_17 (by decide +kernel) ?_
    subst hR; subst hQz
    exact W.iret (v := (-2000)) hx hb hr (fun t ht hW => ⟨⟨(-2000), (), rfl, (fun σ h => by have e := cx_1 h; exact ⟨fun w => absurd w (fun w => by first | (have t := w.1; unfold twV at t; rw [← e] at t; exact (xpz3.mpr t) t6) | exact xpz11 t14 w.2), fun _ => by decide +kernel⟩), ⟨I, J, ⟨hI, fr_I, dn_I, (fun σ A => cxA_scr hQ hLp0 hKp0 fr_I (fun _ _ _ => rfl) A), dj_J⟩, by rw [ht]; exact hP⟩⟩, hS.F ht⟩) hS.2.2 dX6_best_20
  · have t6 := tq_ne (k := z3.toInt) (q := (0)) c6 rfl (by decide +kernel)
    have i6 := imz3 t6
    refine lv_iload_n hx hb dX6_best_9 rfl (lv_at hl 3 rfl) ?_
    refine lv_iconst (v := 2) hx hb dX6_best_10 (by decide +kernel) ?_
    refine ro_i (va_runS (As := [.int p3, .int 2]) (rest := []) ⟨hx, hb, hml, hown, hts⟩ (s_X6_isFrom0To l dC dI cs L K G Q hQ x0 m0 tx tm H.size I J hI p3 2) (va_cwS 2 hts (gS pq651 pq652 pq74 pq653) rfl rfl rfl (by decide +kernel) ⟨(by rw [hR]; exact (Nat.le_of_ble_eq_true rfl)), (by rw [hR]; exact (Nat.le_of_ble_eq_true rfl))⟩) (sP_S hP hD hK hN) rfl rfl hl.1 rfl (lv_room (Nat.le_of_ble_eq_true rfl)) dX6_best_11 ⟨(by rw [hR]; exact (Nat.le_of_ble_eq_true rfl)), (by rw [hR]; exact (Nat.le_of_ble_eq_true rfl))⟩) hS hP (fun z11 H locs hz11 hP hS => ?_)
    have cst11_2 : (2 : Int32).toInt = 2 := by decide +kernel
    obtain ⟨bz11, imz11, xpz11⟩ := hz11
    try rw [cst11_2] at xpz11
    refine lv_if_ne (tgt := 21) hx hb dX6_best_14 (by decide) (fun c14 => ?_) (fun c14 => ?_)
    · have t14 := tq_ne (k := z11.toInt) (q := (0)) c14 rfl (by decide +kernel)
      have i14 := imz11 t14
      refine lv_aload_n hx hb dX6_best_21 rfl (lv_at hl 0 rfl) ?_
      obtain ⟨y22, ey22, hLy22, hKy22, hGy22⟩ := oQ_6_5 (Sv_at hQ hLp0 hKp0)
      refine p_get (v := .ref y22) hx hb hts inX6 hown hK hP hLp0 hKp0 rfl rfl 5 (by decide) (hts _ pq354) (congrArg (fun q => some (va_rf q)) ey22) dX6_best_22 ?_
      refine lv_iload_n hx hb dX6_best_25 rfl (lv_at hl 1 rfl) ?_
      refine lv_iload_n hx hb dX6_best_26 rfl (lv_at hl 2 rfl) ?_
      refine sw_v (Z := (fun I1 J1 => Iv L K x0 m0 tx tm I1 ∧ (∀ b, ¬ (b = y22) → I1 b = I b) ∧ (∀ c : Fx, okF c → cxF Q I J (nf Q y22) c → cxS Q I J y22 c → p1.toInt.toNat < (c.1 1).toInt.toNat → p2.toInt.toNat < (c.1 1).toInt.toNat → ∃ d x y : Int, bsT c p1.toInt.toNat p2.toInt.toNat d x y ∧ (I1 y22 6).toInt = d ∧ (I1 y22 7).toInt = x ∧ (I1 y22 8).toInt = y) ∧ J1 = J)) (va_runV (As := [.int p1, .int p2]) (rest := []) ⟨hx, hb, hml, hown, hts⟩ (s_X5_findBest l dC dI cs L K G Q hQ x0 m0 tx tm H.size I J hI y22 hLy22 hKy22 p1 ⟨by omega, by omega⟩ p2 ⟨by omega, by omega⟩) (cwV 2 hts (gV pq1053 pq1054 pq1055 pq79 pq1056) rfl rfl rfl (by decide +kernel) ⟨(by rw [hR]; exact (Nat.le_of_ble_eq_true rfl)), (by rw [hR]; exact (Nat.le_of_ble_eq_true rfl))⟩) (sP_V hP hD hK hN hLy22 hKy22 rfl rfl) rfl rfl hl.1 rfl (lv_room (Nat.le_of_ble_eq_true rfl)) dX6_best_27 ⟨(by rw [hR]; exact (Nat.le_of_ble_eq_true rfl)), (by rw [hR]; exact (Nat.le_of_ble_eq_true rfl))⟩) hS hAL hA (fun Iz27 Jz27 H locs hz27 hIz27 hP hS => ?_)
      obtain ⟨hIz27, frc27, jz27, djc27⟩ := hIz27
      obtain rfl : J = Jz27 := djc27.symm
      have dn_Iz27 : (∀ b, K b = 7 ∨ K b = 18 ∨ K b = 19 ∨ K b = 20 ∨ K b = 24 → Iz27 b = I b) := fun b hc => (frc27 b (fun z => by have q := hKy22; rw [← z] at q; omega)).trans (dn_I b hc)
      have fr_Iz27 : ∀ b, ¬ (K b = 2 ∨ K b = 5 ∨ K b = 11 ∨ (K b = 3 ∧ G b / 100 = 4)) → Iz27 b = I b := fun b q => (frc27 b (fun z => q (by rw [z]; have := hKy22; omega))).trans (fr_I b q)
      refine lv_iload_n hx hb dX6_best_30 rfl (lv_at hl 3 rfl) ?_
      refine lv_if_ne (tgt := 44) hx hb dX6_best_31 (by decide) (fun c31 => ?_) (fun c31 => ?_)
      · have t31 := tq_ne (k := p3.toInt) (q := (0)) c31 rfl (by decide +kernel)
        refine lv_iload_n hx hb dX6_best_44 rfl (lv_at hl 3 rfl) ?_
        refine lv_iconst (v := 1) hx hb dX6_best_45 (by decide +kernel) ?_
        refine lv_icmp_ne (tgt := 59) hx hb dX6_best_46 (by decide) (fun c46 => ?_) (fun c46 => ?_)
        · have t46 := tq_ne (k := p3.toInt) (q := (1)) c46 rfl (by decide +kernel)
          refine lv_aload_n hx hb dX6_best_59 rfl (lv_at hl 0 rfl) ?_
          refine p_get (v := .ref y22) hx hb hts inX6 hown hK hP hLp0 hKp0 rfl rfl 5 (by decide) (hts _ pq354) (congrArg (fun q => some (va_rf q)) ey22) dX6_best_60 ?_
          refine p_get hx hb hts inX5 hown hK hP hLy22 hKy22 rfl rfl 8 (by decide) (hts _ pq287) rfl dX6_best_63 ?_
          refine lv_topi (fun z63 ez63 => ?_)
          subst hR; subst hQz
          exact W.iret (v := z63) hx hb hr (fun t ht hW => ⟨⟨z63, (), rfl, (fun σ h => by have e := cx_1 h; have T := cxA_tg h; rw [show se Q p0 = y22 from gd_of ey22] at T; have t := xpz3.mp t6; rw [e] at t; obtain ⟨d, x, y, F, c6, c7, c8⟩ := jz27 σ.1 T.1 T.2.1 T.2.2 (show p1.toInt.toNat < _ by omega) (show p2.toInt.toNat < _ by omega); exact ⟨fun _ => ⟨d, x, y, F, by unfold bsA; rw [if_neg t31, if_neg t46, ← c8]; exact congrArg Int32.toInt ez63⟩, fun q => absurd ⟨t, by omega, by omega⟩ q⟩), ⟨Iz27, J, ⟨hIz27, fr_Iz27, dn_Iz27, (fun σ A => cxA_scr hQ hLp0 hKp0 fr_Iz27 (fun _ _ _ => rfl) A), dj_J⟩, by rw [ht]; exact hP⟩⟩, hS.F ht⟩) hS.2.2 dX6_best_66
        · have t46 := tq_eq (k := p3.toInt) (q := (1)) c46 rfl (by decide +kernel)
          refine lv_aload_n hx hb dX6_best_49 rfl (lv_at hl 0 rfl) ?_
          refine p_get (v := .ref y22) hx hb hts inX6 hown hK hP hLp0 hKp0 rfl rfl 5 (by decide) (hts _ pq354) (congrArg (fun q => some (va_rf q)) ey22) dX6_best_50 ?_
          refine p_get hx hb hts inX5 hown hK hP hLy22 hKy22 rfl rfl 7 (by decide) (hts _ pq285) rfl dX6_best_53 ?_
          refine lv_topi (fun z53 ez53 => ?_)
          refine lv_goto (tgt := 66) hx hb dX6_best_56 (by decide) ?_
          subst hR; subst hQz
          exact W.iret (v := z53) hx hb hr (fun t ht hW => ⟨⟨z53, (), rfl, (fun σ h => by have e := cx_1 h; have T := cxA_tg h; rw [show se Q p0 = y22 from gd_of ey22] at T; have t := xpz3.mp t6; rw [e] at t; obtain ⟨d, x, y, F, c6, c7, c8⟩ := jz27 σ.1 T.1 T.2.1 T.2.2 (show p1.toInt.toNat < _ by omega) (show p2.toInt.toNat < _ by omega); exact ⟨fun _ => ⟨d, x, y, F, by unfold bsA; rw [if_neg t31, if_pos t46, ← c7]; exact congrArg Int32.toInt ez53⟩, fun q => absurd ⟨t, by omega, by omega⟩ q⟩), ⟨Iz27, J, ⟨hIz27, fr_Iz27, dn_Iz27, (fun σ A => cxA_scr hQ hLp0 hKp0 fr_Iz27 (fun _ _ _ => rfl) A), dj_J⟩, by rw [ht]; exact hP⟩⟩, hS.F ht⟩) hS.2.2 dX6_best_66
      · have t31 := tq_eq (k := p3.toInt) (q := (0)) c31 rfl (by decide +kernel)
        refine lv_aload_n hx hb dX6_best_34 rfl (lv_at hl 0 rfl) ?_
        refine p_get (v := .ref y22) hx hb hts inX6 hown hK hP hLp0 hKp0 rfl rfl 5 (by decide) (hts _ pq354) (congrArg (fun q => some (va_rf q)) ey22) dX6_best_35 ?_
        refine p_get hx hb hts inX5 hown hK hP hLy22 hKy22 rfl rfl 6 (by decide) (hts _ pq283) rfl dX6_best_38 ?_
        refine lv_topi (fun z38 ez38 => ?_)
        refine lv_goto (tgt := 66) hx hb dX6_best_41 (by decide) ?_
        subst hR; subst hQz
        exact W.iret (v := z38) hx hb hr (fun t ht hW => ⟨⟨z38, (), rfl, (fun σ h => by have e := cx_1 h; have T := cxA_tg h; rw [show se Q p0 = y22 from gd_of ey22] at T; have t := xpz3.mp t6; rw [e] at t; obtain ⟨d, x, y, F, c6, c7, c8⟩ := jz27 σ.1 T.1 T.2.1 T.2.2 (show p1.toInt.toNat < _ by omega) (show p2.toInt.toNat < _ by omega); exact ⟨fun _ => ⟨d, x, y, F, by unfold bsA; rw [if_pos t31, ← c6]; exact congrArg Int32.toInt ez38⟩, fun q => absurd ⟨t, by omega, by omega⟩ q⟩), ⟨Iz27, J, ⟨hIz27, fr_Iz27, dn_Iz27, (fun σ A => cxA_scr hQ hLp0 hKp0 fr_Iz27 (fun _ _ _ => rfl) A), dj_J⟩, by rw [ht]; exact hP⟩⟩, hS.F ht⟩) hS.2.2 dX6_best_66
    · have t14 := tq_eq (k := z11.toInt) (q := (0)) c14 rfl (by decide +kernel)
      refine lv_sipush (v := (-2000)) hx hb dX6_best_17 (by decide +kernel) ?_
      subst hR; subst hQz
      exact W.iret (v := (-2000)) hx hb hr (fun t ht hW => ⟨⟨(-2000), (), rfl, (fun σ h => by have e := cx_1 h; exact ⟨fun w => absurd w (fun w => by first | (have t := w.1; unfold twV at t; rw [← e] at t; exact (xpz3.mpr t) t6) | exact xpz11 t14 w.2), fun _ => by decide +kernel⟩), ⟨I, J, ⟨hI, fr_I, dn_I, (fun σ A => cxA_scr hQ hLp0 hKp0 fr_I (fun _ _ _ => rfl) A), dj_J⟩, by rw [ht]; exact hP⟩⟩, hS.F ht⟩) hS.2.2 dX6_best_20
