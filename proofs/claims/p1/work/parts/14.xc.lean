def yX1_dotsOfAll : MethodName := ⟨RX1, "dotsOfAll", "()I"⟩
abbrev cX1_dotsOfAll : ByteArray := prog_3_method_4_code
abbrev cX6_at : ByteArray := prog_1_method_49_code
abbrev cX6_back : ByteArray := prog_1_method_26_code
abbrev cX6_contact : ByteArray := prog_1_method_45_code
abbrev cX6_count : ByteArray := prog_1_method_59_code
abbrev cX6_digest : ByteArray := prog_1_method_58_code
abbrev cX6_end : ByteArray := prog_1_method_4_code
abbrev cX6_falls : ByteArray := prog_1_method_21_code
abbrev cX6_sieve : ByteArray := prog_1_method_46_code
abbrev cX6_undo : ByteArray := prog_1_method_24_code
def yX6_at : MethodName := ⟨RX6, "at", "(II)I"⟩
def yX6_back : MethodName := ⟨RX6, "back", "(I)I"⟩
def yX6_contact : MethodName := ⟨RX6, "contact", "(I)I"⟩
def yX6_count : MethodName := ⟨RX6, "count", "(I)I"⟩
def yX6_digest : MethodName := ⟨RX6, "digest", "()J"⟩
def yX6_end : MethodName := ⟨RX6, "end", "(I)I"⟩
def yX6_falls : MethodName := ⟨RX6, "falls", "()I"⟩
def yX6_sieve : MethodName := ⟨RX6, "sieve", "(I)I"⟩
def yX6_undo : MethodName := ⟨RX6, "undo", "()I"⟩
theorem dX1_dotsOfAll_0 : decode cX1_dotsOfAll 0 = .ok (.iconst 0, 1) := by decide +kernel
theorem dX1_dotsOfAll_1 : decode cX1_dotsOfAll 1 = .ok (.istore_n 1, 1) := by decide +kernel
theorem dX1_dotsOfAll_2 : decode cX1_dotsOfAll 2 = .ok (.iconst 0, 1) := by decide +kernel
theorem dX1_dotsOfAll_3 : decode cX1_dotsOfAll 3 = .ok (.istore_n 2, 1) := by decide +kernel
theorem dX1_dotsOfAll_4 : decode cX1_dotsOfAll 4 = .ok (.iload_n 2, 1) := by decide +kernel
theorem dX1_dotsOfAll_5 : decode cX1_dotsOfAll 5 = .ok (.aload_n 0, 1) := by decide +kernel
theorem dX1_dotsOfAll_6 : decode cX1_dotsOfAll 6 = .ok (.getfield 23, 3) := by decide +kernel
theorem dX1_dotsOfAll_9 : decode cX1_dotsOfAll 9 = .ok (.if_icmp .ge 21, 3) := by decide +kernel
theorem dX1_dotsOfAll_30 : decode cX1_dotsOfAll 30 = .ok (.iload_n 1, 1) := by decide +kernel
theorem dX1_dotsOfAll_31 : decode cX1_dotsOfAll 31 = .ok (.ireturn, 1) := by decide +kernel
theorem dX6_at_0 : decode cX6_at 0 = .ok (.iconst 0, 1) := by decide +kernel
theorem dX6_at_1 : decode cX6_at 1 = .ok (.istore_n 3, 1) := by decide +kernel
theorem dX6_at_2 : decode cX6_at 2 = .ok (.iconst 0, 1) := by decide +kernel
theorem dX6_at_3 : decode cX6_at 3 = .ok (.istore 4, 2) := by decide +kernel
theorem dX6_at_5 : decode cX6_at 5 = .ok (.iload 4, 2) := by decide +kernel
theorem dX6_at_7 : decode cX6_at 7 = .ok (.aload_n 0, 1) := by decide +kernel
theorem dX6_at_8 : decode cX6_at 8 = .ok (.getfield 20, 3) := by decide +kernel
theorem dX6_at_11 : decode cX6_at 11 = .ok (.getfield 83, 3) := by decide +kernel
theorem dX6_at_14 : decode cX6_at 14 = .ok (.if_icmp .ge 30, 3) := by decide +kernel
theorem dX6_at_44 : decode cX6_at 44 = .ok (.iload_n 3, 1) := by decide +kernel
theorem dX6_at_45 : decode cX6_at 45 = .ok (.ireturn, 1) := by decide +kernel
theorem dX6_back_0 : decode cX6_back 0 = .ok (.iload_n 1, 1) := by decide +kernel
theorem dX6_back_1 : decode cX6_back 1 = .ok (.iconst 1, 1) := by decide +kernel
theorem dX6_back_2 : decode cX6_back 2 = .ok (.invokestatic 109, 3) := by decide +kernel
theorem dX6_back_5 : decode cX6_back 5 = .ok (.ifCond .ne 5, 3) := by decide +kernel
theorem dX6_back_8 : decode cX6_back 8 = .ok (.iconst (-1), 1) := by decide +kernel
theorem dX6_back_9 : decode cX6_back 9 = .ok (.ireturn, 1) := by decide +kernel
theorem dX6_back_10 : decode cX6_back 10 = .ok (.aload_n 0, 1) := by decide +kernel
theorem dX6_back_11 : decode cX6_back 11 = .ok (.getfield 69, 3) := by decide +kernel
theorem dX6_back_14 : decode cX6_back 14 = .ok (.iload_n 1, 1) := by decide +kernel
theorem dX6_back_15 : decode cX6_back 15 = .ok (.aaload, 1) := by decide +kernel
theorem dX6_back_16 : decode cX6_back 16 = .ok (.astore_n 2, 1) := by decide +kernel
theorem dX6_back_17 : decode cX6_back 17 = .ok (.aload_n 2, 1) := by decide +kernel
theorem dX6_back_18 : decode cX6_back 18 = .ok (.ifnonnull 6, 3) := by decide +kernel
theorem dX6_back_21 : decode cX6_back 21 = .ok (.bipush (-2), 2) := by decide +kernel
theorem dX6_back_23 : decode cX6_back 23 = .ok (.ireturn, 1) := by decide +kernel
theorem dX6_contact_0 : decode cX6_contact 0 = .ok (.iload_n 1, 1) := by decide +kernel
theorem dX6_contact_1 : decode cX6_contact 1 = .ok (.iconst (-1), 1) := by decide +kernel
theorem dX6_contact_2 : decode cX6_contact 2 = .ok (.if_icmp .ge 5, 3) := by decide +kernel
theorem dX6_contact_5 : decode cX6_contact 5 = .ok (.iconst (-1), 1) := by decide +kernel
theorem dX6_contact_6 : decode cX6_contact 6 = .ok (.ireturn, 1) := by decide +kernel
theorem dX6_contact_7 : decode cX6_contact 7 = .ok (.iconst 0, 1) := by decide +kernel
theorem dX6_contact_8 : decode cX6_contact 8 = .ok (.istore_n 2, 1) := by decide +kernel
theorem dX6_contact_9 : decode cX6_contact 9 = .ok (.iconst 0, 1) := by decide +kernel
theorem dX6_contact_10 : decode cX6_contact 10 = .ok (.istore_n 3, 1) := by decide +kernel
theorem dX6_contact_11 : decode cX6_contact 11 = .ok (.iload_n 3, 1) := by decide +kernel
theorem dX6_contact_12 : decode cX6_contact 12 = .ok (.aload_n 0, 1) := by decide +kernel
theorem dX6_contact_13 : decode cX6_contact 13 = .ok (.getfield 20, 3) := by decide +kernel
theorem dX6_contact_16 : decode cX6_contact 16 = .ok (.getfield 83, 3) := by decide +kernel
theorem dX6_contact_19 : decode cX6_contact 19 = .ok (.if_icmp .ge 63, 3) := by decide +kernel
theorem dX6_contact_82 : decode cX6_contact 82 = .ok (.iload_n 1, 1) := by decide +kernel
theorem dX6_contact_83 : decode cX6_contact 83 = .ok (.iconst (-1), 1) := by decide +kernel
theorem dX6_contact_84 : decode cX6_contact 84 = .ok (.if_icmp .ne 7, 3) := by decide +kernel
theorem dX6_contact_87 : decode cX6_contact 87 = .ok (.iload_n 2, 1) := by decide +kernel
theorem dX6_contact_88 : decode cX6_contact 88 = .ok (.goto 5, 3) := by decide +kernel
theorem dX6_contact_91 : decode cX6_contact 91 = .ok (.bipush (-2), 2) := by decide +kernel
theorem dX6_contact_93 : decode cX6_contact 93 = .ok (.ireturn, 1) := by decide +kernel
theorem dX6_count_0 : decode cX6_count 0 = .ok (.iload_n 1, 1) := by decide +kernel
theorem dX6_count_1 : decode cX6_count 1 = .ok (.tableswitch 115 0 6 #[43, 51, 59, 67, 72, 77, 107], 43) := by decide +kernel
theorem dX6_count_44 : decode cX6_count 44 = .ok (.aload_n 0, 1) := by decide +kernel
theorem dX6_count_45 : decode cX6_count 45 = .ok (.getfield 20, 3) := by decide +kernel
theorem dX6_count_48 : decode cX6_count 48 = .ok (.getfield 367, 3) := by decide +kernel
theorem dX6_count_51 : decode cX6_count 51 = .ok (.ireturn, 1) := by decide +kernel
theorem dX6_count_52 : decode cX6_count 52 = .ok (.aload_n 0, 1) := by decide +kernel
theorem dX6_count_53 : decode cX6_count 53 = .ok (.getfield 20, 3) := by decide +kernel
theorem dX6_count_56 : decode cX6_count 56 = .ok (.getfield 83, 3) := by decide +kernel
theorem dX6_count_59 : decode cX6_count 59 = .ok (.ireturn, 1) := by decide +kernel
theorem dX6_count_60 : decode cX6_count 60 = .ok (.aload_n 0, 1) := by decide +kernel
theorem dX6_count_61 : decode cX6_count 61 = .ok (.getfield 20, 3) := by decide +kernel
theorem dX6_count_64 : decode cX6_count 64 = .ok (.invokevirtual 370, 3) := by decide +kernel
theorem dX6_count_67 : decode cX6_count 67 = .ok (.ireturn, 1) := by decide +kernel
theorem dX6_count_68 : decode cX6_count 68 = .ok (.aload_n 0, 1) := by decide +kernel
theorem dX6_count_69 : decode cX6_count 69 = .ok (.getfield 66, 3) := by decide +kernel
theorem dX6_count_72 : decode cX6_count 72 = .ok (.ireturn, 1) := by decide +kernel
theorem dX6_count_73 : decode cX6_count 73 = .ok (.aload_n 0, 1) := by decide +kernel
theorem dX6_count_74 : decode cX6_count 74 = .ok (.getfield 13, 3) := by decide +kernel
theorem dX6_count_77 : decode cX6_count 77 = .ok (.ireturn, 1) := by decide +kernel
theorem dX6_count_78 : decode cX6_count 78 = .ok (.aload_n 0, 1) := by decide +kernel
theorem dX6_count_79 : decode cX6_count 79 = .ok (.getfield 69, 3) := by decide +kernel
theorem dX6_count_82 : decode cX6_count 82 = .ok (.iconst 0, 1) := by decide +kernel
theorem dX6_count_83 : decode cX6_count 83 = .ok (.aaload, 1) := by decide +kernel
theorem dX6_count_84 : decode cX6_count 84 = .ok (.ifnull 7, 3) := by decide +kernel
theorem dX6_count_91 : decode cX6_count 91 = .ok (.iconst 0, 1) := by decide +kernel
theorem dX6_count_92 : decode cX6_count 92 = .ok (.aload_n 0, 1) := by decide +kernel
theorem dX6_count_93 : decode cX6_count 93 = .ok (.getfield 69, 3) := by decide +kernel
theorem dX6_count_96 : decode cX6_count 96 = .ok (.iconst 1, 1) := by decide +kernel
theorem dX6_count_97 : decode cX6_count 97 = .ok (.aaload, 1) := by decide +kernel
theorem dX6_count_98 : decode cX6_count 98 = .ok (.ifnull 7, 3) := by decide +kernel
theorem dX6_count_105 : decode cX6_count 105 = .ok (.iconst 0, 1) := by decide +kernel
theorem dX6_count_106 : decode cX6_count 106 = .ok (.iadd, 1) := by decide +kernel
theorem dX6_count_107 : decode cX6_count 107 = .ok (.ireturn, 1) := by decide +kernel
theorem dX6_count_108 : decode cX6_count 108 = .ok (.aload_n 0, 1) := by decide +kernel
theorem dX6_count_109 : decode cX6_count 109 = .ok (.getfield 20, 3) := by decide +kernel
theorem dX6_count_112 : decode cX6_count 112 = .ok (.getfield 235, 3) := by decide +kernel
theorem dX6_count_115 : decode cX6_count 115 = .ok (.ireturn, 1) := by decide +kernel
theorem dX6_count_116 : decode cX6_count 116 = .ok (.iconst (-1), 1) := by decide +kernel
theorem dX6_count_117 : decode cX6_count 117 = .ok (.ireturn, 1) := by decide +kernel
theorem dX6_digest_0 : decode cX6_digest 0 = .ok (.ldc2_w 363, 3) := by decide +kernel
theorem dX6_digest_3 : decode cX6_digest 3 = .ok (.lstore_n 1, 1) := by decide +kernel
theorem dX6_digest_4 : decode cX6_digest 4 = .ok (.iconst 0, 1) := by decide +kernel
theorem dX6_digest_5 : decode cX6_digest 5 = .ok (.istore_n 3, 1) := by decide +kernel
theorem dX6_digest_6 : decode cX6_digest 6 = .ok (.iload_n 3, 1) := by decide +kernel
theorem dX6_digest_7 : decode cX6_digest 7 = .ok (.aload_n 0, 1) := by decide +kernel
theorem dX6_digest_8 : decode cX6_digest 8 = .ok (.getfield 20, 3) := by decide +kernel
theorem dX6_digest_11 : decode cX6_digest 11 = .ok (.getfield 83, 3) := by decide +kernel
theorem dX6_digest_14 : decode cX6_digest 14 = .ok (.if_icmp .ge 47, 3) := by decide +kernel
theorem dX6_digest_61 : decode cX6_digest 61 = .ok (.iconst 0, 1) := by decide +kernel
theorem dX6_digest_62 : decode cX6_digest 62 = .ok (.istore_n 3, 1) := by decide +kernel
theorem dX6_digest_63 : decode cX6_digest 63 = .ok (.iload_n 3, 1) := by decide +kernel
theorem dX6_digest_64 : decode cX6_digest 64 = .ok (.aload_n 0, 1) := by decide +kernel
theorem dX6_digest_65 : decode cX6_digest 65 = .ok (.getfield 20, 3) := by decide +kernel
theorem dX6_digest_68 : decode cX6_digest 68 = .ok (.getfield 367, 3) := by decide +kernel
theorem dX6_digest_71 : decode cX6_digest 71 = .ok (.if_icmp .ge 56, 3) := by decide +kernel
theorem dX6_digest_127 : decode cX6_digest 127 = .ok (.lload_n 1, 1) := by decide +kernel
theorem dX6_digest_128 : decode cX6_digest 128 = .ok (.lreturn, 1) := by decide +kernel
theorem dX6_end_0 : decode cX6_end 0 = .ok (.iload_n 1, 1) := by decide +kernel
theorem dX6_end_1 : decode cX6_end 1 = .ok (.ifCond .lt 11, 3) := by decide +kernel
theorem dX6_end_4 : decode cX6_end 4 = .ok (.iload_n 1, 1) := by decide +kernel
theorem dX6_end_5 : decode cX6_end 5 = .ok (.aload_n 0, 1) := by decide +kernel
theorem dX6_end_6 : decode cX6_end 6 = .ok (.getfield 13, 3) := by decide +kernel
theorem dX6_end_9 : decode cX6_end 9 = .ok (.if_icmp .le 5, 3) := by decide +kernel
theorem dX6_end_12 : decode cX6_end 12 = .ok (.iconst (-1), 1) := by decide +kernel
theorem dX6_end_13 : decode cX6_end 13 = .ok (.ireturn, 1) := by decide +kernel
theorem dX6_end_14 : decode cX6_end 14 = .ok (.aload_n 0, 1) := by decide +kernel
theorem dX6_end_15 : decode cX6_end 15 = .ok (.iload_n 1, 1) := by decide +kernel
theorem dX6_end_16 : decode cX6_end 16 = .ok (.putfield 13, 3) := by decide +kernel
theorem dX6_end_19 : decode cX6_end 19 = .ok (.iload_n 1, 1) := by decide +kernel
theorem dX6_end_20 : decode cX6_end 20 = .ok (.ireturn, 1) := by decide +kernel
theorem dX6_falls_0 : decode cX6_falls 0 = .ok (.aload_n 0, 1) := by decide +kernel
theorem dX6_falls_1 : decode cX6_falls 1 = .ok (.getfield 20, 3) := by decide +kernel
theorem dX6_falls_4 : decode cX6_falls 4 = .ok (.getfield 83, 3) := by decide +kernel
theorem dX6_falls_7 : decode cX6_falls 7 = .ok (.ifCond .ne 5, 3) := by decide +kernel
theorem dX6_falls_10 : decode cX6_falls 10 = .ok (.iconst (-1), 1) := by decide +kernel
theorem dX6_falls_11 : decode cX6_falls 11 = .ok (.ireturn, 1) := by decide +kernel
theorem dX6_sieve_0 : decode cX6_sieve 0 = .ok (.iload_n 1, 1) := by decide +kernel
theorem dX6_sieve_1 : decode cX6_sieve 1 = .ok (.iconst 2, 1) := by decide +kernel
theorem dX6_sieve_2 : decode cX6_sieve 2 = .ok (.invokestatic 109, 3) := by decide +kernel
theorem dX6_sieve_5 : decode cX6_sieve 5 = .ok (.ifCond .ne 5, 3) := by decide +kernel
theorem dX6_sieve_8 : decode cX6_sieve 8 = .ok (.iconst (-1), 1) := by decide +kernel
theorem dX6_sieve_9 : decode cX6_sieve 9 = .ok (.ireturn, 1) := by decide +kernel
theorem dX6_sieve_10 : decode cX6_sieve 10 = .ok (.iconst 0, 1) := by decide +kernel
theorem dX6_sieve_11 : decode cX6_sieve 11 = .ok (.istore_n 2, 1) := by decide +kernel
theorem dX6_sieve_12 : decode cX6_sieve 12 = .ok (.iconst 0, 1) := by decide +kernel
theorem dX6_sieve_13 : decode cX6_sieve 13 = .ok (.istore_n 3, 1) := by decide +kernel
theorem dX6_sieve_14 : decode cX6_sieve 14 = .ok (.iload_n 3, 1) := by decide +kernel
theorem dX6_sieve_15 : decode cX6_sieve 15 = .ok (.aload_n 0, 1) := by decide +kernel
theorem dX6_sieve_16 : decode cX6_sieve 16 = .ok (.getfield 20, 3) := by decide +kernel
theorem dX6_sieve_19 : decode cX6_sieve 19 = .ok (.getfield 83, 3) := by decide +kernel
theorem dX6_sieve_22 : decode cX6_sieve 22 = .ok (.if_icmp .ge 46, 3) := by decide +kernel
theorem dX6_sieve_68 : decode cX6_sieve 68 = .ok (.iload_n 2, 1) := by decide +kernel
theorem dX6_sieve_69 : decode cX6_sieve 69 = .ok (.ireturn, 1) := by decide +kernel
theorem dX6_undo_0 : decode cX6_undo 0 = .ok (.aload_n 0, 1) := by decide +kernel
theorem dX6_undo_1 : decode cX6_undo 1 = .ok (.getfield 66, 3) := by decide +kernel
theorem dX6_undo_4 : decode cX6_undo 4 = .ok (.ifCond .ne 5, 3) := by decide +kernel
theorem dX6_undo_7 : decode cX6_undo 7 = .ok (.iconst (-1), 1) := by decide +kernel
theorem dX6_undo_8 : decode cX6_undo 8 = .ok (.ireturn, 1) := by decide +kernel
set_option maxRecDepth 100000 in
theorem pq229 : Cond.fieldLink RX6 235 "MaskTouch$Field" "tickCount" "I" ∈ pw := pw_mem (i := 229) (by decide +kernel) rfl
set_option maxRecDepth 100000 in
theorem pq651 : Cond.methodLink RX6 109 yX6_isFrom0To ∈ pw := pw_mem (i := 651) (by decide +kernel) rfl
set_option maxRecDepth 100000 in
theorem pq652 : Cond.static yX6_isFrom0To ∈ pw := pw_mem (i := 652) (by decide +kernel) rfl
set_option maxRecDepth 100000 in
theorem pq653 : Cond.code yX6_isFrom0To cX6_isFrom0To 2 (some .boolean) ∈ pw := pw_mem (i := 653) (by rfl) rfl
set_option maxRecDepth 100000 in
theorem pq1099 : Cond.constantLong RX6 363 (17) ∈ pw := pw_mem (i := 1099) (by decide +kernel) rfl
set_option maxRecDepth 100000 in
theorem pq1105 : Cond.methodLink RX6 370 yX1_dotsOfAll ∈ pw := pw_mem (i := 1105) (by decide +kernel) rfl
set_option maxRecDepth 100000 in
theorem pq1106 : Cond.instanceMethod yX1_dotsOfAll ∈ pw := pw_mem (i := 1106) (by decide +kernel) rfl
set_option maxRecDepth 100000 in
theorem pq1107 : Cond.selects RX1 yX1_dotsOfAll yX1_dotsOfAll ∈ pw := pw_mem (i := 1107) (by decide +kernel) rfl
set_option maxRecDepth 100000 in
theorem pq1108 : Cond.code yX1_dotsOfAll cX1_dotsOfAll 3 (some .int) ∈ pw := pw_mem (i := 1108) (by rfl) rfl
set_option maxHeartbeats 4000000 in
set_option maxRecDepth 100000 in
theorem c_X6_falls (l : Launch) (dC : Nat → ClassId) (dI : Nat → Nat → Nat) (h0 tp nw dr rd sc sk fl ps sh nm nb : Nat) (sz : Nat) : Met l yX6_falls (.code yX6_falls cX6_falls 6 (some .int) :: pw) ({ frames := 0, cells := 0, slots := 0, locals := 0 }) (pc (dC, dI) [.ref h0] sz [(h0, .inr (6, [.ref tp, .int 0, .ref nw, .ref dr, .ref rd, .ref sc, .ref sk, .ref fl, .ref ps, .int 0, .int 0, .ref sh])), (nw, .inr (1, [.ref nm, .ref nb, .int 0, .int 0, .int 0]))] []) (va_Qi (fun (r : Int32) (_ : Unit) => r = (-1)) (fun _ _ => True) (fun _ => False)) 0 0 (fun _ => False) := by
  refine Met.ofW (cc := cX6_falls) (maxL := 6) (ret := (some .int)) (by decide +kernel) rfl ?_
  intro p e s m args below meth c s₁ B hml hv
  obtain ⟨rfl, hsz, hP, hK, hD0, hN⟩ := hv
  have hx := B.exec
  have hb := B.bytes
  have hr := B.returns
  have hts := fun w (h : w ∈ pw) => atoms_spec (ws := Cond.code yX6_falls cX6_falls 6 (some .int) :: pw) B.pre w (List.mem_cons_of_mem _ h)
  have hown : s.vm.findClass RX6 = some m.cls := findClass_of_methodNamed B.named
  have hlocks := B.notSynchronized
  subst hsz
  have hD := hD0
  obtain ⟨H, hHe⟩ : ∃ H : Heap, H = s.heap := ⟨_, rfl⟩
  have hS : va_S (fun _ => False) s.heap H [] := by rw [hHe]; exact va_S.rf
  rw [← hHe] at hP
  have hl := lv_entry ([.ref h0]) (n := 6) (Nat.le_of_ble_eq_true rfl)
  rw [lg_entry_eq]
  generalize (lg_sl ([.ref h0]) ++ List.replicate (6 - (lg_sl ([.ref h0])).length) Slot.unset).toArray = ls at hl ⊢
  have hl : lv_has ls 6 [(0, .ref h0)] := hl
  rw [← hHe]
  refine lv_aload_n hx hb dX6_falls_0 rfl (lv_at hl 0 rfl) ?_
  refine va_get (D := (dC, dI)) (ci := 6) (v := .ref nw) (C := RX6) (T := TX6) (N := 12) hx hb hts inX6 hown hK hP 0 rfl rfl 2 (by decide) (hts _ pq351) (fun _ h9 => h9) rfl dX6_falls_1 ?_
  refine va_get (D := (dC, dI)) (ci := 1) (v := .int 0) (C := RX1) (T := TX1) (N := 5) hx hb hts inX1 hown hK hP 1 rfl rfl 3 (by decide) (hts _ pq226) (fun _ h9 => h9) rfl dX6_falls_4 ?_
  refine lv_if_ne (tgt := 12) hx hb dX6_falls_7 (by decide) (fun c1 => absurd (by decide +kernel) c1) (fun c1 => ?_)
  refine lv_iconst (v := (-1)) hx hb dX6_falls_10 (by decide +kernel) ?_
  exact W.iret (v := (-1)) hx hb hr (fun t ht hW => ⟨⟨(-1), (), rfl, rfl, trivial⟩, hS.F ht⟩) hS.2.2 dX6_falls_11

set_option maxHeartbeats 4000000 in
set_option maxRecDepth 100000 in
theorem c_X6_undo (l : Launch) (dC : Nat → ClassId) (dI : Nat → Nat → Nat) (h0 tp nw dr rd sc sk fl ps sh nm nb : Nat) (sz : Nat) : Met l yX6_undo (.code yX6_undo cX6_undo 2 (some .int) :: pw) ({ frames := 0, cells := 0, slots := 0, locals := 0 }) (pc (dC, dI) [.ref h0] sz [(h0, .inr (6, [.ref tp, .int 0, .ref nw, .ref dr, .ref rd, .ref sc, .ref sk, .ref fl, .ref ps, .int 0, .int 0, .ref sh])), (nw, .inr (1, [.ref nm, .ref nb, .int 0, .int 0, .int 0]))] []) (va_Qi (fun (r : Int32) (_ : Unit) => r = (-1)) (fun _ _ => True) (fun _ => False)) 0 0 (fun _ => False) := by
  refine Met.ofW (cc := cX6_undo) (maxL := 2) (ret := (some .int)) (by decide +kernel) rfl ?_
  intro p e s m args below meth c s₁ B hml hv
  obtain ⟨rfl, hsz, hP, hK, hD0, hN⟩ := hv
  have hx := B.exec
  have hb := B.bytes
  have hr := B.returns
  have hts := fun w (h : w ∈ pw) => atoms_spec (ws := Cond.code yX6_undo cX6_undo 2 (some .int) :: pw) B.pre w (List.mem_cons_of_mem _ h)
  have hown : s.vm.findClass RX6 = some m.cls := findClass_of_methodNamed B.named
  have hlocks := B.notSynchronized
  subst hsz
  have hD := hD0
  obtain ⟨H, hHe⟩ : ∃ H : Heap, H = s.heap := ⟨_, rfl⟩
  have hS : va_S (fun _ => False) s.heap H [] := by rw [hHe]; exact va_S.rf
  rw [← hHe] at hP
  have hl := lv_entry ([.ref h0]) (n := 2) (Nat.le_of_ble_eq_true rfl)
  rw [lg_entry_eq]
  generalize (lg_sl ([.ref h0]) ++ List.replicate (2 - (lg_sl ([.ref h0])).length) Slot.unset).toArray = ls at hl ⊢
  have hl : lv_has ls 2 [(0, .ref h0)] := hl
  rw [← hHe]
  refine lv_aload_n hx hb dX6_undo_0 rfl (lv_at hl 0 rfl) ?_
  refine va_get (D := (dC, dI)) (ci := 6) (v := .int 0) (C := RX6) (T := TX6) (N := 12) hx hb hts inX6 hown hK hP 0 rfl rfl 10 (by decide) (hts _ pq359) (fun _ h9 => h9) rfl dX6_undo_1 ?_
  refine lv_if_ne (tgt := 9) hx hb dX6_undo_4 (by decide) (fun c1 => absurd (by decide +kernel) c1) (fun c1 => ?_)
  refine lv_iconst (v := (-1)) hx hb dX6_undo_7 (by decide +kernel) ?_
  exact W.iret (v := (-1)) hx hb hr (fun t ht hW => ⟨⟨(-1), (), rfl, rfl, trivial⟩, hS.F ht⟩) hS.2.2 dX6_undo_8

set_option maxHeartbeats 4000000 in
set_option maxRecDepth 100000 in
theorem c_X6_at (l : Launch) (dC : Nat → ClassId) (dI : Nat → Nat → Nat) (h0 tp nw dr rd sc sk fl ps sh nm nb : Nat) (sz : Nat) (p0 : Int32) (p1 : Int32) : Met l yX6_at (.code yX6_at cX6_at 5 (some .int) :: pw) ({ frames := 0, cells := 0, slots := 0, locals := 0 }) (pc (dC, dI) [.ref h0, .int p0, .int p1] sz [(h0, .inr (6, [.ref tp, .int 0, .ref nw, .ref dr, .ref rd, .ref sc, .ref sk, .ref fl, .ref ps, .int 0, .int 0, .ref sh])), (nw, .inr (1, [.ref nm, .ref nb, .int 0, .int 0, .int 0]))] []) (va_Qi (fun (r : Int32) (_ : Unit) => r = 0) (fun _ _ => True) (fun _ => False)) 0 0 (fun _ => False) := by
  refine Met.ofW (cc := cX6_at) (maxL := 5) (ret := (some .int)) (by decide +kernel) rfl ?_
  intro p e s m args below meth c s₁ B hml hv
  obtain ⟨rfl, hsz, hP, hK, hD0, hN⟩ := hv
  have hx := B.exec
  have hb := B.bytes
  have hr := B.returns
  have hts := fun w (h : w ∈ pw) => atoms_spec (ws := Cond.code yX6_at cX6_at 5 (some .int) :: pw) B.pre w (List.mem_cons_of_mem _ h)
  have hown : s.vm.findClass RX6 = some m.cls := findClass_of_methodNamed B.named
  have hlocks := B.notSynchronized
  subst hsz
  have hD := hD0
  obtain ⟨H, hHe⟩ : ∃ H : Heap, H = s.heap := ⟨_, rfl⟩
  have hS : va_S (fun _ => False) s.heap H [] := by rw [hHe]; exact va_S.rf
  rw [← hHe] at hP
  have hl := lv_entry ([.ref h0, .int p0, .int p1]) (n := 5) (Nat.le_of_ble_eq_true rfl)
  rw [lg_entry_eq]
  generalize (lg_sl ([.ref h0, .int p0, .int p1]) ++ List.replicate (5 - (lg_sl ([.ref h0, .int p0, .int p1])).length) Slot.unset).toArray = ls at hl ⊢
  have hl : lv_has ls 5 [(0, .ref h0), (1, .int p0), (2, .int p1)] := hl
  rw [← hHe]
  refine lv_iconst (v := 0) hx hb dX6_at_0 (by decide +kernel) ?_
  refine lv_istore_n (lv' := [(3, .int 0), (0, .ref h0), (1, .int p0), (2, .int p1)]) hx hb dX6_at_1 rfl hl (by decide) rfl (fun ls hl => ?_)
  refine lv_iconst (v := 0) hx hb dX6_at_2 (by decide +kernel) ?_
  refine lv_istore (lv' := [(4, .int 0), (3, .int 0), (0, .ref h0), (1, .int p0), (2, .int p1)]) hx hb dX6_at_3 hl (by decide) rfl (fun ls hl => ?_)
  refine lv_iload hx hb dX6_at_5 (lv_at hl 0 rfl) ?_
  refine lv_aload_n hx hb dX6_at_7 rfl (lv_at hl 2 rfl) ?_
  refine va_get (D := (dC, dI)) (ci := 6) (v := .ref nw) (C := RX6) (T := TX6) (N := 12) hx hb hts inX6 hown hK hP 0 rfl rfl 2 (by decide) (hts _ pq351) (fun _ h9 => h9) rfl dX6_at_8 ?_
  refine va_get (D := (dC, dI)) (ci := 1) (v := .int 0) (C := RX1) (T := TX1) (N := 5) hx hb hts inX1 hown hK hP 1 rfl rfl 3 (by decide) (hts _ pq226) (fun _ h9 => h9) rfl dX6_at_11 ?_
  refine lv_icmp_ge (tgt := 44) hx hb dX6_at_14 (by decide) (fun c1 => ?_) (fun c1 => absurd (by decide +kernel) c1)
  refine lv_iload_n hx hb dX6_at_44 rfl (lv_at hl 1 rfl) ?_
  exact W.iret (v := 0) hx hb hr (fun t ht hW => ⟨⟨0, (), rfl, rfl, trivial⟩, hS.F ht⟩) hS.2.2 dX6_at_45

set_option maxHeartbeats 4000000 in
set_option maxRecDepth 100000 in
theorem c_X6_digest (l : Launch) (dC : Nat → ClassId) (dI : Nat → Nat → Nat) (h0 tp nw dr rd sc sk fl ps sh nm nb : Nat) (sz : Nat) : Met l yX6_digest (.code yX6_digest cX6_digest 6 (some .long) :: pw) ({ frames := 0, cells := 0, slots := 0, locals := 0 }) (pc (dC, dI) [.ref h0] sz [(h0, .inr (6, [.ref tp, .int 0, .ref nw, .ref dr, .ref rd, .ref sc, .ref sk, .ref fl, .ref ps, .int 0, .int 0, .ref sh])), (nw, .inr (1, [.ref nm, .ref nb, .int 0, .int 0, .int 0]))] []) (va_Ql (fun (r : Int64) (_ : Unit) => r = 17) (fun _ _ => True) (fun _ => False)) 0 0 (fun _ => False) := by
  refine Met.ofW (cc := cX6_digest) (maxL := 6) (ret := (some .long)) (by decide +kernel) rfl ?_
  intro p e s m args below meth c s₁ B hml hv
  obtain ⟨rfl, hsz, hP, hK, hD0, hN⟩ := hv
  have hx := B.exec
  have hb := B.bytes
  have hr := B.returns
  have hts := fun w (h : w ∈ pw) => atoms_spec (ws := Cond.code yX6_digest cX6_digest 6 (some .long) :: pw) B.pre w (List.mem_cons_of_mem _ h)
  have hown : s.vm.findClass RX6 = some m.cls := findClass_of_methodNamed B.named
  have hlocks := B.notSynchronized
  subst hsz
  have hD := hD0
  obtain ⟨H, hHe⟩ : ∃ H : Heap, H = s.heap := ⟨_, rfl⟩
  have hS : va_S (fun _ => False) s.heap H [] := by rw [hHe]; exact va_S.rf
  rw [← hHe] at hP
  have hl := lv_entry ([.ref h0]) (n := 6) (Nat.le_of_ble_eq_true rfl)
  rw [lg_entry_eq]
  generalize (lg_sl ([.ref h0]) ++ List.replicate (6 - (lg_sl ([.ref h0])).length) Slot.unset).toArray = ls at hl ⊢
  have hl : lv_has ls 6 [(0, .ref h0)] := hl
  rw [← hHe]
  refine lv_ldc2 hx hb hown (hts _ pq1099) dX6_digest_0 ?_
  refine lv_lstore_n (lv' := [(1, .long 17), (0, .ref h0)]) hx hb dX6_digest_3 rfl hl (by decide) rfl (fun ls hl => ?_)
  refine lv_iconst (v := 0) hx hb dX6_digest_4 (by decide +kernel) ?_
  refine lv_istore_n (lv' := [(3, .int 0), (1, .long 17), (0, .ref h0)]) hx hb dX6_digest_5 rfl hl (by decide) rfl (fun ls hl => ?_)
  refine lv_iload_n hx hb dX6_digest_6 rfl (lv_at hl 0 rfl) ?_
  refine lv_aload_n hx hb dX6_digest_7 rfl (lv_at hl 2 rfl) ?_
  refine va_get (D := (dC, dI)) (ci := 6) (v := .ref nw) (C := RX6) (T := TX6) (N := 12) hx hb hts inX6 hown hK hP 0 rfl rfl 2 (by decide) (hts _ pq351) (fun _ h9 => h9) rfl dX6_digest_8 ?_
  refine va_get (D := (dC, dI)) (ci := 1) (v := .int 0) (C := RX1) (T := TX1) (N := 5) hx hb hts inX1 hown hK hP 1 rfl rfl 3 (by decide) (hts _ pq226) (fun _ h9 => h9) rfl dX6_digest_11 ?_
  refine lv_icmp_ge (tgt := 61) hx hb dX6_digest_14 (by decide) (fun c1 => ?_) (fun c1 => absurd (by decide +kernel) c1)
  refine lv_iconst (v := 0) hx hb dX6_digest_61 (by decide +kernel) ?_
  refine lv_istore_n (lv' := [(3, .int 0), (1, .long 17), (0, .ref h0)]) hx hb dX6_digest_62 rfl hl (by decide) rfl (fun ls hl => ?_)
  refine lv_iload_n hx hb dX6_digest_63 rfl (lv_at hl 0 rfl) ?_
  refine lv_aload_n hx hb dX6_digest_64 rfl (lv_at hl 2 rfl) ?_
  refine va_get (D := (dC, dI)) (ci := 6) (v := .ref nw) (C := RX6) (T := TX6) (N := 12) hx hb hts inX6 hown hK hP 0 rfl rfl 2 (by decide) (hts _ pq351) (fun _ h9 => h9) rfl dX6_digest_65 ?_
  refine va_get (D := (dC, dI)) (ci := 1) (v := .int 0) (C := RX1) (T := TX1) (N := 5) hx hb hts inX1 hown hK hP 1 rfl rfl 2 (by decide) (hts _ pq223) (fun _ h9 => h9) rfl dX6_digest_68 ?_
  refine lv_icmp_ge (tgt := 127) hx hb dX6_digest_71 (by decide) (fun c2 => ?_) (fun c2 => absurd (by decide +kernel) c2)
  refine lv_lload_n hx hb dX6_digest_127 rfl (lv_at hl 1 rfl) ?_
  exact W.lret (v := 17) hx hb hr (fun t ht hW => ⟨⟨17, (), rfl, rfl, trivial⟩, hS.F ht⟩) hS.2.2 dX6_digest_128

theorem rng_t {P : Prop} [Decidable P] {r a b : Int32} (h : r = if P then 0 else 1) (c : r = 0) : a = if P then a else b := by
  by_cases hp : P
  · rw [if_pos hp]
  · rw [if_neg hp] at h; rw [h] at c; exact absurd c (by decide +kernel)
theorem rng_n {P : Prop} [Decidable P] {r : Int32} (h : r = if P then 0 else 1) (c : ¬ r = 0) : ¬ P := fun hp => c (by rw [h, if_pos hp])
theorem rng_f {P : Prop} [Decidable P] {r a b : Int32} (h : r = if P then 0 else 1) (c : ¬ r = 0) : b = if P then a else b := (if_neg (rng_n h c)).symm
theorem in2 {x : Int32} (h : ¬ (x < 0 ∨ 1 < x)) : vp_in x 2 := by
  have h1 : ¬ x < 0 := fun q => h (Or.inl q)
  have h2 : ¬ 1 < x := fun q => h (Or.inr q)
  rcases nI_of2 (M := 1) (n := 1) (by decide +kernel) h1 (Int32.not_lt.mp h2) with ⟨j, hj, rfl⟩
  exact vp_in_nI (by omega) (by decide)

set_option maxHeartbeats 4000000 in
set_option maxRecDepth 100000 in
theorem c_X6_sieve (l : Launch) (dC : Nat → ClassId) (dI : Nat → Nat → Nat) (h0 tp nw dr rd sc sk fl ps sh nm nb : Nat) (sz : Nat) (p0 : Int32) : Met l yX6_sieve (.code yX6_sieve cX6_sieve 5 (some .int) :: pw) ({ frames := 1, cells := 0, slots := 0, locals := 21 }) (pc (dC, dI) [.ref h0, .int p0] sz [(h0, .inr (6, [.ref tp, .int 0, .ref nw, .ref dr, .ref rd, .ref sc, .ref sk, .ref fl, .ref ps, .int 0, .int 0, .ref sh])), (nw, .inr (1, [.ref nm, .ref nb, .int 0, .int 0, .int 0]))] []) (va_Qi (fun (r : Int32) (_ : Unit) => r = if p0 < 0 ∨ 2 < p0 then (-1) else 0) (fun _ _ => True) (fun _ => False)) 0 0 (fun _ => False) := by
  refine Met.ofW (cc := cX6_sieve) (maxL := 5) (ret := (some .int)) (by decide +kernel) rfl ?_
  intro p e s m args below meth c s₁ B hml hv
  obtain ⟨rfl, hsz, hP, hK, hD0, hN⟩ := hv
  have hx := B.exec
  have hb := B.bytes
  have hr := B.returns
  have hts := fun w (h : w ∈ pw) => atoms_spec (ws := Cond.code yX6_sieve cX6_sieve 5 (some .int) :: pw) B.pre w (List.mem_cons_of_mem _ h)
  have hown : s.vm.findClass RX6 = some m.cls := findClass_of_methodNamed B.named
  have hlocks := B.notSynchronized
  subst hsz
  have hD := hD0
  obtain ⟨H, hHe⟩ : ∃ H : Heap, H = s.heap := ⟨_, rfl⟩
  have hS : va_S (fun _ => False) s.heap H [] := by rw [hHe]; exact va_S.rf
  rw [← hHe] at hP
  have hl := lv_entry ([.ref h0, .int p0]) (n := 5) (Nat.le_of_ble_eq_true rfl)
  rw [lg_entry_eq]
  generalize (lg_sl ([.ref h0, .int p0]) ++ List.replicate (5 - (lg_sl ([.ref h0, .int p0])).length) Slot.unset).toArray = ls at hl ⊢
  have hl : lv_has ls 5 [(0, .ref h0), (1, .int p0)] := hl
  rw [← hHe]
  refine lv_iload_n hx hb dX6_sieve_0 rfl (lv_at hl 1 rfl) ?_
  refine lv_iconst (v := 2) hx hb dX6_sieve_1 (by decide +kernel) ?_
  have hPc := hP.sub (ws' := []) [] rfl
  have hDc := hD.sub (ws' := []) [] (by decide) rfl
  have hKc := hK.sub (tys' := []) [] rfl
  refine ro_i (va_runS (As := [.int p0, .int 2]) (rest := []) ⟨hx, hb, hml, hown, hts⟩ (c_X6_isFrom0To l dC dI  H.size p0 2 ) (va_cwS 2 hts (gS pq651 pq652 pq74 pq653) rfl rfl rfl (by decide +kernel) ⟨(Nat.le_of_ble_eq_true rfl), (Nat.le_of_ble_eq_true rfl)⟩) (pc_S hPc hDc hKc hN) rfl rfl hl.1 rfl (lv_room (Nat.le_of_ble_eq_true rfl)) dX6_sieve_2 ⟨(Nat.le_of_ble_eq_true rfl), (Nat.le_of_ble_eq_true rfl)⟩) hS hP (fun r1 H locs hr1 hP hS => ?_)
  refine lv_if_ne (tgt := 10) hx hb dX6_sieve_5 (by decide) (fun c2 => ?_) (fun c2 => ?_)
  · refine lv_iconst (v := 0) hx hb dX6_sieve_10 (by decide +kernel) ?_
    refine lv_istore_n (lv' := [(2, .int 0), (0, .ref h0), (1, .int p0)]) hx hb dX6_sieve_11 rfl hl (by decide) rfl (fun ls hl => ?_)
    refine lv_iconst (v := 0) hx hb dX6_sieve_12 (by decide +kernel) ?_
    refine lv_istore_n (lv' := [(3, .int 0), (2, .int 0), (0, .ref h0), (1, .int p0)]) hx hb dX6_sieve_13 rfl hl (by decide) rfl (fun ls hl => ?_)
    refine lv_iload_n hx hb dX6_sieve_14 rfl (lv_at hl 0 rfl) ?_
    refine lv_aload_n hx hb dX6_sieve_15 rfl (lv_at hl 2 rfl) ?_
    refine va_get (D := (dC, dI)) (ci := 6) (v := .ref nw) (C := RX6) (T := TX6) (N := 12) hx hb hts inX6 hown hK hP 0 rfl rfl 2 (by decide) (hts _ pq351) (fun _ h9 => h9) rfl dX6_sieve_16 ?_
    refine va_get (D := (dC, dI)) (ci := 1) (v := .int 0) (C := RX1) (T := TX1) (N := 5) hx hb hts inX1 hown hK hP 1 rfl rfl 3 (by decide) (hts _ pq226) (fun _ h9 => h9) rfl dX6_sieve_19 ?_
    refine lv_icmp_ge (tgt := 68) hx hb dX6_sieve_22 (by decide) (fun c3 => ?_) (fun c3 => absurd (by decide +kernel) c3)
    refine lv_iload_n hx hb dX6_sieve_68 rfl (lv_at hl 1 rfl) ?_
    exact W.iret (v := 0) hx hb hr (fun t ht hW => ⟨⟨0, (), rfl, (rng_f hr1 c2), trivial⟩, hS.F ht⟩) hS.2.2 dX6_sieve_69
  · refine lv_iconst (v := (-1)) hx hb dX6_sieve_8 (by decide +kernel) ?_
    exact W.iret (v := (-1)) hx hb hr (fun t ht hW => ⟨⟨(-1), (), rfl, (rng_t hr1 c2), trivial⟩, hS.F ht⟩) hS.2.2 dX6_sieve_9

set_option maxHeartbeats 4000000 in
set_option maxRecDepth 100000 in
theorem c_X6_contact (l : Launch) (dC : Nat → ClassId) (dI : Nat → Nat → Nat) (h0 tp nw dr rd sc sk fl ps sh nm nb : Nat) (sz : Nat) (p0 : Int32) : Met l yX6_contact (.code yX6_contact cX6_contact 5 (some .int) :: pw) ({ frames := 0, cells := 0, slots := 0, locals := 0 }) (pc (dC, dI) [.ref h0, .int p0] sz [(h0, .inr (6, [.ref tp, .int 0, .ref nw, .ref dr, .ref rd, .ref sc, .ref sk, .ref fl, .ref ps, .int 0, .int 0, .ref sh])), (nw, .inr (1, [.ref nm, .ref nb, .int 0, .int 0, .int 0]))] []) (va_Qi (fun (r : Int32) (_ : Unit) => r = if p0 < (-1) then (-1) else if p0 = (-1) then 0 else (-2)) (fun _ _ => True) (fun _ => False)) 0 0 (fun _ => False) := by
  refine Met.ofW (cc := cX6_contact) (maxL := 5) (ret := (some .int)) (by decide +kernel) rfl ?_
  intro p e s m args below meth c s₁ B hml hv
  obtain ⟨rfl, hsz, hP, hK, hD0, hN⟩ := hv
  have hx := B.exec
  have hb := B.bytes
  have hr := B.returns
  have hts := fun w (h : w ∈ pw) => atoms_spec (ws := Cond.code yX6_contact cX6_contact 5 (some .int) :: pw) B.pre w (List.mem_cons_of_mem _ h)
  have hown : s.vm.findClass RX6 = some m.cls := findClass_of_methodNamed B.named
  have hlocks := B.notSynchronized
  subst hsz
  have hD := hD0
  obtain ⟨H, hHe⟩ : ∃ H : Heap, H = s.heap := ⟨_, rfl⟩
  have hS : va_S (fun _ => False) s.heap H [] := by rw [hHe]; exact va_S.rf
  rw [← hHe] at hP
  have hl := lv_entry ([.ref h0, .int p0]) (n := 5) (Nat.le_of_ble_eq_true rfl)
  rw [lg_entry_eq]
  generalize (lg_sl ([.ref h0, .int p0]) ++ List.replicate (5 - (lg_sl ([.ref h0, .int p0])).length) Slot.unset).toArray = ls at hl ⊢
  have hl : lv_has ls 5 [(0, .ref h0), (1, .int p0)] := hl
  rw [← hHe]
  refine lv_iload_n hx hb dX6_contact_0 rfl (lv_at hl 1 rfl) ?_
  refine lv_iconst (v := (-1)) hx hb dX6_contact_1 (by decide +kernel) ?_
  refine lv_icmp_ge (tgt := 7) hx hb dX6_contact_2 (by decide) (fun c1 => ?_) (fun c1 => ?_)
  · refine lv_iconst (v := 0) hx hb dX6_contact_7 (by decide +kernel) ?_
    refine lv_istore_n (lv' := [(2, .int 0), (0, .ref h0), (1, .int p0)]) hx hb dX6_contact_8 rfl hl (by decide) rfl (fun ls hl => ?_)
    refine lv_iconst (v := 0) hx hb dX6_contact_9 (by decide +kernel) ?_
    refine lv_istore_n (lv' := [(3, .int 0), (2, .int 0), (0, .ref h0), (1, .int p0)]) hx hb dX6_contact_10 rfl hl (by decide) rfl (fun ls hl => ?_)
    refine lv_iload_n hx hb dX6_contact_11 rfl (lv_at hl 0 rfl) ?_
    refine lv_aload_n hx hb dX6_contact_12 rfl (lv_at hl 2 rfl) ?_
    refine va_get (D := (dC, dI)) (ci := 6) (v := .ref nw) (C := RX6) (T := TX6) (N := 12) hx hb hts inX6 hown hK hP 0 rfl rfl 2 (by decide) (hts _ pq351) (fun _ h9 => h9) rfl dX6_contact_13 ?_
    refine va_get (D := (dC, dI)) (ci := 1) (v := .int 0) (C := RX1) (T := TX1) (N := 5) hx hb hts inX1 hown hK hP 1 rfl rfl 3 (by decide) (hts _ pq226) (fun _ h9 => h9) rfl dX6_contact_16 ?_
    refine lv_icmp_ge (tgt := 82) hx hb dX6_contact_19 (by decide) (fun c2 => ?_) (fun c2 => absurd (by decide +kernel) c2)
    refine lv_iload_n hx hb dX6_contact_82 rfl (lv_at hl 3 rfl) ?_
    refine lv_iconst (v := (-1)) hx hb dX6_contact_83 (by decide +kernel) ?_
    refine lv_icmp_ne (tgt := 91) hx hb dX6_contact_84 (by decide) (fun c3 => ?_) (fun c3 => ?_)
    · refine lv_bipush (v := (-2)) hx hb dX6_contact_91 (by decide +kernel) ?_
      exact W.iret (v := (-2)) hx hb hr (fun t ht hW => ⟨⟨(-2), (), rfl, ((if_neg (Int32.not_lt.mpr c1)).trans (if_neg c3)).symm, trivial⟩, hS.F ht⟩) hS.2.2 dX6_contact_93
    · refine lv_iload_n hx hb dX6_contact_87 rfl (lv_at hl 1 rfl) ?_
      refine lv_goto (tgt := 93) hx hb dX6_contact_88 (by decide) ?_
      exact W.iret (v := 0) hx hb hr (fun t ht hW => ⟨⟨0, (), rfl, ((if_neg (Int32.not_lt.mpr c1)).trans (if_pos c3)).symm, trivial⟩, hS.F ht⟩) hS.2.2 dX6_contact_93
  · refine lv_iconst (v := (-1)) hx hb dX6_contact_5 (by decide +kernel) ?_
    exact W.iret (v := (-1)) hx hb hr (fun t ht hW => ⟨⟨(-1), (), rfl, (if_pos (Int32.not_le.mp c1)).symm, trivial⟩, hS.F ht⟩) hS.2.2 dX6_contact_6

set_option maxHeartbeats 4000000 in
set_option maxRecDepth 100000 in
theorem c_X6_end (l : Launch) (dC : Nat → ClassId) (dI : Nat → Nat → Nat) (h0 tp nw dr rd sc sk fl ps sh : Nat) (sz : Nat) (p0 : Int32) : Met l yX6_end (.code yX6_end cX6_end 2 (some .int) :: pw) ({ frames := 0, cells := 0, slots := 0, locals := 0 }) (pc (dC, dI) [.ref h0, .int p0] sz [(h0, .inr (6, [.ref tp, .int 0, .ref nw, .ref dr, .ref rd, .ref sc, .ref sk, .ref fl, .ref ps, .int 0, .int 0, .ref sh]))] []) (va_Qi (fun (r : Int32) (_ : Unit) => r = if p0 < 0 ∨ 0 < p0 then (-1) else p0) (fun _ _ => True) (va_A [(h0, .inr (6, [.ref tp, .int 0, .ref nw, .ref dr, .ref rd, .ref sc, .ref sk, .ref fl, .ref ps, .int 0, .int 0, .ref sh]))] sz)) 0 0 (va_A [(h0, .inr (6, [.ref tp, .int 0, .ref nw, .ref dr, .ref rd, .ref sc, .ref sk, .ref fl, .ref ps, .int 0, .int 0, .ref sh]))] sz) := by
  refine Met.ofW (cc := cX6_end) (maxL := 2) (ret := (some .int)) (by decide +kernel) rfl ?_
  intro p e s m args below meth c s₁ B hml hv
  obtain ⟨rfl, hsz, hP, hK, hD0, hN⟩ := hv
  have hx := B.exec
  have hb := B.bytes
  have hr := B.returns
  have hts := fun w (h : w ∈ pw) => atoms_spec (ws := Cond.code yX6_end cX6_end 2 (some .int) :: pw) B.pre w (List.mem_cons_of_mem _ h)
  have hown : s.vm.findClass RX6 = some m.cls := findClass_of_methodNamed B.named
  have hlocks := B.notSynchronized
  subst hsz
  have hD := hD0.self (sz := s.heap.size)
  generalize hAe : va_A [(h0, .inr (6, [.ref tp, .int 0, .ref nw, .ref dr, .ref rd, .ref sc, .ref sk, .ref fl, .ref ps, .int 0, .int 0, .ref sh]))] s.heap.size = A at hD ⊢
  have hA : ∀ q : Nat, s.heap.size ≤ q → A q := fun q h => by rw [← hAe]; exact Or.inr h
  obtain ⟨H, hHe⟩ : ∃ H : Heap, H = s.heap := ⟨_, rfl⟩
  have hS : va_S A s.heap H [] := by rw [hHe]; exact va_S.rf
  rw [← hHe] at hP
  have hl := lv_entry ([.ref h0, .int p0]) (n := 2) (Nat.le_of_ble_eq_true rfl)
  rw [lg_entry_eq]
  generalize (lg_sl ([.ref h0, .int p0]) ++ List.replicate (2 - (lg_sl ([.ref h0, .int p0])).length) Slot.unset).toArray = ls at hl ⊢
  have hl : lv_has ls 2 [(0, .ref h0), (1, .int p0)] := hl
  rw [← hHe]
  refine lv_iload_n hx hb dX6_end_0 rfl (lv_at hl 1 rfl) ?_
  refine lv_if_lt (tgt := 12) hx hb dX6_end_1 (by decide) (fun c1 => ?_) (fun c1 => ?_)
  · refine lv_iconst (v := (-1)) hx hb dX6_end_12 (by decide +kernel) ?_
    exact W.iret (v := (-1)) hx hb hr (fun t ht hW => ⟨⟨(-1), (), rfl, (if_pos (Or.inl c1)).symm, trivial⟩, hS.F ht⟩) hS.2.2 dX6_end_13
  · refine lv_iload_n hx hb dX6_end_4 rfl (lv_at hl 1 rfl) ?_
    refine lv_aload_n hx hb dX6_end_5 rfl (lv_at hl 0 rfl) ?_
    refine va_get (D := (dC, dI)) (ci := 6) (v := .int 0) (C := RX6) (T := TX6) (N := 12) hx hb hts inX6 hown hK hP 0 rfl rfl 1 (by decide) (hts _ pq350) (fun _ h9 => h9) rfl dX6_end_6 ?_
    refine lv_icmp_le (tgt := 14) hx hb dX6_end_9 (by decide) (fun c2 => ?_) (fun c2 => ?_)
    · refine lv_aload_n hx hb dX6_end_14 rfl (lv_at hl 0 rfl) ?_
      refine lv_iload_n hx hb dX6_end_15 rfl (lv_at hl 1 rfl) ?_
      refine va_put (D := (dC, dI)) (ci := 6) (v := .int p0) (ty := tyX6 1) (C := RX6) (T := TX6) (N := 12) hx hb hts inX6 tyX6 tyX6_ok nmX6 hown hK hP hD hS 0 rfl rfl 1 (by decide) (hts _ pq350) (fun _ h9 => h9) rfl (by decide +kernel) rfl rfl (Nat.le_of_ble_eq_true rfl) dX6_end_16 (fun H locs hP hD hS => ?_)
      have hP : va_P (dC, dI) vwCl [(h0, .inr (6, [.ref tp, .int p0, .ref nw, .ref dr, .ref rd, .ref sc, .ref sk, .ref fl, .ref ps, .int 0, .int 0, .ref sh]))] H := hP
      have hD : va_D A [(h0, .inr (6, [.ref tp, .int p0, .ref nw, .ref dr, .ref rd, .ref sc, .ref sk, .ref fl, .ref ps, .int 0, .int 0, .ref sh]))] := hD
      refine lv_iload_n hx hb dX6_end_19 rfl (lv_at hl 1 rfl) ?_
      exact W.iret (v := p0) hx hb hr (fun t ht hW => ⟨⟨p0, (), rfl, (if_neg (fun h => h.elim c1 (Int32.not_lt.mpr c2))).symm, trivial⟩, hS.F ht⟩) hS.2.2 dX6_end_20
    · refine lv_iconst (v := (-1)) hx hb dX6_end_12 (by decide +kernel) ?_
      exact W.iret (v := (-1)) hx hb hr (fun t ht hW => ⟨⟨(-1), (), rfl, (if_pos (Or.inr (Int32.not_le.mp c2))).symm, trivial⟩, hS.F ht⟩) hS.2.2 dX6_end_13

set_option maxHeartbeats 4000000 in
set_option maxRecDepth 100000 in
theorem c_X6_back (l : Launch) (dC : Nat → ClassId) (dI : Nat → Nat → Nat) (h0 tp nw dr rd sc sk fl ps sh nm nb : Nat) (kG : ClassId) (sz : Nat) (p0 : Int32) : Met l yX6_back (.code yX6_back cX6_back 3 (some .int) :: pw) ({ frames := 1, cells := 0, slots := 0, locals := 21 }) (pc (dC, dI) [.ref h0, .int p0] sz [(h0, .inr (6, [.ref tp, .int 0, .ref nw, .ref dr, .ref rd, .ref sc, .ref sk, .ref fl, .ref ps, .int 0, .int 0, .ref sh])), (nw, .inr (1, [.ref nm, .ref nb, .int 0, .int 0, .int 0])), (sh, .inl (kG, 2, .inr (.inr (.inr (.inr (fun _ => none))))))] [(kG, .object RX1)]) (va_Qi (fun (r : Int32) (_ : Unit) => r = if p0 < 0 ∨ 1 < p0 then (-1) else (-2)) (fun _ _ => True) (fun _ => False)) 0 0 (fun _ => False) := by
  refine Met.ofW (cc := cX6_back) (maxL := 3) (ret := (some .int)) (by decide +kernel) rfl ?_
  intro p e s m args below meth c s₁ B hml hv
  obtain ⟨rfl, hsz, hP, hK, hD0, hN⟩ := hv
  have hx := B.exec
  have hb := B.bytes
  have hr := B.returns
  have hts := fun w (h : w ∈ pw) => atoms_spec (ws := Cond.code yX6_back cX6_back 3 (some .int) :: pw) B.pre w (List.mem_cons_of_mem _ h)
  have hown : s.vm.findClass RX6 = some m.cls := findClass_of_methodNamed B.named
  have hlocks := B.notSynchronized
  subst hsz
  have hD := hD0
  obtain ⟨H, hHe⟩ : ∃ H : Heap, H = s.heap := ⟨_, rfl⟩
  have hS : va_S (fun _ => False) s.heap H [] := by rw [hHe]; exact va_S.rf
  rw [← hHe] at hP
  have hl := lv_entry ([.ref h0, .int p0]) (n := 3) (Nat.le_of_ble_eq_true rfl)
  rw [lg_entry_eq]
  generalize (lg_sl ([.ref h0, .int p0]) ++ List.replicate (3 - (lg_sl ([.ref h0, .int p0])).length) Slot.unset).toArray = ls at hl ⊢
  have hl : lv_has ls 3 [(0, .ref h0), (1, .int p0)] := hl
  rw [← hHe]
  refine lv_iload_n hx hb dX6_back_0 rfl (lv_at hl 1 rfl) ?_
  refine lv_iconst (v := 1) hx hb dX6_back_1 (by decide +kernel) ?_
  have hPc := hP.sub (ws' := []) [] rfl
  have hDc := hD.sub (ws' := []) [] (by decide) rfl
  have hKc := hK.sub (tys' := []) [] rfl
  refine ro_i (va_runS (As := [.int p0, .int 1]) (rest := []) ⟨hx, hb, hml, hown, hts⟩ (c_X6_isFrom0To l dC dI  H.size p0 1 ) (va_cwS 2 hts (gS pq651 pq652 pq74 pq653) rfl rfl rfl (by decide +kernel) ⟨(Nat.le_of_ble_eq_true rfl), (Nat.le_of_ble_eq_true rfl)⟩) (pc_S hPc hDc hKc hN) rfl rfl hl.1 rfl (lv_room (Nat.le_of_ble_eq_true rfl)) dX6_back_2 ⟨(Nat.le_of_ble_eq_true rfl), (Nat.le_of_ble_eq_true rfl)⟩) hS hP (fun r1 H locs hr1 hP hS => ?_)
  refine lv_if_ne (tgt := 10) hx hb dX6_back_5 (by decide) (fun c2 => ?_) (fun c2 => ?_)
  · refine lv_aload_n hx hb dX6_back_10 rfl (lv_at hl 0 rfl) ?_
    refine va_get (D := (dC, dI)) (ci := 6) (v := .ref sh) (C := RX6) (T := TX6) (N := 12) hx hb hts inX6 hown hK hP 0 rfl rfl 11 (by decide) (hts _ pq360) (fun _ h9 => h9) rfl dX6_back_11 ?_
    refine lv_iload_n hx hb dX6_back_14 rfl (lv_at hl 1 rfl) ?_
    refine va_aldq hx hb hK hP 2 0 rfl rfl (in2 (rng_n hr1 c2)) dX6_back_15 ?_
    refine W.eq (g2 := F0 m 16 ls [.null]) rfl ?_
    refine lv_astore_nN (lv' := [(2, .null), (0, .ref h0), (1, .int p0)]) hx hb dX6_back_16 rfl hl (by decide) rfl (fun ls hl => ?_)
    refine lv_aload_nN hx hb dX6_back_17 rfl (lv_at hl 0 rfl) ?_
    refine lv_ifnonnullN hx hb dX6_back_18 ?_
    refine lv_bipush (v := (-2)) hx hb dX6_back_21 (by decide +kernel) ?_
    exact W.iret (v := (-2)) hx hb hr (fun t ht hW => ⟨⟨(-2), (), rfl, (rng_f hr1 c2), trivial⟩, hS.F ht⟩) hS.2.2 dX6_back_23
  · refine lv_iconst (v := (-1)) hx hb dX6_back_8 (by decide +kernel) ?_
    exact W.iret (v := (-1)) hx hb hr (fun t ht hW => ⟨⟨(-1), (), rfl, (rng_t hr1 c2), trivial⟩, hS.F ht⟩) hS.2.2 dX6_back_9

set_option maxHeartbeats 4000000 in
set_option maxRecDepth 100000 in
theorem c_X1_dotsOfAll (l : Launch) (dC : Nat → ClassId) (dI : Nat → Nat → Nat) (h0 nm nb : Nat) (sz : Nat) : Met l yX1_dotsOfAll (.code yX1_dotsOfAll cX1_dotsOfAll 3 (some .int) :: pw) ({ frames := 0, cells := 0, slots := 0, locals := 0 }) (pc (dC, dI) [.ref h0] sz [(h0, .inr (1, [.ref nm, .ref nb, .int 0, .int 0, .int 0]))] []) (va_Qi (fun (r : Int32) (_ : Unit) => r = 0) (fun _ _ => True) (fun _ => False)) 0 0 (fun _ => False) := by
  refine Met.ofW (cc := cX1_dotsOfAll) (maxL := 3) (ret := (some .int)) (by decide +kernel) rfl ?_
  intro p e s m args below meth c s₁ B hml hv
  obtain ⟨rfl, hsz, hP, hK, hD0, hN⟩ := hv
  have hx := B.exec
  have hb := B.bytes
  have hr := B.returns
  have hts := fun w (h : w ∈ pw) => atoms_spec (ws := Cond.code yX1_dotsOfAll cX1_dotsOfAll 3 (some .int) :: pw) B.pre w (List.mem_cons_of_mem _ h)
  have hown : s.vm.findClass RX1 = some m.cls := findClass_of_methodNamed B.named
  have hlocks := B.notSynchronized
  subst hsz
  have hD := hD0
  obtain ⟨H, hHe⟩ : ∃ H : Heap, H = s.heap := ⟨_, rfl⟩
  have hS : va_S (fun _ => False) s.heap H [] := by rw [hHe]; exact va_S.rf
  rw [← hHe] at hP
  have hl := lv_entry ([.ref h0]) (n := 3) (Nat.le_of_ble_eq_true rfl)
  rw [lg_entry_eq]
  generalize (lg_sl ([.ref h0]) ++ List.replicate (3 - (lg_sl ([.ref h0])).length) Slot.unset).toArray = ls at hl ⊢
  have hl : lv_has ls 3 [(0, .ref h0)] := hl
  rw [← hHe]
  refine lv_iconst (v := 0) hx hb dX1_dotsOfAll_0 (by decide +kernel) ?_
  refine lv_istore_n (lv' := [(1, .int 0), (0, .ref h0)]) hx hb dX1_dotsOfAll_1 rfl hl (by decide) rfl (fun ls hl => ?_)
  refine lv_iconst (v := 0) hx hb dX1_dotsOfAll_2 (by decide +kernel) ?_
  refine lv_istore_n (lv' := [(2, .int 0), (1, .int 0), (0, .ref h0)]) hx hb dX1_dotsOfAll_3 rfl hl (by decide) rfl (fun ls hl => ?_)
  refine lv_iload_n hx hb dX1_dotsOfAll_4 rfl (lv_at hl 0 rfl) ?_
  refine lv_aload_n hx hb dX1_dotsOfAll_5 rfl (lv_at hl 2 rfl) ?_
  refine va_get (D := (dC, dI)) (ci := 1) (v := .int 0) (C := RX1) (T := TX1) (N := 5) hx hb hts inX1 hown hK hP 0 rfl rfl 2 (by decide) (hts _ pq221) (fun _ h9 => h9) rfl dX1_dotsOfAll_6 ?_
  refine lv_icmp_ge (tgt := 30) hx hb dX1_dotsOfAll_9 (by decide) (fun c1 => ?_) (fun c1 => absurd (by decide +kernel) c1)
  refine lv_iload_n hx hb dX1_dotsOfAll_30 rfl (lv_at hl 1 rfl) ?_
  exact W.iret (v := 0) hx hb hr (fun t ht hW => ⟨⟨0, (), rfl, rfl, trivial⟩, hS.F ht⟩) hS.2.2 dX1_dotsOfAll_31

set_option maxHeartbeats 4000000 in
set_option maxRecDepth 100000 in
theorem c_X6_count (l : Launch) (dC : Nat → ClassId) (dI : Nat → Nat → Nat) (h0 tp nw dr rd sc sk fl ps sh nm nb : Nat) (kG : ClassId) (sz : Nat) (p0 : Int32) : Met l yX6_count (.code yX6_count cX6_count 2 (some .int) :: pw) ({ frames := 1, cells := 0, slots := 0, locals := 22 }) (pc (dC, dI) [.ref h0, .int p0] sz [(h0, .inr (6, [.ref tp, .int 0, .ref nw, .ref dr, .ref rd, .ref sc, .ref sk, .ref fl, .ref ps, .int 0, .int 0, .ref sh])), (nw, .inr (1, [.ref nm, .ref nb, .int 0, .int 0, .int 0])), (sh, .inl (kG, 2, .inr (.inr (.inr (.inr (fun _ => none))))))] [(kG, .object RX1)]) (va_Qi (fun (r : Int32) (_ : Unit) => r = if p0.toInt < 0 ∨ 6 < p0.toInt then (-1) else 0) (fun _ _ => True) (fun _ => False)) 0 0 (fun _ => False) := by
  refine Met.ofW (cc := cX6_count) (maxL := 2) (ret := (some .int)) (by decide +kernel) rfl ?_
  intro p e s m args below meth c s₁ B hml hv
  obtain ⟨rfl, hsz, hP, hK, hD0, hN⟩ := hv
  have hx := B.exec
  have hb := B.bytes
  have hr := B.returns
  have hts := fun w (h : w ∈ pw) => atoms_spec (ws := Cond.code yX6_count cX6_count 2 (some .int) :: pw) B.pre w (List.mem_cons_of_mem _ h)
  have hown : s.vm.findClass RX6 = some m.cls := findClass_of_methodNamed B.named
  have hlocks := B.notSynchronized
  subst hsz
  have hD := hD0
  obtain ⟨H, hHe⟩ : ∃ H : Heap, H = s.heap := ⟨_, rfl⟩
  have hS : va_S (fun _ => False) s.heap H [] := by rw [hHe]; exact va_S.rf
  rw [← hHe] at hP
  have hl := lv_entry ([.ref h0, .int p0]) (n := 2) (Nat.le_of_ble_eq_true rfl)
  rw [lg_entry_eq]
  generalize (lg_sl ([.ref h0, .int p0]) ++ List.replicate (2 - (lg_sl ([.ref h0, .int p0])).length) Slot.unset).toArray = ls at hl ⊢
  have hl : lv_has ls 2 [(0, .ref h0), (1, .int p0)] := hl
  rw [← hHe]
  refine lv_iload_n hx hb dX6_count_0 rfl (lv_at hl 1 rfl) ?_
  rcases sw7 p0 with rfl | rfl | rfl | rfl | rfl | rfl | rfl | h1
  · refine lv_tableIn (off := 43) (tgt := 44) hx hb dX6_count_1 (by decide +kernel) (by decide +kernel) (by decide +kernel) (by decide) ?_
    refine lv_aload_n hx hb dX6_count_44 rfl (lv_at hl 0 rfl) ?_
    refine va_get (D := (dC, dI)) (ci := 6) (v := .ref nw) (C := RX6) (T := TX6) (N := 12) hx hb hts inX6 hown hK hP 0 rfl rfl 2 (by decide) (hts _ pq351) (fun _ h9 => h9) rfl dX6_count_45 ?_
    refine va_get (D := (dC, dI)) (ci := 1) (v := .int 0) (C := RX1) (T := TX1) (N := 5) hx hb hts inX1 hown hK hP 1 rfl rfl 2 (by decide) (hts _ pq223) (fun _ h9 => h9) rfl dX6_count_48 ?_
    exact W.iret (v := 0) hx hb hr (fun t ht hW => ⟨⟨0, (), rfl, by decide +kernel, trivial⟩, hS.F ht⟩) hS.2.2 dX6_count_51
  · refine lv_tableIn (off := 51) (tgt := 52) hx hb dX6_count_1 (by decide +kernel) (by decide +kernel) (by decide +kernel) (by decide) ?_
    refine lv_aload_n hx hb dX6_count_52 rfl (lv_at hl 0 rfl) ?_
    refine va_get (D := (dC, dI)) (ci := 6) (v := .ref nw) (C := RX6) (T := TX6) (N := 12) hx hb hts inX6 hown hK hP 0 rfl rfl 2 (by decide) (hts _ pq351) (fun _ h9 => h9) rfl dX6_count_53 ?_
    refine va_get (D := (dC, dI)) (ci := 1) (v := .int 0) (C := RX1) (T := TX1) (N := 5) hx hb hts inX1 hown hK hP 1 rfl rfl 3 (by decide) (hts _ pq226) (fun _ h9 => h9) rfl dX6_count_56 ?_
    exact W.iret (v := 0) hx hb hr (fun t ht hW => ⟨⟨0, (), rfl, by decide +kernel, trivial⟩, hS.F ht⟩) hS.2.2 dX6_count_59
  · refine lv_tableIn (off := 59) (tgt := 60) hx hb dX6_count_1 (by decide +kernel) (by decide +kernel) (by decide +kernel) (by decide) ?_
    refine lv_aload_n hx hb dX6_count_60 rfl (lv_at hl 0 rfl) ?_
    refine va_get (D := (dC, dI)) (ci := 6) (v := .ref nw) (C := RX6) (T := TX6) (N := 12) hx hb hts inX6 hown hK hP 0 rfl rfl 2 (by decide) (hts _ pq351) (fun _ h9 => h9) rfl dX6_count_61 ?_
    have hPc := hP.sub (ws' := [(nw, .inr (1, [.ref nm, .ref nb, .int 0, .int 0, .int 0]))]) [1] rfl
    have hDc := hD.sub (ws' := [(nw, .inr (1, [.ref nm, .ref nb, .int 0, .int 0, .int 0]))]) [1] (by decide) rfl
    have hKc := hK.sub (tys' := []) [] rfl
    refine ro_i (va_runV (As := []) (rest := []) ⟨hx, hb, hml, hown, hts⟩ (c_X1_dotsOfAll l dC dI nw nm nb H.size  ) (cwV 0 hts (gV pq1105 pq1106 pq1107 pq75 pq1108) rfl rfl rfl (by decide +kernel) ⟨(Nat.le_of_ble_eq_true rfl), (Nat.le_of_ble_eq_true rfl)⟩) (pc_V hPc hDc hKc hN (va_recv hK hP (ci := 1) (q0 := 1) rfl rfl)) rfl rfl hl.1 rfl (lv_room (Nat.le_of_ble_eq_true rfl)) dX6_count_64 ⟨(Nat.le_of_ble_eq_true rfl), (Nat.le_of_ble_eq_true rfl)⟩) hS hP (fun r2 H locs hr2 hP hS => ?_)
    subst hr2
    exact W.iret (v := 0) hx hb hr (fun t ht hW => ⟨⟨0, (), rfl, by decide +kernel, trivial⟩, hS.F ht⟩) hS.2.2 dX6_count_67
  · refine lv_tableIn (off := 67) (tgt := 68) hx hb dX6_count_1 (by decide +kernel) (by decide +kernel) (by decide +kernel) (by decide) ?_
    refine lv_aload_n hx hb dX6_count_68 rfl (lv_at hl 0 rfl) ?_
    refine va_get (D := (dC, dI)) (ci := 6) (v := .int 0) (C := RX6) (T := TX6) (N := 12) hx hb hts inX6 hown hK hP 0 rfl rfl 10 (by decide) (hts _ pq359) (fun _ h9 => h9) rfl dX6_count_69 ?_
    exact W.iret (v := 0) hx hb hr (fun t ht hW => ⟨⟨0, (), rfl, by decide +kernel, trivial⟩, hS.F ht⟩) hS.2.2 dX6_count_72
  · refine lv_tableIn (off := 72) (tgt := 73) hx hb dX6_count_1 (by decide +kernel) (by decide +kernel) (by decide +kernel) (by decide) ?_
    refine lv_aload_n hx hb dX6_count_73 rfl (lv_at hl 0 rfl) ?_
    refine va_get (D := (dC, dI)) (ci := 6) (v := .int 0) (C := RX6) (T := TX6) (N := 12) hx hb hts inX6 hown hK hP 0 rfl rfl 1 (by decide) (hts _ pq350) (fun _ h9 => h9) rfl dX6_count_74 ?_
    exact W.iret (v := 0) hx hb hr (fun t ht hW => ⟨⟨0, (), rfl, by decide +kernel, trivial⟩, hS.F ht⟩) hS.2.2 dX6_count_77
  · refine lv_tableIn (off := 77) (tgt := 78) hx hb dX6_count_1 (by decide +kernel) (by decide +kernel) (by decide +kernel) (by decide) ?_
    refine lv_aload_n hx hb dX6_count_78 rfl (lv_at hl 0 rfl) ?_
    refine va_get (D := (dC, dI)) (ci := 6) (v := .ref sh) (C := RX6) (T := TX6) (N := 12) hx hb hts inX6 hown hK hP 0 rfl rfl 11 (by decide) (hts _ pq360) (fun _ h9 => h9) rfl dX6_count_79 ?_
    refine lv_iconst (v := 0) hx hb dX6_count_82 (by decide +kernel) ?_
    refine va_aldq hx hb hK hP 2 0 rfl rfl (in_d (by decide +kernel)) dX6_count_83 ?_
    refine W.eq (g2 := F0 m 84 ls [.null]) rfl ?_
    refine lv_ifnullN (tgt := 91) hx hb dX6_count_84 (by decide) ?_
    refine lv_iconst (v := 0) hx hb dX6_count_91 (by decide +kernel) ?_
    refine lv_aload_n hx hb dX6_count_92 rfl (lv_at hl 0 rfl) ?_
    refine va_get (D := (dC, dI)) (ci := 6) (v := .ref sh) (C := RX6) (T := TX6) (N := 12) hx hb hts inX6 hown hK hP 0 rfl rfl 11 (by decide) (hts _ pq360) (fun _ h9 => h9) rfl dX6_count_93 ?_
    refine lv_iconst (v := 1) hx hb dX6_count_96 (by decide +kernel) ?_
    refine va_aldq hx hb hK hP 2 0 rfl rfl (in_d (by decide +kernel)) dX6_count_97 ?_
    refine W.eq (g2 := F0 m 98 ls [.null, .int 0]) rfl ?_
    refine lv_ifnullN (tgt := 105) hx hb dX6_count_98 (by decide) ?_
    refine lv_iconst (v := 0) hx hb dX6_count_105 (by decide +kernel) ?_
    refine lv_iadd hx hb dX6_count_106 ?_
    refine lv_topi (fun z3 ez3 => ?_)
    obtain rfl : z3 = 0 := ez3.trans (by decide +kernel)
    exact W.iret (v := 0) hx hb hr (fun t ht hW => ⟨⟨0, (), rfl, by decide +kernel, trivial⟩, hS.F ht⟩) hS.2.2 dX6_count_107
  · refine lv_tableIn (off := 107) (tgt := 108) hx hb dX6_count_1 (by decide +kernel) (by decide +kernel) (by decide +kernel) (by decide) ?_
    refine lv_aload_n hx hb dX6_count_108 rfl (lv_at hl 0 rfl) ?_
    refine va_get (D := (dC, dI)) (ci := 6) (v := .ref nw) (C := RX6) (T := TX6) (N := 12) hx hb hts inX6 hown hK hP 0 rfl rfl 2 (by decide) (hts _ pq351) (fun _ h9 => h9) rfl dX6_count_109 ?_
    refine va_get (D := (dC, dI)) (ci := 1) (v := .int 0) (C := RX1) (T := TX1) (N := 5) hx hb hts inX1 hown hK hP 1 rfl rfl 4 (by decide) (hts _ pq229) (fun _ h9 => h9) rfl dX6_count_112 ?_
    exact W.iret (v := 0) hx hb hr (fun t ht hW => ⟨⟨0, (), rfl, by decide +kernel, trivial⟩, hS.F ht⟩) hS.2.2 dX6_count_115
  · refine lv_tableOut (tgt := 116) hx hb dX6_count_1 h1 (by decide) ?_
    refine lv_iconst (v := (-1)) hx hb dX6_count_116 (by decide +kernel) ?_
    exact W.iret (v := (-1)) hx hb hr (fun t ht hW => ⟨⟨(-1), (), rfl, (if_pos h1).symm, trivial⟩, hS.F ht⟩) hS.2.2 dX6_count_117
