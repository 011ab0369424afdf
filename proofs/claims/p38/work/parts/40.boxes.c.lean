abbrev cX7_island : ByteArray := prog_9_method_110_code
abbrev cX7_mask : ByteArray := prog_9_method_89_code
def yX7_island : MethodName := ⟨RX7, "island", "(III)I"⟩
def yX7_mask : MethodName := ⟨RX7, "mask", "(II)I"⟩
theorem dX7_island_0 : decode cX7_island 0 = .ok (.aload_n 0, 1) := by decide +kernel
theorem dX7_island_1 : decode cX7_island 1 = .ok (.iload_n 1, 1) := by decide +kernel
theorem dX7_island_2 : decode cX7_island 2 = .ok (.invokevirtual 301, 3) := by decide +kernel
theorem dX7_island_5 : decode cX7_island 5 = .ok (.ifCond .ne 5, 3) := by decide +kernel
theorem dX7_island_8 : decode cX7_island 8 = .ok (.iconst (-1), 1) := by decide +kernel
theorem dX7_island_9 : decode cX7_island 9 = .ok (.ireturn, 1) := by decide +kernel
theorem dX7_island_10 : decode cX7_island 10 = .ok (.aload_n 0, 1) := by decide +kernel
theorem dX7_island_11 : decode cX7_island 11 = .ok (.iload_n 1, 1) := by decide +kernel
theorem dX7_island_12 : decode cX7_island 12 = .ok (.iconst 1, 1) := by decide +kernel
theorem dX7_island_13 : decode cX7_island 13 = .ok (.invokevirtual 364, 3) := by decide +kernel
theorem dX7_island_16 : decode cX7_island 16 = .ok (.iload_n 2, 1) := by decide +kernel
theorem dX7_island_17 : decode cX7_island 17 = .ok (.iconst (-1), 1) := by decide +kernel
theorem dX7_island_18 : decode cX7_island 18 = .ok (.if_icmp .ne 16, 3) := by decide +kernel
theorem dX7_island_21 : decode cX7_island 21 = .ok (.iload_n 3, 1) := by decide +kernel
theorem dX7_island_22 : decode cX7_island 22 = .ok (.ifCond .ne 10, 3) := by decide +kernel
theorem dX7_island_25 : decode cX7_island 25 = .ok (.aload_n 0, 1) := by decide +kernel
theorem dX7_island_26 : decode cX7_island 26 = .ok (.getfield 355, 3) := by decide +kernel
theorem dX7_island_29 : decode cX7_island 29 = .ok (.goto 4, 3) := by decide +kernel
theorem dX7_island_32 : decode cX7_island 32 = .ok (.iconst (-1), 1) := by decide +kernel
theorem dX7_island_33 : decode cX7_island 33 = .ok (.ireturn, 1) := by decide +kernel
theorem dX7_island_34 : decode cX7_island 34 = .ok (.iload_n 2, 1) := by decide +kernel
theorem dX7_island_35 : decode cX7_island 35 = .ok (.i2l, 1) := by decide +kernel
theorem dX7_island_36 : decode cX7_island 36 = .ok (.lconst 0, 1) := by decide +kernel
theorem dX7_island_37 : decode cX7_island 37 = .ok (.aload_n 0, 1) := by decide +kernel
theorem dX7_island_38 : decode cX7_island 38 = .ok (.getfield 355, 3) := by decide +kernel
theorem dX7_island_41 : decode cX7_island 41 = .ok (.iconst 1, 1) := by decide +kernel
theorem dX7_island_42 : decode cX7_island 42 = .ok (.isub, 1) := by decide +kernel
theorem dX7_island_43 : decode cX7_island 43 = .ok (.i2l, 1) := by decide +kernel
theorem dX7_island_44 : decode cX7_island 44 = .ok (.invokestatic 96, 3) := by decide +kernel
theorem dX7_island_47 : decode cX7_island 47 = .ok (.ifCond .eq 15, 3) := by decide +kernel
theorem dX7_island_50 : decode cX7_island 50 = .ok (.iload_n 3, 1) := by decide +kernel
theorem dX7_island_51 : decode cX7_island 51 = .ok (.i2l, 1) := by decide +kernel
theorem dX7_island_52 : decode cX7_island 52 = .ok (.lconst 0, 1) := by decide +kernel
theorem dX7_island_53 : decode cX7_island 53 = .ok (.ldc2_w 411, 3) := by decide +kernel
theorem dX7_island_56 : decode cX7_island 56 = .ok (.invokestatic 96, 3) := by decide +kernel
theorem dX7_island_59 : decode cX7_island 59 = .ok (.ifCond .ne 5, 3) := by decide +kernel
theorem dX7_island_62 : decode cX7_island 62 = .ok (.iconst (-1), 1) := by decide +kernel
theorem dX7_island_63 : decode cX7_island 63 = .ok (.ireturn, 1) := by decide +kernel
theorem dX7_island_64 : decode cX7_island 64 = .ok (.iconst 0, 1) := by decide +kernel
theorem dX7_island_65 : decode cX7_island 65 = .ok (.istore 4, 2) := by decide +kernel
theorem dX7_island_67 : decode cX7_island 67 = .ok (.bipush 100, 2) := by decide +kernel
theorem dX7_island_69 : decode cX7_island 69 = .ok (.istore 5, 2) := by decide +kernel
theorem dX7_island_71 : decode cX7_island 71 = .ok (.bipush 40, 2) := by decide +kernel
theorem dX7_island_73 : decode cX7_island 73 = .ok (.istore 6, 2) := by decide +kernel
theorem dX7_island_75 : decode cX7_island 75 = .ok (.iconst 0, 1) := by decide +kernel
theorem dX7_island_76 : decode cX7_island 76 = .ok (.istore 7, 2) := by decide +kernel
theorem dX7_island_78 : decode cX7_island 78 = .ok (.iconst 0, 1) := by decide +kernel
theorem dX7_island_79 : decode cX7_island 79 = .ok (.istore 8, 2) := by decide +kernel
theorem dX7_island_81 : decode cX7_island 81 = .ok (.iconst 0, 1) := by decide +kernel
theorem dX7_island_82 : decode cX7_island 82 = .ok (.istore 9, 2) := by decide +kernel
theorem dX7_island_84 : decode cX7_island 84 = .ok (.iload 9, 2) := by decide +kernel
theorem dX7_island_86 : decode cX7_island 86 = .ok (.aload_n 0, 1) := by decide +kernel
theorem dX7_island_87 : decode cX7_island 87 = .ok (.iload_n 1, 1) := by decide +kernel
theorem dX7_island_88 : decode cX7_island 88 = .ok (.invokevirtual 205, 3) := by decide +kernel
theorem dX7_island_91 : decode cX7_island 91 = .ok (.if_icmp .ge 87, 3) := by decide +kernel
theorem dX7_island_94 : decode cX7_island 94 = .ok (.iconst 0, 1) := by decide +kernel
theorem dX7_island_95 : decode cX7_island 95 = .ok (.istore 10, 2) := by decide +kernel
theorem dX7_island_97 : decode cX7_island 97 = .ok (.iload 10, 2) := by decide +kernel
theorem dX7_island_99 : decode cX7_island 99 = .ok (.aload_n 0, 1) := by decide +kernel
theorem dX7_island_100 : decode cX7_island 100 = .ok (.iload_n 1, 1) := by decide +kernel
theorem dX7_island_101 : decode cX7_island 101 = .ok (.invokevirtual 202, 3) := by decide +kernel
theorem dX7_island_104 : decode cX7_island 104 = .ok (.if_icmp .ge 68, 3) := by decide +kernel
theorem dX7_island_107 : decode cX7_island 107 = .ok (.aload_n 0, 1) := by decide +kernel
theorem dX7_island_108 : decode cX7_island 108 = .ok (.getfield 58, 3) := by decide +kernel
theorem dX7_island_111 : decode cX7_island 111 = .ok (.bipush 100, 2) := by decide +kernel
theorem dX7_island_113 : decode cX7_island 113 = .ok (.iload 9, 2) := by decide +kernel
theorem dX7_island_115 : decode cX7_island 115 = .ok (.imul, 1) := by decide +kernel
theorem dX7_island_116 : decode cX7_island 116 = .ok (.iload 10, 2) := by decide +kernel
theorem dX7_island_118 : decode cX7_island 118 = .ok (.iadd, 1) := by decide +kernel
theorem dX7_island_119 : decode cX7_island 119 = .ok (.iaload, 1) := by decide +kernel
theorem dX7_island_120 : decode cX7_island 120 = .ok (.iload_n 2, 1) := by decide +kernel
theorem dX7_island_121 : decode cX7_island 121 = .ok (.if_icmp .eq 6, 3) := by decide +kernel
theorem dX7_island_124 : decode cX7_island 124 = .ok (.goto 42, 3) := by decide +kernel
theorem dX7_island_127 : decode cX7_island 127 = .ok (.iinc 4 1, 3) := by decide +kernel
theorem dX7_island_130 : decode cX7_island 130 = .ok (.iload 5, 2) := by decide +kernel
theorem dX7_island_132 : decode cX7_island 132 = .ok (.iload 10, 2) := by decide +kernel
theorem dX7_island_134 : decode cX7_island 134 = .ok (.invokestatic 121, 3) := by decide +kernel
theorem dX7_island_137 : decode cX7_island 137 = .ok (.istore 5, 2) := by decide +kernel
theorem dX7_island_139 : decode cX7_island 139 = .ok (.iload 6, 2) := by decide +kernel
theorem dX7_island_141 : decode cX7_island 141 = .ok (.iload 9, 2) := by decide +kernel
theorem dX7_island_143 : decode cX7_island 143 = .ok (.invokestatic 121, 3) := by decide +kernel
theorem dX7_island_146 : decode cX7_island 146 = .ok (.istore 6, 2) := by decide +kernel
theorem dX7_island_148 : decode cX7_island 148 = .ok (.iload 7, 2) := by decide +kernel
theorem dX7_island_150 : decode cX7_island 150 = .ok (.iload 10, 2) := by decide +kernel
theorem dX7_island_152 : decode cX7_island 152 = .ok (.invokestatic 219, 3) := by decide +kernel
theorem dX7_island_155 : decode cX7_island 155 = .ok (.istore 7, 2) := by decide +kernel
theorem dX7_island_157 : decode cX7_island 157 = .ok (.iload 8, 2) := by decide +kernel
theorem dX7_island_159 : decode cX7_island 159 = .ok (.iload 9, 2) := by decide +kernel
theorem dX7_island_161 : decode cX7_island 161 = .ok (.invokestatic 219, 3) := by decide +kernel
theorem dX7_island_164 : decode cX7_island 164 = .ok (.istore 8, 2) := by decide +kernel
theorem dX7_island_166 : decode cX7_island 166 = .ok (.iinc 10 1, 3) := by decide +kernel
theorem dX7_island_169 : decode cX7_island 169 = .ok (.goto (-72), 3) := by decide +kernel
theorem dX7_island_172 : decode cX7_island 172 = .ok (.iinc 9 1, 3) := by decide +kernel
theorem dX7_island_175 : decode cX7_island 175 = .ok (.goto (-91), 3) := by decide +kernel
theorem dX7_island_178 : decode cX7_island 178 = .ok (.iload_n 3, 1) := by decide +kernel
theorem dX7_island_179 : decode cX7_island 179 = .ok (.ifCond .ne 8, 3) := by decide +kernel
theorem dX7_island_182 : decode cX7_island 182 = .ok (.iload 4, 2) := by decide +kernel
theorem dX7_island_184 : decode cX7_island 184 = .ok (.goto 35, 3) := by decide +kernel
theorem dX7_island_187 : decode cX7_island 187 = .ok (.iload_n 3, 1) := by decide +kernel
theorem dX7_island_188 : decode cX7_island 188 = .ok (.iconst 1, 1) := by decide +kernel
theorem dX7_island_189 : decode cX7_island 189 = .ok (.if_icmp .ne 8, 3) := by decide +kernel
theorem dX7_island_192 : decode cX7_island 192 = .ok (.iload 5, 2) := by decide +kernel
theorem dX7_island_194 : decode cX7_island 194 = .ok (.goto 25, 3) := by decide +kernel
theorem dX7_island_197 : decode cX7_island 197 = .ok (.iload_n 3, 1) := by decide +kernel
theorem dX7_island_198 : decode cX7_island 198 = .ok (.iconst 2, 1) := by decide +kernel
theorem dX7_island_199 : decode cX7_island 199 = .ok (.if_icmp .ne 8, 3) := by decide +kernel
theorem dX7_island_202 : decode cX7_island 202 = .ok (.iload 6, 2) := by decide +kernel
theorem dX7_island_204 : decode cX7_island 204 = .ok (.goto 15, 3) := by decide +kernel
theorem dX7_island_207 : decode cX7_island 207 = .ok (.iload_n 3, 1) := by decide +kernel
theorem dX7_island_208 : decode cX7_island 208 = .ok (.iconst 3, 1) := by decide +kernel
theorem dX7_island_209 : decode cX7_island 209 = .ok (.if_icmp .ne 8, 3) := by decide +kernel
theorem dX7_island_212 : decode cX7_island 212 = .ok (.iload 7, 2) := by decide +kernel
theorem dX7_island_214 : decode cX7_island 214 = .ok (.goto 5, 3) := by decide +kernel
theorem dX7_island_217 : decode cX7_island 217 = .ok (.iload 8, 2) := by decide +kernel
theorem dX7_island_219 : decode cX7_island 219 = .ok (.ireturn, 1) := by decide +kernel
theorem dX7_mask_0 : decode cX7_mask 0 = .ok (.aload_n 0, 1) := by decide +kernel
theorem dX7_mask_1 : decode cX7_mask 1 = .ok (.iload_n 1, 1) := by decide +kernel
theorem dX7_mask_2 : decode cX7_mask 2 = .ok (.invokevirtual 301, 3) := by decide +kernel
theorem dX7_mask_5 : decode cX7_mask 5 = .ok (.ifCond .ne 5, 3) := by decide +kernel
theorem dX7_mask_8 : decode cX7_mask 8 = .ok (.iconst (-1), 1) := by decide +kernel
theorem dX7_mask_9 : decode cX7_mask 9 = .ok (.ireturn, 1) := by decide +kernel
theorem dX7_mask_10 : decode cX7_mask 10 = .ok (.iload_n 2, 1) := by decide +kernel
theorem dX7_mask_11 : decode cX7_mask 11 = .ok (.tableswitch 111 0 9 #[53, 59, 65, 71, 71, 71, 71, 93, 99, 105], 53) := by decide +kernel
theorem dX7_mask_64 : decode cX7_mask 64 = .ok (.aload_n 0, 1) := by decide +kernel
theorem dX7_mask_65 : decode cX7_mask 65 = .ok (.iload_n 1, 1) := by decide +kernel
theorem dX7_mask_66 : decode cX7_mask 66 = .ok (.invokevirtual 202, 3) := by decide +kernel
theorem dX7_mask_69 : decode cX7_mask 69 = .ok (.ireturn, 1) := by decide +kernel
theorem dX7_mask_70 : decode cX7_mask 70 = .ok (.aload_n 0, 1) := by decide +kernel
theorem dX7_mask_71 : decode cX7_mask 71 = .ok (.iload_n 1, 1) := by decide +kernel
theorem dX7_mask_72 : decode cX7_mask 72 = .ok (.invokevirtual 205, 3) := by decide +kernel
theorem dX7_mask_75 : decode cX7_mask 75 = .ok (.ireturn, 1) := by decide +kernel
theorem dX7_mask_76 : decode cX7_mask 76 = .ok (.aload_n 0, 1) := by decide +kernel
theorem dX7_mask_77 : decode cX7_mask 77 = .ok (.iload_n 1, 1) := by decide +kernel
theorem dX7_mask_78 : decode cX7_mask 78 = .ok (.invokevirtual 321, 3) := by decide +kernel
theorem dX7_mask_81 : decode cX7_mask 81 = .ok (.ireturn, 1) := by decide +kernel
theorem dX7_mask_82 : decode cX7_mask 82 = .ok (.aload_n 0, 1) := by decide +kernel
theorem dX7_mask_83 : decode cX7_mask 83 = .ok (.iload_n 1, 1) := by decide +kernel
theorem dX7_mask_84 : decode cX7_mask 84 = .ok (.invokevirtual 346, 3) := by decide +kernel
theorem dX7_mask_87 : decode cX7_mask 87 = .ok (.ifCond .eq 14, 3) := by decide +kernel
theorem dX7_mask_90 : decode cX7_mask 90 = .ok (.aload_n 0, 1) := by decide +kernel
theorem dX7_mask_91 : decode cX7_mask 91 = .ok (.getfield 55, 3) := by decide +kernel
theorem dX7_mask_94 : decode cX7_mask 94 = .ok (.iload_n 2, 1) := by decide +kernel
theorem dX7_mask_95 : decode cX7_mask 95 = .ok (.iconst 3, 1) := by decide +kernel
theorem dX7_mask_96 : decode cX7_mask 96 = .ok (.isub, 1) := by decide +kernel
theorem dX7_mask_97 : decode cX7_mask 97 = .ok (.iaload, 1) := by decide +kernel
theorem dX7_mask_98 : decode cX7_mask 98 = .ok (.goto 5, 3) := by decide +kernel
theorem dX7_mask_101 : decode cX7_mask 101 = .ok (.bipush (-2), 2) := by decide +kernel
theorem dX7_mask_103 : decode cX7_mask 103 = .ok (.ireturn, 1) := by decide +kernel
theorem dX7_mask_104 : decode cX7_mask 104 = .ok (.aload_n 0, 1) := by decide +kernel
theorem dX7_mask_105 : decode cX7_mask 105 = .ok (.iload_n 1, 1) := by decide +kernel
theorem dX7_mask_106 : decode cX7_mask 106 = .ok (.invokevirtual 371, 3) := by decide +kernel
theorem dX7_mask_109 : decode cX7_mask 109 = .ok (.ireturn, 1) := by decide +kernel
theorem dX7_mask_110 : decode cX7_mask 110 = .ok (.aload_n 0, 1) := by decide +kernel
theorem dX7_mask_111 : decode cX7_mask 111 = .ok (.iload_n 1, 1) := by decide +kernel
theorem dX7_mask_112 : decode cX7_mask 112 = .ok (.invokevirtual 374, 3) := by decide +kernel
theorem dX7_mask_115 : decode cX7_mask 115 = .ok (.ireturn, 1) := by decide +kernel
theorem dX7_mask_116 : decode cX7_mask 116 = .ok (.aload_n 0, 1) := by decide +kernel
theorem dX7_mask_117 : decode cX7_mask 117 = .ok (.iload_n 1, 1) := by decide +kernel
theorem dX7_mask_118 : decode cX7_mask 118 = .ok (.invokevirtual 377, 3) := by decide +kernel
theorem dX7_mask_121 : decode cX7_mask 121 = .ok (.ireturn, 1) := by decide +kernel
theorem dX7_mask_122 : decode cX7_mask 122 = .ok (.iconst (-1), 1) := by decide +kernel
theorem dX7_mask_123 : decode cX7_mask 123 = .ok (.ireturn, 1) := by decide +kernel
set_option maxRecDepth 100000 in
theorem pq56 : Cond.selects RX7 yX7_islandsOf yX7_islandsOf ∈ pw := pw_mem (i := 56) (by decide +kernel) rfl
set_option maxRecDepth 100000 in
theorem pq59 : Cond.selects RX7 yX7_holesOf yX7_holesOf ∈ pw := pw_mem (i := 59) (by decide +kernel) rfl
set_option maxRecDepth 100000 in
theorem pq61 : Cond.selects RX7 yX7_edgeOf yX7_edgeOf ∈ pw := pw_mem (i := 61) (by decide +kernel) rfl
set_option maxRecDepth 100000 in
theorem pq1530 : Cond.methodLink RX7 371 yX7_islandsOf ∈ pw := pw_mem (i := 1530) (by decide +kernel) rfl
set_option maxRecDepth 100000 in
theorem pq1532 : Cond.instanceMethod yX7_islandsOf ∈ pw := pw_mem (i := 1532) (by decide +kernel) rfl
set_option maxRecDepth 100000 in
theorem pq1533 : Cond.code yX7_islandsOf cX7_islandsOf 2 (some .int) ∈ pw := pw_mem (i := 1533) (by rfl) rfl
set_option maxRecDepth 100000 in
theorem pq1542 : Cond.methodLink RX7 374 yX7_holesOf ∈ pw := pw_mem (i := 1542) (by decide +kernel) rfl
set_option maxRecDepth 100000 in
theorem pq1544 : Cond.instanceMethod yX7_holesOf ∈ pw := pw_mem (i := 1544) (by decide +kernel) rfl
set_option maxRecDepth 100000 in
theorem pq1545 : Cond.code yX7_holesOf cX7_holesOf 4 (some .int) ∈ pw := pw_mem (i := 1545) (by rfl) rfl
set_option maxRecDepth 100000 in
theorem pq1550 : Cond.methodLink RX7 377 yX7_edgeOf ∈ pw := pw_mem (i := 1550) (by decide +kernel) rfl
set_option maxRecDepth 100000 in
theorem pq1552 : Cond.instanceMethod yX7_edgeOf ∈ pw := pw_mem (i := 1552) (by decide +kernel) rfl
set_option maxRecDepth 100000 in
theorem pq1553 : Cond.code yX7_edgeOf cX7_edgeOf 5 (some .int) ∈ pw := pw_mem (i := 1553) (by rfl) rfl
set_option maxRecDepth 100000 in
theorem pq1657 : Cond.constantLong RX7 411 (4) ∈ pw := pw_mem (i := 1657) (by decide +kernel) rfl
set_option maxHeartbeats 4000000 in
set_option maxRecDepth 100000 in
theorem s_X7_mask (l : Launch) (dC : Nat → ClassId) (dI : Nat → Nat → Nat) (cs : Nat → ClassId) (L : List Nat) (K G : Nat → Nat) (Q : Nat → Nat → Option Nat) (hQ : Sv L K G Q) (x0 m0 : Nat) (tx : GT) (tm : GT × Int) (sz : Nat) (I : Nat → Nat → Int32) (J : Nat → Nat → Int64) (hI : Iv L K x0 m0 tx tm I) (p0 : Nat) (hLp0 : p0 ∈ L) (hKp0 : K p0 = 7) (p1 : Int32) (p2 : Int32) : Met l yX7_mask (.code yX7_mask cX7_mask 3 (some .int) :: pw) ({ frames := 5, cells := 0, slots := 0, locals := 122 }) (sP (dC, dI) cs [.ref p0, .int p1, .int p2] sz L K I J Q) (va_Qi (fun (r : Int32) (_ : Unit) => True) (fun _ t => sB (dC, dI) cs L K Q (fun I1 J1 => Iv L K x0 m0 tx tm I1 ∧ (∀ b, ¬ (K b = 7 ∨ K b = 11 ∨ K b = 26 ∨ K b = 27) → I1 b = I b) ∧ I1 p0 11 = I p0 11 ∧ (∀ b, K b = 0 ∨ K b = 1 ∨ K b = 3 ∨ K b = 6 → I1 b = I b) ∧ (∀ σ : Sx, cmA Q I J p0 σ → cmA Q I1 J1 p0 σ) ∧ J1 = J) t) (fun q => q ∈ L ∨ sz ≤ q)) 0 0 (fun q => q ∈ L ∨ sz ≤ q) := by
  refine Met.ofW (cc := cX7_mask) (maxL := 3) (ret := (some .int)) (by decide +kernel) rfl ?_
  intro p e s m args below meth c s₁ B hml hv
  obtain ⟨rfl, hsz, hP, hK, hD0, hN⟩ := hv
  have hx := B.exec
  have hb := B.bytes
  have hr := B.returns
  have hts := fun w (h : w ∈ pw) => atoms_spec (ws := Cond.code yX7_mask cX7_mask 3 (some .int) :: pw) B.pre w (List.mem_cons_of_mem _ h)
  have hown : s.vm.findClass RX7 = some m.cls := findClass_of_methodNamed B.named
  have hlocks := B.notSynchronized
  subst hsz
  have hBB : 999 ≤ tm.2 ∧ tm.2 ≤ 6000000 := hI.2.2.2.2.1
  have dn_I : (∀ b, K b = 0 ∨ K b = 1 ∨ K b = 3 ∨ K b = 6 → I b = I b) := fun _ _ => rfl
  have dj_J : J = J := rfl
  have kp0_11_I : I p0 11 = I p0 11 := rfl
  have fr_I : ∀ b, ¬ (K b = 7 ∨ K b = 11 ∨ K b = 26 ∨ K b = 27) → I b = I b := fun _ _ => rfl
  obtain ⟨A, hAe⟩ : ∃ A : Nat → Prop, A = (fun q => q ∈ L ∨ s.heap.size ≤ q) := ⟨_, rfl⟩
  rw [← hAe]
  have hAL : ∀ q, q ∈ L → A q := fun q h => by rw [hAe]; exact Or.inl h
  have hA : ∀ q, s.heap.size ≤ q → A q := fun q h => by rw [hAe]; exact Or.inr h
  have hD : ∀ F, va_D A (va_pl L F) := fun F => (hD0 F).weaken (fun k q hk _ => hAL _ (pl_mem hk))
  obtain ⟨H, hHe⟩ : ∃ H : Heap, H = s.heap := ⟨_, rfl⟩
  have hS : va_S A s.heap H [] := by rw [hHe]; exact va_S.rf
  rw [← hHe] at hP
  have hl := lv_entry ([.ref p0, .int p1, .int p2]) (n := 3) (Nat.le_of_ble_eq_true rfl)
  rw [lg_entry_eq]
  generalize (lg_sl ([.ref p0, .int p1, .int p2]) ++ List.replicate (3 - (lg_sl ([.ref p0, .int p1, .int p2])).length) Slot.unset).toArray = ls at hl ⊢
  have hl : lv_has ls 3 [(0, .ref p0), (1, .int p1), (2, .int p2)] := hl
  rw [← hHe]
  refine namedW (fun R Qz hR hQz => ?_)
  refine lv_aload_n hx hb dX7_mask_0 rfl (lv_at hl 0 rfl) ?_
  refine lv_iload_n hx hb dX7_mask_1 rfl (lv_at hl 1 rfl) ?_
  refine ro_i (va_runV (As := [.int p1]) (rest := []) ⟨hx, hb, hml, hown, hts⟩ (s_X7_isMask l dC dI cs L K G Q hQ x0 m0 tx tm H.size I J hI p0 hLp0 hKp0 p1) (cwV 1 hts (gV pq1364 pq1366 pq31 pq81 pq1367) rfl rfl rfl (by decide +kernel) ⟨(by rw [hR]; exact (Nat.le_of_ble_eq_true rfl)), (by rw [hR]; exact (Nat.le_of_ble_eq_true rfl))⟩) (sP_V hP hD hK hN hLp0 hKp0 rfl rfl) rfl rfl hl.1 rfl (lv_room (Nat.le_of_ble_eq_true rfl)) dX7_mask_2 ⟨(by rw [hR]; exact (Nat.le_of_ble_eq_true rfl)), (by rw [hR]; exact (Nat.le_of_ble_eq_true rfl))⟩) hS hP (fun z2 H locs hz2 hP hS => ?_)
  obtain ⟨bz2, imz2, xpz2⟩ := hz2
  refine lv_if_ne (tgt := 10) hx hb dX7_mask_5 (by decide) (fun c5 => ?_) (fun c5 => ?_)
  · have t5 := tq_ne (k := z2.toInt) (q := (0)) c5 rfl (by decide +kernel)
    have i5 := imz2 t5
    refine lv_iload_n hx hb dX7_mask_10 rfl (lv_at hl 2 rfl) ?_
    have j82 : ∀ (H : Heap) (lo : List Loc) (ls : Array Slot), (3 ≤ p2.toInt ∧ p2.toInt ≤ 6) → va_P (dC, dI) vwCl (Wd cs L K I J Q) H → va_S A s.heap H lo → lv_has ls 3 [(0, .ref p0), (1, .int p1), (2, .int p2)] → W p l e R s m (([.ref p0, .int p1, .int p2] : List Value).toArray) below meth c H lo 0 0 Qz (F0 m 82 ls []) := by
      intro H lo ls h82 hP hS hl
      refine lv_aload_n hx hb dX7_mask_82 rfl (lv_at hl 0 rfl) ?_
      refine lv_iload_n hx hb dX7_mask_83 rfl (lv_at hl 1 rfl) ?_
      refine sw_ir (Z := (fun u => (fun I1 J1 => Iv L K x0 m0 tx tm I1 ∧ (∀ b, ¬ (K b = 26) → I1 b = I b) ∧ rcI (hs (rW Q I p0 p1.toInt.toNat) (rH Q I p0 p1.toInt.toNat) (rF Q J p0 p1.toInt.toNat)) u.toInt ((I1 (a0 Q p0 20) 0).toInt, (I1 (a0 Q p0 20) 1).toInt, (I1 (a0 Q p0 20) 2).toInt, (I1 (a0 Q p0 20) 3).toInt) ∧ (∀ b, K b = 0 ∨ K b = 1 ∨ K b = 3 ∨ K b = 6 → I1 b = I b) ∧ J1 = J))) (va_runV (As := [.int p1]) (rest := []) ⟨hx, hb, hml, hown, hts⟩ (s_X7_reaches l dC dI cs L K G Q hQ x0 m0 tx tm H.size I J hI p0 hLp0 hKp0 p1 ⟨by omega, by omega⟩) (cwV 1 hts (gV pq1506 pq1508 pq53 pq81 pq1509) rfl rfl rfl (by decide +kernel) ⟨(by rw [hR]; exact (Nat.le_of_ble_eq_true rfl)), (by rw [hR]; exact (Nat.le_of_ble_eq_true rfl))⟩) (sP_V hP hD hK hN hLp0 hKp0 rfl rfl) rfl rfl hl.1 rfl (lv_room (Nat.le_of_ble_eq_true rfl)) dX7_mask_84 ⟨(by rw [hR]; exact (Nat.le_of_ble_eq_true rfl)), (by rw [hR]; exact (Nat.le_of_ble_eq_true rfl))⟩) hS hAL hA (fun z84 Iz84 Jz84 H locs hz84 hIz84 hP hS => ?_)
      obtain ⟨hIz84, frc84, fz84, dnc84, djc84⟩ := hIz84
      obtain rfl : J = Jz84 := djc84.symm
      have dn_Iz84 : (∀ b, K b = 0 ∨ K b = 1 ∨ K b = 3 ∨ K b = 6 → Iz84 b = I b) := fun b hc => (dnc84 b (by omega)).trans (dn_I b hc)
      have kp0_11_Iz84 : Iz84 p0 11 = I p0 11 := (congrFun (frc84 p0 (by omega)) 11).trans kp0_11_I
      have fr_Iz84 : ∀ b, ¬ (K b = 7 ∨ K b = 11 ∨ K b = 26 ∨ K b = 27) → Iz84 b = I b := fun b q => (frc84 b (fun z => q (by omega))).trans (fr_I b q)
      have bz84 := hz84
      refine lv_if_eq (tgt := 101) hx hb dX7_mask_87 (by decide) (fun c87 => ?_) (fun c87 => ?_)
      · have t87 := tq_eq (k := z84.toInt) (q := (0)) c87 rfl (by decide +kernel)
        refine lv_bipush (v := (-2)) hx hb dX7_mask_101 (by decide +kernel) ?_
        subst hR; subst hQz
        exact W.iret (v := (-2)) hx hb hr (fun t ht hW => ⟨⟨(-2), (), rfl, trivial, ⟨Iz84, J, ⟨hIz84, fr_Iz84, kp0_11_Iz84, dn_Iz84, (fun σ A => cmA_fr hQ hLp0 hKp0 (fun b hb => fr_Iz84 b (by omega)) (fun _ _ => rfl) kp0_11_Iz84 A), dj_J⟩, by rw [ht]; exact hP⟩⟩, hS.F ht⟩) hS.2.2 dX7_mask_103
      · have t87 := tq_ne (k := z84.toInt) (q := (0)) c87 rfl (by decide +kernel)
        refine lv_aload_n hx hb dX7_mask_90 rfl (lv_at hl 0 rfl) ?_
        obtain ⟨y91, ey91, hLy91, hKy91⟩ := oQ_7_20 (Sv_at hQ hLp0 hKp0)
        refine p_get (v := .ref y91) hx hb hts inX7 hown hK hP hLp0 hKp0 rfl rfl 20 (by decide) (hts _ pq1135) (congrArg (fun q => some (va_rf q)) ey91) dX7_mask_91 ?_
        refine lv_iload_n hx hb dX7_mask_94 rfl (lv_at hl 2 rfl) ?_
        refine lv_iconst (v := 3) hx hb dX7_mask_95 (by decide +kernel) ?_
        refine lv_isub hx hb dX7_mask_96 ?_
        refine lv_topi (fun z96 ez96 => ?_)
        have bz96 := tq_sub (k := p2.toInt) (q := 3) ez96 rfl (by decide +kernel) (by omega) (by omega)
        refine p_iald hx hb hK hP 16 hLy91 hKy91 rfl rfl (in_of (by omega) (by omega)) dX7_mask_97 ?_
        refine lv_topi (fun z97 ez97 => ?_)
        have bz97 := oR_26 (i := z96) (k := z96.toInt) rfl (Iv_at hIz84 hLy91 hKy91)
        rw [← ez97] at bz97
        refine lv_goto (tgt := 103) hx hb dX7_mask_98 (by decide) ?_
        subst hR; subst hQz
        exact W.iret (v := z97) hx hb hr (fun t ht hW => ⟨⟨z97, (), rfl, trivial, ⟨Iz84, J, ⟨hIz84, fr_Iz84, kp0_11_Iz84, dn_Iz84, (fun σ A => cmA_fr hQ hLp0 hKp0 (fun b hb => fr_Iz84 b (by omega)) (fun _ _ => rfl) kp0_11_Iz84 A), dj_J⟩, by rw [ht]; exact hP⟩⟩, hS.F ht⟩) hS.2.2 dX7_mask_103
    refine lv_topi (fun z11 ez11 => ?_)
    rcases sw10 z11 with rfl | rfl | rfl | rfl | rfl | rfl | rfl | rfl | rfl | rfl | hsw11
    · refine lv_tableIn (off := 53) (tgt := 64) hx hb dX7_mask_11 (by decide +kernel) (by decide +kernel) (by decide +kernel) (by decide) ?_
      have sv11 : p2.toInt = 0 := by rw [← ez11]; decide +kernel
      refine lv_aload_n hx hb dX7_mask_64 rfl (lv_at hl 0 rfl) ?_
      refine lv_iload_n hx hb dX7_mask_65 rfl (lv_at hl 1 rfl) ?_
      refine ro_i (va_runV (As := [.int p1]) (rest := []) ⟨hx, hb, hml, hown, hts⟩ (s_X7_wide l dC dI cs L K G Q hQ x0 m0 tx tm H.size I J hI p0 hLp0 hKp0 p1 ⟨by omega, by omega⟩) (cwV 1 hts (gV pq1368 pq1370 pq32 pq81 pq1371) rfl rfl rfl (by decide +kernel) ⟨(by rw [hR]; exact (Nat.le_of_ble_eq_true rfl)), (by rw [hR]; exact (Nat.le_of_ble_eq_true rfl))⟩) (sP_V hP hD hK hN hLp0 hKp0 rfl rfl) rfl rfl hl.1 rfl (lv_room (Nat.le_of_ble_eq_true rfl)) dX7_mask_66 ⟨(by rw [hR]; exact (Nat.le_of_ble_eq_true rfl)), (by rw [hR]; exact (Nat.le_of_ble_eq_true rfl))⟩) hS hP (fun z66 H locs hz66 hP hS => ?_)
      obtain ⟨bz66, fez66⟩ := hz66
      subst hR; subst hQz
      exact W.iret (v := z66) hx hb hr (fun t ht hW => ⟨⟨z66, (), rfl, trivial, ⟨I, J, ⟨hI, fr_I, kp0_11_I, dn_I, (fun σ A => cmA_fr hQ hLp0 hKp0 (fun _ _ => rfl) (fun _ _ => rfl) rfl A), dj_J⟩, by rw [ht]; exact hP⟩⟩, hS.F ht⟩) hS.2.2 dX7_mask_69
    · refine lv_tableIn (off := 59) (tgt := 70) hx hb dX7_mask_11 (by decide +kernel) (by decide +kernel) (by decide +kernel) (by decide) ?_
      have sv11 : p2.toInt = 1 := by rw [← ez11]; decide +kernel
      refine lv_aload_n hx hb dX7_mask_70 rfl (lv_at hl 0 rfl) ?_
      refine lv_iload_n hx hb dX7_mask_71 rfl (lv_at hl 1 rfl) ?_
      refine ro_i (va_runV (As := [.int p1]) (rest := []) ⟨hx, hb, hml, hown, hts⟩ (s_X7_high l dC dI cs L K G Q hQ x0 m0 tx tm H.size I J hI p0 hLp0 hKp0 p1 ⟨by omega, by omega⟩) (cwV 1 hts (gV pq1372 pq1374 pq33 pq81 pq1375) rfl rfl rfl (by decide +kernel) ⟨(by rw [hR]; exact (Nat.le_of_ble_eq_true rfl)), (by rw [hR]; exact (Nat.le_of_ble_eq_true rfl))⟩) (sP_V hP hD hK hN hLp0 hKp0 rfl rfl) rfl rfl hl.1 rfl (lv_room (Nat.le_of_ble_eq_true rfl)) dX7_mask_72 ⟨(by rw [hR]; exact (Nat.le_of_ble_eq_true rfl)), (by rw [hR]; exact (Nat.le_of_ble_eq_true rfl))⟩) hS hP (fun z72 H locs hz72 hP hS => ?_)
      obtain ⟨bz72, fez72⟩ := hz72
      subst hR; subst hQz
      exact W.iret (v := z72) hx hb hr (fun t ht hW => ⟨⟨z72, (), rfl, trivial, ⟨I, J, ⟨hI, fr_I, kp0_11_I, dn_I, (fun σ A => cmA_fr hQ hLp0 hKp0 (fun _ _ => rfl) (fun _ _ => rfl) rfl A), dj_J⟩, by rw [ht]; exact hP⟩⟩, hS.F ht⟩) hS.2.2 dX7_mask_75
    · refine lv_tableIn (off := 65) (tgt := 76) hx hb dX7_mask_11 (by decide +kernel) (by decide +kernel) (by decide +kernel) (by decide) ?_
      have sv11 : p2.toInt = 2 := by rw [← ez11]; decide +kernel
      refine lv_aload_n hx hb dX7_mask_76 rfl (lv_at hl 0 rfl) ?_
      refine lv_iload_n hx hb dX7_mask_77 rfl (lv_at hl 1 rfl) ?_
      refine ro_i (va_runV (As := [.int p1]) (rest := []) ⟨hx, hb, hml, hown, hts⟩ (s_X7_dotsOf l dC dI cs L K G Q hQ x0 m0 tx tm H.size I J hI p0 hLp0 hKp0 p1 ⟨by omega, by omega⟩) (cwV 1 hts (gV pq1413 pq1415 pq39 pq81 pq1416) rfl rfl rfl (by decide +kernel) ⟨(by rw [hR]; exact (Nat.le_of_ble_eq_true rfl)), (by rw [hR]; exact (Nat.le_of_ble_eq_true rfl))⟩) (sP_V hP hD hK hN hLp0 hKp0 rfl rfl) rfl rfl hl.1 rfl (lv_room (Nat.le_of_ble_eq_true rfl)) dX7_mask_78 ⟨(by rw [hR]; exact (Nat.le_of_ble_eq_true rfl)), (by rw [hR]; exact (Nat.le_of_ble_eq_true rfl))⟩) hS hP (fun z78 H locs hz78 hP hS => ?_)
      obtain ⟨bz78, xpz78⟩ := hz78
      subst hR; subst hQz
      exact W.iret (v := z78) hx hb hr (fun t ht hW => ⟨⟨z78, (), rfl, trivial, ⟨I, J, ⟨hI, fr_I, kp0_11_I, dn_I, (fun σ A => cmA_fr hQ hLp0 hKp0 (fun _ _ => rfl) (fun _ _ => rfl) rfl A), dj_J⟩, by rw [ht]; exact hP⟩⟩, hS.F ht⟩) hS.2.2 dX7_mask_81
    · refine lv_tableIn (off := 71) (tgt := 82) hx hb dX7_mask_11 (by decide +kernel) (by decide +kernel) (by decide +kernel) (by decide) ?_
      have sv11 : p2.toInt = 3 := by rw [← ez11]; decide +kernel
      exact j82  _ _ _ ⟨by omega, by omega⟩ hP hS (lv_sub hl [0, 1, 2] rfl)
    · refine lv_tableIn (off := 71) (tgt := 82) hx hb dX7_mask_11 (by decide +kernel) (by decide +kernel) (by decide +kernel) (by decide) ?_
      have sv11 : p2.toInt = 4 := by rw [← ez11]; decide +kernel
      exact j82  _ _ _ ⟨by omega, by omega⟩ hP hS (lv_sub hl [0, 1, 2] rfl)
    · refine lv_tableIn (off := 71) (tgt := 82) hx hb dX7_mask_11 (by decide +kernel) (by decide +kernel) (by decide +kernel) (by decide) ?_
      have sv11 : p2.toInt = 5 := by rw [← ez11]; decide +kernel
      exact j82  _ _ _ ⟨by omega, by omega⟩ hP hS (lv_sub hl [0, 1, 2] rfl)
    · refine lv_tableIn (off := 71) (tgt := 82) hx hb dX7_mask_11 (by decide +kernel) (by decide +kernel) (by decide +kernel) (by decide) ?_
      have sv11 : p2.toInt = 6 := by rw [← ez11]; decide +kernel
      exact j82  _ _ _ ⟨by omega, by omega⟩ hP hS (lv_sub hl [0, 1, 2] rfl)
    · refine lv_tableIn (off := 93) (tgt := 104) hx hb dX7_mask_11 (by decide +kernel) (by decide +kernel) (by decide +kernel) (by decide) ?_
      have sv11 : p2.toInt = 7 := by rw [← ez11]; decide +kernel
      refine lv_aload_n hx hb dX7_mask_104 rfl (lv_at hl 0 rfl) ?_
      refine lv_iload_n hx hb dX7_mask_105 rfl (lv_at hl 1 rfl) ?_
      refine sw_i (Z := (fun I1 J1 => Iv L K x0 m0 tx tm I1 ∧ (∀ b, ¬ (K b = 7 ∨ K b = 11 ∨ K b = 27) → I1 b = I b) ∧ I1 p0 11 = I p0 11 ∧ (∀ b, K b = 0 ∨ K b = 1 ∨ K b = 3 ∨ K b = 6 → I1 b = I b) ∧ (∀ σ : Sx, cmA Q I J p0 σ → cmA Q I1 J1 p0 σ) ∧ J1 = J)) (va_runV (As := [.int p1]) (rest := []) ⟨hx, hb, hml, hown, hts⟩ (s_X7_islandsOf l dC dI cs L K G Q hQ x0 m0 tx tm H.size I J hI p0 hLp0 hKp0 p1 ⟨by omega, by omega⟩) (cwV 1 hts (gV pq1530 pq1532 pq56 pq81 pq1533) rfl rfl rfl (by decide +kernel) ⟨(by rw [hR]; exact (Nat.le_of_ble_eq_true rfl)), (by rw [hR]; exact (Nat.le_of_ble_eq_true rfl))⟩) (sP_V hP hD hK hN hLp0 hKp0 rfl rfl) rfl rfl hl.1 rfl (lv_room (Nat.le_of_ble_eq_true rfl)) dX7_mask_106 ⟨(by rw [hR]; exact (Nat.le_of_ble_eq_true rfl)), (by rw [hR]; exact (Nat.le_of_ble_eq_true rfl))⟩) hS hAL hA (fun z106 Iz106 Jz106 H locs hz106 hIz106 hP hS => ?_)
      obtain ⟨hIz106, frc106, kc106_0_11, dnc106, jz106, djc106⟩ := hIz106
      obtain rfl : J = Jz106 := djc106.symm
      have dn_Iz106 : (∀ b, K b = 0 ∨ K b = 1 ∨ K b = 3 ∨ K b = 6 → Iz106 b = I b) := fun b hc => (dnc106 b (by omega)).trans (dn_I b hc)
      have kp0_11_Iz106 : Iz106 p0 11 = I p0 11 := kc106_0_11.trans kp0_11_I
      have fr_Iz106 : ∀ b, ¬ (K b = 7 ∨ K b = 11 ∨ K b = 26 ∨ K b = 27) → Iz106 b = I b := fun b q => (frc106 b (fun z => q (by omega))).trans (fr_I b q)
      subst hR; subst hQz
      exact W.iret (v := z106) hx hb hr (fun t ht hW => ⟨⟨z106, (), rfl, trivial, ⟨Iz106, J, ⟨hIz106, fr_Iz106, kp0_11_Iz106, dn_Iz106, (fun σ A => cmA_fr hQ hLp0 hKp0 (fun b hb => fr_Iz106 b (by omega)) (fun _ _ => rfl) kp0_11_Iz106 A), dj_J⟩, by rw [ht]; exact hP⟩⟩, hS.F ht⟩) hS.2.2 dX7_mask_109
    · refine lv_tableIn (off := 99) (tgt := 110) hx hb dX7_mask_11 (by decide +kernel) (by decide +kernel) (by decide +kernel) (by decide) ?_
      have sv11 : p2.toInt = 8 := by rw [← ez11]; decide +kernel
      refine lv_aload_n hx hb dX7_mask_110 rfl (lv_at hl 0 rfl) ?_
      refine lv_iload_n hx hb dX7_mask_111 rfl (lv_at hl 1 rfl) ?_
      refine sw_i (Z := (fun I1 J1 => Iv L K x0 m0 tx tm I1 ∧ (∀ b, ¬ (K b = 7 ∨ K b = 11 ∨ K b = 27) → I1 b = I b) ∧ I1 p0 11 = I p0 11 ∧ (∀ b, K b = 0 ∨ K b = 1 ∨ K b = 3 ∨ K b = 6 → I1 b = I b) ∧ (∀ σ : Sx, cmA Q I J p0 σ → cmA Q I1 J1 p0 σ) ∧ J1 = J)) (va_runV (As := [.int p1]) (rest := []) ⟨hx, hb, hml, hown, hts⟩ (s_X7_holesOf l dC dI cs L K G Q hQ x0 m0 tx tm H.size I J hI p0 hLp0 hKp0 p1 ⟨by omega, by omega⟩) (cwV 1 hts (gV pq1542 pq1544 pq59 pq81 pq1545) rfl rfl rfl (by decide +kernel) ⟨(by rw [hR]; exact (Nat.le_of_ble_eq_true rfl)), (by rw [hR]; exact (Nat.le_of_ble_eq_true rfl))⟩) (sP_V hP hD hK hN hLp0 hKp0 rfl rfl) rfl rfl hl.1 rfl (lv_room (Nat.le_of_ble_eq_true rfl)) dX7_mask_112 ⟨(by rw [hR]; exact (Nat.le_of_ble_eq_true rfl)), (by rw [hR]; exact (Nat.le_of_ble_eq_true rfl))⟩) hS hAL hA (fun z112 Iz112 Jz112 H locs hz112 hIz112 hP hS => ?_)
      obtain ⟨hIz112, frc112, kc112_0_11, dnc112, jz112, djc112⟩ := hIz112
      obtain rfl : J = Jz112 := djc112.symm
      have dn_Iz112 : (∀ b, K b = 0 ∨ K b = 1 ∨ K b = 3 ∨ K b = 6 → Iz112 b = I b) := fun b hc => (dnc112 b (by omega)).trans (dn_I b hc)
      have kp0_11_Iz112 : Iz112 p0 11 = I p0 11 := kc112_0_11.trans kp0_11_I
      have fr_Iz112 : ∀ b, ¬ (K b = 7 ∨ K b = 11 ∨ K b = 26 ∨ K b = 27) → Iz112 b = I b := fun b q => (frc112 b (fun z => q (by omega))).trans (fr_I b q)
      subst hR; subst hQz
      exact W.iret (v := z112) hx hb hr (fun t ht hW => ⟨⟨z112, (), rfl, trivial, ⟨Iz112, J, ⟨hIz112, fr_Iz112, kp0_11_Iz112, dn_Iz112, (fun σ A => cmA_fr hQ hLp0 hKp0 (fun b hb => fr_Iz112 b (by omega)) (fun _ _ => rfl) kp0_11_Iz112 A), dj_J⟩, by rw [ht]; exact hP⟩⟩, hS.F ht⟩) hS.2.2 dX7_mask_115
    · refine lv_tableIn (off := 105) (tgt := 116) hx hb dX7_mask_11 (by decide +kernel) (by decide +kernel) (by decide +kernel) (by decide) ?_
      have sv11 : p2.toInt = 9 := by rw [← ez11]; decide +kernel
      refine lv_aload_n hx hb dX7_mask_116 rfl (lv_at hl 0 rfl) ?_
      refine lv_iload_n hx hb dX7_mask_117 rfl (lv_at hl 1 rfl) ?_
      refine ro_i (va_runV (As := [.int p1]) (rest := []) ⟨hx, hb, hml, hown, hts⟩ (s_X7_edgeOf l dC dI cs L K G Q hQ x0 m0 tx tm H.size I J hI p0 hLp0 hKp0 p1 ⟨by omega, by omega⟩) (cwV 1 hts (gV pq1550 pq1552 pq61 pq81 pq1553) rfl rfl rfl (by decide +kernel) ⟨(by rw [hR]; exact (Nat.le_of_ble_eq_true rfl)), (by rw [hR]; exact (Nat.le_of_ble_eq_true rfl))⟩) (sP_V hP hD hK hN hLp0 hKp0 rfl rfl) rfl rfl hl.1 rfl (lv_room (Nat.le_of_ble_eq_true rfl)) dX7_mask_118 ⟨(by rw [hR]; exact (Nat.le_of_ble_eq_true rfl)), (by rw [hR]; exact (Nat.le_of_ble_eq_true rfl))⟩) hS hP (fun z118 H locs hz118 hP hS => ?_)
      subst hR; subst hQz
      exact W.iret (v := z118) hx hb hr (fun t ht hW => ⟨⟨z118, (), rfl, trivial, ⟨I, J, ⟨hI, fr_I, kp0_11_I, dn_I, (fun σ A => cmA_fr hQ hLp0 hKp0 (fun _ _ => rfl) (fun _ _ => rfl) rfl A), dj_J⟩, by rw [ht]; exact hP⟩⟩, hS.F ht⟩) hS.2.2 dX7_mask_121
    · refine lv_tableOut (tgt := 122) hx hb dX7_mask_11 hsw11 (by decide) ?_
      refine lv_iconst (v := (-1)) hx hb dX7_mask_122 (by decide +kernel) ?_
      subst hR; subst hQz
      exact W.iret (v := (-1)) hx hb hr (fun t ht hW => ⟨⟨(-1), (), rfl, trivial, ⟨I, J, ⟨hI, fr_I, kp0_11_I, dn_I, (fun σ A => cmA_fr hQ hLp0 hKp0 (fun _ _ => rfl) (fun _ _ => rfl) rfl A), dj_J⟩, by rw [ht]; exact hP⟩⟩, hS.F ht⟩) hS.2.2 dX7_mask_123
  · have t5 := tq_eq (k := z2.toInt) (q := (0)) c5 rfl (by decide +kernel)
    refine lv_iconst (v := (-1)) hx hb dX7_mask_8 (by decide +kernel) ?_
    subst hR; subst hQz
    exact W.iret (v := (-1)) hx hb hr (fun t ht hW => ⟨⟨(-1), (), rfl, trivial, ⟨I, J, ⟨hI, fr_I, kp0_11_I, dn_I, (fun σ A => cmA_fr hQ hLp0 hKp0 (fun _ _ => rfl) (fun _ _ => rfl) rfl A), dj_J⟩, by rw [ht]; exact hP⟩⟩, hS.F ht⟩) hS.2.2 dX7_mask_9

set_option maxHeartbeats 4000000 in
set_option maxRecDepth 100000 in
theorem s_X7_island (l : Launch) (dC : Nat → ClassId) (dI : Nat → Nat → Nat) (cs : Nat → ClassId) (L : List Nat) (K G : Nat → Nat) (Q : Nat → Nat → Option Nat) (hQ : Sv L K G Q) (x0 m0 : Nat) (tx : GT) (tm : GT × Int) (sz : Nat) (I : Nat → Nat → Int32) (J : Nat → Nat → Int64) (hI : Iv L K x0 m0 tx tm I) (p0 : Nat) (hLp0 : p0 ∈ L) (hKp0 : K p0 = 7) (p1 : Int32) (p2 : Int32) (p3 : Int32) : Met l yX7_island (.code yX7_island cX7_island 11 (some .int) :: pw) ({ frames := 4, cells := 0, slots := 0, locals := 99 }) (sP (dC, dI) cs [.ref p0, .int p1, .int p2, .int p3] sz L K I J Q) (va_Qi (fun (r : Int32) (_ : Unit) => True) (fun _ t => sB (dC, dI) cs L K Q (fun I1 J1 => Iv L K x0 m0 tx tm I1 ∧ (∀ b, ¬ (K b = 7 ∨ K b = 11 ∨ K b = 27) → I1 b = I b) ∧ I1 p0 11 = I p0 11 ∧ (∀ b, K b = 0 ∨ K b = 1 ∨ K b = 3 ∨ K b = 6 → I1 b = I b) ∧ (∀ σ : Sx, cmA Q I J p0 σ → cmA Q I1 J1 p0 σ) ∧ J1 = J) t) (fun q => q ∈ L ∨ sz ≤ q)) 0 0 (fun q => q ∈ L ∨ sz ≤ q) := by
  refine Met.ofW (cc := cX7_island) (maxL := 11) (ret := (some .int)) (by decide +kernel) rfl ?_
  intro p e s m args below meth c s₁ B hml hv
  obtain ⟨rfl, hsz, hP, hK, hD0, hN⟩ := hv
  have hx := B.exec
  have hb := B.bytes
  have hr := B.returns
  have hts := fun w (h : w ∈ pw) => atoms_spec (ws := Cond.code yX7_island cX7_island 11 (some .int) :: pw) B.pre w (List.mem_cons_of_mem _ h)
  have hown : s.vm.findClass RX7 = some m.cls := findClass_of_methodNamed B.named
  have hlocks := B.notSynchronized
  subst hsz
  have hBB : 999 ≤ tm.2 ∧ tm.2 ≤ 6000000 := hI.2.2.2.2.1
  have dn_I : (∀ b, K b = 0 ∨ K b = 1 ∨ K b = 3 ∨ K b = 6 → I b = I b) := fun _ _ => rfl
  have dj_J : J = J := rfl
  have kp0_11_I : I p0 11 = I p0 11 := rfl
  have fr_I : ∀ b, ¬ (K b = 7 ∨ K b = 11 ∨ K b = 27) → I b = I b := fun _ _ => rfl
  obtain ⟨A, hAe⟩ : ∃ A : Nat → Prop, A = (fun q => q ∈ L ∨ s.heap.size ≤ q) := ⟨_, rfl⟩
  rw [← hAe]
  have hAL : ∀ q, q ∈ L → A q := fun q h => by rw [hAe]; exact Or.inl h
  have hA : ∀ q, s.heap.size ≤ q → A q := fun q h => by rw [hAe]; exact Or.inr h
  have hD : ∀ F, va_D A (va_pl L F) := fun F => (hD0 F).weaken (fun k q hk _ => hAL _ (pl_mem hk))
  obtain ⟨H, hHe⟩ : ∃ H : Heap, H = s.heap := ⟨_, rfl⟩
  have hS : va_S A s.heap H [] := by rw [hHe]; exact va_S.rf
  rw [← hHe] at hP
  have hl := lv_entry ([.ref p0, .int p1, .int p2, .int p3]) (n := 11) (Nat.le_of_ble_eq_true rfl)
  rw [lg_entry_eq]
  generalize (lg_sl ([.ref p0, .int p1, .int p2, .int p3]) ++ List.replicate (11 - (lg_sl ([.ref p0, .int p1, .int p2, .int p3])).length) Slot.unset).toArray = ls at hl ⊢
  have hl : lv_has ls 11 [(0, .ref p0), (1, .int p1), (2, .int p2), (3, .int p3)] := hl
  rw [← hHe]
  refine namedW (fun R Qz hR hQz => ?_)
  refine lv_aload_n hx hb dX7_island_0 rfl (lv_at hl 0 rfl) ?_
  refine lv_iload_n hx hb dX7_island_1 rfl (lv_at hl 1 rfl) ?_
  refine ro_i (va_runV (As := [.int p1]) (rest := []) ⟨hx, hb, hml, hown, hts⟩ (s_X7_isMask l dC dI cs L K G Q hQ x0 m0 tx tm H.size I J hI p0 hLp0 hKp0 p1) (cwV 1 hts (gV pq1364 pq1366 pq31 pq81 pq1367) rfl rfl rfl (by decide +kernel) ⟨(by rw [hR]; exact (Nat.le_of_ble_eq_true rfl)), (by rw [hR]; exact (Nat.le_of_ble_eq_true rfl))⟩) (sP_V hP hD hK hN hLp0 hKp0 rfl rfl) rfl rfl hl.1 rfl (lv_room (Nat.le_of_ble_eq_true rfl)) dX7_island_2 ⟨(by rw [hR]; exact (Nat.le_of_ble_eq_true rfl)), (by rw [hR]; exact (Nat.le_of_ble_eq_true rfl))⟩) hS hP (fun z2 H locs hz2 hP hS => ?_)
  obtain ⟨bz2, imz2, xpz2⟩ := hz2
  refine lv_if_ne (tgt := 10) hx hb dX7_island_5 (by decide) (fun c5 => ?_) (fun c5 => ?_)
  · have t5 := tq_ne (k := z2.toInt) (q := (0)) c5 rfl (by decide +kernel)
    have i5 := imz2 t5
    refine lv_aload_n hx hb dX7_island_10 rfl (lv_at hl 0 rfl) ?_
    refine lv_iload_n hx hb dX7_island_11 rfl (lv_at hl 1 rfl) ?_
    refine lv_iconst (v := 1) hx hb dX7_island_12 (by decide +kernel) ?_
    refine sw_v (Z := (fun I1 J1 => Iv L K x0 m0 tx tm I1 ∧ (∀ b, ¬ (K b = 7 ∨ K b = 11 ∨ K b = 27) → I1 b = I b) ∧ I1 p0 11 = I p0 11 ∧ ((0 ≤ (I1 p0 23).toInt ∧ (I1 p0 23).toInt ≤ 4000 ∧ (0 < (I1 p0 23).toInt → 1 ≤ (I ((Q p0 0).getD 0) (3 + p1.toInt.toNat)).toInt ∧ 1 ≤ (I ((Q p0 0).getD 0) (11 + p1.toInt.toNat)).toInt))) ∧ (∀ b, K b = 0 ∨ K b = 1 ∨ K b = 3 ∨ K b = 6 → I1 b = I b) ∧ J1 = J)) (va_runV (As := [.int p1, .int 1]) (rest := []) ⟨hx, hb, hml, hown, hts⟩ (s_X7_laysIslands l dC dI cs L K G Q hQ x0 m0 tx tm H.size I J hI p0 hLp0 hKp0 p1 ⟨by omega, by omega⟩ 1) (cwV 2 hts (gV pq1534 pq1536 pq57 pq81 pq1537) rfl rfl rfl (by decide +kernel) ⟨(by rw [hR]; exact (Nat.le_of_ble_eq_true rfl)), (by rw [hR]; exact (Nat.le_of_ble_eq_true rfl))⟩) (sP_V hP hD hK hN hLp0 hKp0 rfl rfl) rfl rfl hl.1 rfl (lv_room (Nat.le_of_ble_eq_true rfl)) dX7_island_13 ⟨(by rw [hR]; exact (Nat.le_of_ble_eq_true rfl)), (by rw [hR]; exact (Nat.le_of_ble_eq_true rfl))⟩) hS hAL hA (fun Iz13 Jz13 H locs hz13 hIz13 hP hS => ?_)
    obtain ⟨hIz13, frc13, kc13_0_11, zp13, dnc13, djc13⟩ := hIz13
    obtain rfl : J = Jz13 := djc13.symm
    have dn_Iz13 : (∀ b, K b = 0 ∨ K b = 1 ∨ K b = 3 ∨ K b = 6 → Iz13 b = I b) := fun b hc => (dnc13 b (by omega)).trans (dn_I b hc)
    have kp0_11_Iz13 : Iz13 p0 11 = I p0 11 := kc13_0_11.trans kp0_11_I
    have fr_Iz13 : ∀ b, ¬ (K b = 7 ∨ K b = 11 ∨ K b = 27) → Iz13 b = I b := fun b q => (frc13 b (fun z => q (by omega))).trans (fr_I b q)
    refine lv_iload_n hx hb dX7_island_16 rfl (lv_at hl 2 rfl) ?_
    refine lv_iconst (v := (-1)) hx hb dX7_island_17 (by decide +kernel) ?_
    refine lv_icmp_ne (tgt := 34) hx hb dX7_island_18 (by decide) (fun c18 => ?_) (fun c18 => ?_)
    · have t18 := tq_ne (k := p2.toInt) (q := (-1)) c18 rfl (by decide +kernel)
      refine lv_iload_n hx hb dX7_island_34 rfl (lv_at hl 2 rfl) ?_
      refine lv_i2l hx hb dX7_island_35 rfl ?_
      refine lv_topl (fun z35 ez35 => ?_)
      have bz35 := tq_i2l (k := p2.toInt) ez35 rfl
      refine lv_lconst (v := 0) hx hb dX7_island_36 (by decide +kernel) ?_
      refine lv_aload_n hx hb dX7_island_37 rfl (lv_at hl 0 rfl) ?_
      refine p_get hx hb hts inX7 hown hK hP hLp0 hKp0 rfl rfl 23 (by decide) (hts _ pq1138) rfl dX7_island_38 ?_
      refine lv_topi (fun z38 ez38 => ?_)
      have cgz38 := congrArg Int32.toInt ez38
      refine lv_iconst (v := 1) hx hb dX7_island_41 (by decide +kernel) ?_
      refine lv_isub hx hb dX7_island_42 ?_
      refine lv_topi (fun z42 ez42 => ?_)
      refine lv_i2l hx hb dX7_island_43 rfl ?_
      refine lv_topl (fun z43 ez43 => ?_)
      have bz43 := tq_i2l (k := z42.toInt) ez43 rfl
      refine ro_i (va_runS (As := [.long z35, .long 0, .long z43]) (rest := []) ⟨hx, hb, hml, hown, hts⟩ (s_X7_in l dC dI cs L K Q H.size Iz13 J z35 0 z43) (va_cwS 3 hts (gS pq1234 pq1235 pq81 pq1236) rfl rfl rfl (by decide +kernel) ⟨(by rw [hR]; exact (Nat.le_of_ble_eq_true rfl)), (by rw [hR]; exact (Nat.le_of_ble_eq_true rfl))⟩) (sP_S hP hD hK hN) rfl rfl hl.1 rfl (lv_room (Nat.le_of_ble_eq_true rfl)) dX7_island_44 ⟨(by rw [hR]; exact (Nat.le_of_ble_eq_true rfl)), (by rw [hR]; exact (Nat.le_of_ble_eq_true rfl))⟩) hS hP (fun z44 H locs hz44 hP hS => ?_)
      have csl44_0 : (0 : Int64).toInt = 0 := by decide +kernel
      obtain ⟨bz44, imz44, xpz44⟩ := hz44
      refine lv_if_eq (tgt := 62) hx hb dX7_island_47 (by decide) (fun c47 => ?_) (fun c47 => ?_)
      · have t47 := tq_eq (k := z44.toInt) (q := (0)) c47 rfl (by decide +kernel)
        refine lv_iconst (v := (-1)) hx hb dX7_island_62 (by decide +kernel) ?_
        subst hR; subst hQz
        exact W.iret (v := (-1)) hx hb hr (fun t ht hW => ⟨⟨(-1), (), rfl, trivial, ⟨Iz13, J, ⟨hIz13, fr_Iz13, kp0_11_Iz13, dn_Iz13, (fun σ A => cmA_fr hQ hLp0 hKp0 (fun b hb => fr_Iz13 b (by omega)) (fun _ _ => rfl) kp0_11_Iz13 A), dj_J⟩, by rw [ht]; exact hP⟩⟩, hS.F ht⟩) hS.2.2 dX7_island_63
      · have t47 := tq_ne (k := z44.toInt) (q := (0)) c47 rfl (by decide +kernel)
        have i47 := imz44 t47
        refine lv_iload_n hx hb dX7_island_50 rfl (lv_at hl 3 rfl) ?_
        refine lv_i2l hx hb dX7_island_51 rfl ?_
        refine lv_topl (fun z51 ez51 => ?_)
        have bz51 := tq_i2l (k := p3.toInt) ez51 rfl
        refine lv_lconst (v := 0) hx hb dX7_island_52 (by decide +kernel) ?_
        refine lv_ldc2 hx hb hown (hts _ pq1657) dX7_island_53 ?_
        refine ro_i (va_runS (As := [.long z51, .long 0, .long 4]) (rest := []) ⟨hx, hb, hml, hown, hts⟩ (s_X7_in l dC dI cs L K Q H.size Iz13 J z51 0 4) (va_cwS 3 hts (gS pq1234 pq1235 pq81 pq1236) rfl rfl rfl (by decide +kernel) ⟨(by rw [hR]; exact (Nat.le_of_ble_eq_true rfl)), (by rw [hR]; exact (Nat.le_of_ble_eq_true rfl))⟩) (sP_S hP hD hK hN) rfl rfl hl.1 rfl (lv_room (Nat.le_of_ble_eq_true rfl)) dX7_island_56 ⟨(by rw [hR]; exact (Nat.le_of_ble_eq_true rfl)), (by rw [hR]; exact (Nat.le_of_ble_eq_true rfl))⟩) hS hP (fun z56 H locs hz56 hP hS => ?_)
        have csl56_0 : (0 : Int64).toInt = 0 := by decide +kernel
        have csl56_4 : (4 : Int64).toInt = 4 := by decide +kernel
        obtain ⟨bz56, imz56, xpz56⟩ := hz56
        refine lv_if_ne (tgt := 64) hx hb dX7_island_59 (by decide) (fun c59 => ?_) (fun c59 => ?_)
        · have t59 := tq_ne (k := z56.toInt) (q := (0)) c59 rfl (by decide +kernel)
          have i59 := imz56 t59
          refine lv_iconst (v := 0) hx hb dX7_island_64 (by decide +kernel) ?_
          refine lv_istore (lv' := [(4, .int 0), (0, .ref p0), (1, .int p1), (2, .int p2), (3, .int p3)]) hx hb dX7_island_65 hl (by decide) rfl (fun ls hl => ?_)
          refine lv_bipush (v := 100) hx hb dX7_island_67 (by decide +kernel) ?_
          refine lv_istore (lv' := [(5, .int 100), (4, .int 0), (0, .ref p0), (1, .int p1), (2, .int p2), (3, .int p3)]) hx hb dX7_island_69 hl (by decide) rfl (fun ls hl => ?_)
          refine lv_bipush (v := 40) hx hb dX7_island_71 (by decide +kernel) ?_
          refine lv_istore (lv' := [(6, .int 40), (5, .int 100), (4, .int 0), (0, .ref p0), (1, .int p1), (2, .int p2), (3, .int p3)]) hx hb dX7_island_73 hl (by decide) rfl (fun ls hl => ?_)
          refine lv_iconst (v := 0) hx hb dX7_island_75 (by decide +kernel) ?_
          refine lv_istore (lv' := [(7, .int 0), (6, .int 40), (5, .int 100), (4, .int 0), (0, .ref p0), (1, .int p1), (2, .int p2), (3, .int p3)]) hx hb dX7_island_76 hl (by decide) rfl (fun ls hl => ?_)
          refine lv_iconst (v := 0) hx hb dX7_island_78 (by decide +kernel) ?_
          refine lv_istore (lv' := [(8, .int 0), (7, .int 0), (6, .int 40), (5, .int 100), (4, .int 0), (0, .ref p0), (1, .int p1), (2, .int p2), (3, .int p3)]) hx hb dX7_island_79 hl (by decide) rfl (fun ls hl => ?_)
          refine lv_iconst (v := 0) hx hb dX7_island_81 (by decide +kernel) ?_
          refine lv_istore (lv' := [(9, .int 0), (8, .int 0), (7, .int 0), (6, .int 40), (5, .int 100), (4, .int 0), (0, .ref p0), (1, .int p1), (2, .int p2), (3, .int p3)]) hx hb dX7_island_82 hl (by decide) rfl (fun ls hl => ?_)
          have key84 := blocks (fun n => ∀ (v84_4 : Int32) (v84_5 : Int32) (v84_6 : Int32) (v84_7 : Int32) (v84_8 : Int32) (v84_9 : Int32) (H : Heap) (lo : List Loc) (ls : Array Slot), (41 - v84_9.toInt).toNat = n → ((0) ≤ v84_5.toInt ∧ v84_5.toInt ≤ 100) → ((0) ≤ v84_6.toInt ∧ v84_6.toInt ≤ 40) → ((0) ≤ v84_7.toInt ∧ v84_7.toInt ≤ 99) → ((0) ≤ v84_8.toInt ∧ v84_8.toInt ≤ 39) → ((0) ≤ v84_9.toInt ∧ v84_9.toInt ≤ 40) → va_P (dC, dI) vwCl (Wd cs L K Iz13 J Q) H → va_S A s.heap H lo → lv_has ls 11 [(0, .ref p0), (1, .int p1), (2, .int p2), (3, .int p3), (4, .int v84_4), (5, .int v84_5), (6, .int v84_6), (7, .int v84_7), (8, .int v84_8), (9, .int v84_9)] → W p l e R s m (([.ref p0, .int p1, .int p2, .int p3] : List Value).toArray) below meth c H lo 0 0 Qz (F0 m 84 ls [])) (by
            intro n ih84
            intro v84_4 v84_5 v84_6 v84_7 v84_8 v84_9 H lo ls hmu84 bv84_5 bv84_6 bv84_7 bv84_8 bv84_9 hP hS hl
            refine lv_iload hx hb dX7_island_84 (lv_at hl 9 rfl) ?_
            refine lv_aload_n hx hb dX7_island_86 rfl (lv_at hl 0 rfl) ?_
            refine lv_iload_n hx hb dX7_island_87 rfl (lv_at hl 1 rfl) ?_
            refine ro_i (va_runV (As := [.int p1]) (rest := [.int v84_9]) ⟨hx, hb, hml, hown, hts⟩ (s_X7_high l dC dI cs L K G Q hQ x0 m0 tx tm H.size Iz13 J hIz13 p0 hLp0 hKp0 p1 ⟨by omega, by omega⟩) (cwV 1 hts (gV pq1372 pq1374 pq33 pq81 pq1375) rfl rfl rfl (by decide +kernel) ⟨(by rw [hR]; exact (Nat.le_of_ble_eq_true rfl)), (by rw [hR]; exact (Nat.le_of_ble_eq_true rfl))⟩) (sP_V hP hD hK hN hLp0 hKp0 rfl rfl) rfl rfl hl.1 rfl (lv_room (Nat.le_of_ble_eq_true rfl)) dX7_island_88 ⟨(by rw [hR]; exact (Nat.le_of_ble_eq_true rfl)), (by rw [hR]; exact (Nat.le_of_ble_eq_true rfl))⟩) hS hP (fun z88 H locs hz88 hP hS => ?_)
            obtain ⟨bz88, fez88⟩ := hz88
            refine lv_icmp_ge (tgt := 178) hx hb dX7_island_91 (by decide) (fun c91 => ?_) (fun c91 => ?_)
            · have t91 := tq_le (k := z88.toInt) (q := v84_9.toInt) c91 rfl rfl
              refine lv_iload_n hx hb dX7_island_178 rfl (lv_at hl 3 rfl) ?_
              refine lv_if_ne (tgt := 187) hx hb dX7_island_179 (by decide) (fun c179 => ?_) (fun c179 => ?_)
              · have t179 := tq_ne (k := p3.toInt) (q := (0)) c179 rfl (by decide +kernel)
                refine lv_iload_n hx hb dX7_island_187 rfl (lv_at hl 3 rfl) ?_
                refine lv_iconst (v := 1) hx hb dX7_island_188 (by decide +kernel) ?_
                refine lv_icmp_ne (tgt := 197) hx hb dX7_island_189 (by decide) (fun c189 => ?_) (fun c189 => ?_)
                · have t189 := tq_ne (k := p3.toInt) (q := (1)) c189 rfl (by decide +kernel)
                  refine lv_iload_n hx hb dX7_island_197 rfl (lv_at hl 3 rfl) ?_
                  refine lv_iconst (v := 2) hx hb dX7_island_198 (by decide +kernel) ?_
                  refine lv_icmp_ne (tgt := 207) hx hb dX7_island_199 (by decide) (fun c199 => ?_) (fun c199 => ?_)
                  · have t199 := tq_ne (k := p3.toInt) (q := (2)) c199 rfl (by decide +kernel)
                    refine lv_iload_n hx hb dX7_island_207 rfl (lv_at hl 3 rfl) ?_
                    refine lv_iconst (v := 3) hx hb dX7_island_208 (by decide +kernel) ?_
                    refine lv_icmp_ne (tgt := 217) hx hb dX7_island_209 (by decide) (fun c209 => ?_) (fun c209 => ?_)
                    · have t209 := tq_ne (k := p3.toInt) (q := (3)) c209 rfl (by decide +kernel)
                      refine lv_iload hx hb dX7_island_217 (lv_at hl 8 rfl) ?_
                      subst hR; subst hQz
                      exact W.iret (v := v84_8) hx hb hr (fun t ht hW => ⟨⟨v84_8, (), rfl, trivial, ⟨Iz13, J, ⟨hIz13, fr_Iz13, kp0_11_Iz13, dn_Iz13, (fun σ A => cmA_fr hQ hLp0 hKp0 (fun b hb => fr_Iz13 b (by omega)) (fun _ _ => rfl) kp0_11_Iz13 A), dj_J⟩, by rw [ht]; exact hP⟩⟩, hS.F ht⟩) hS.2.2 dX7_island_219
                    · have t209 := tq_eq (k := p3.toInt) (q := (3)) c209 rfl (by decide +kernel)
                      refine lv_iload hx hb dX7_island_212 (lv_at hl 7 rfl) ?_
                      refine lv_goto (tgt := 219) hx hb dX7_island_214 (by decide) ?_
                      subst hR; subst hQz
                      exact W.iret (v := v84_7) hx hb hr (fun t ht hW => ⟨⟨v84_7, (), rfl, trivial, ⟨Iz13, J, ⟨hIz13, fr_Iz13, kp0_11_Iz13, dn_Iz13, (fun σ A => cmA_fr hQ hLp0 hKp0 (fun b hb => fr_Iz13 b (by omega)) (fun _ _ => rfl) kp0_11_Iz13 A), dj_J⟩, by rw [ht]; exact hP⟩⟩, hS.F ht⟩) hS.2.2 dX7_island_219
                  · have t199 := tq_eq (k := p3.toInt) (q := (2)) c199 rfl (by decide +kernel)
                    refine lv_iload hx hb dX7_island_202 (lv_at hl 6 rfl) ?_
                    refine lv_goto (tgt := 219) hx hb dX7_island_204 (by decide) ?_
                    subst hR; subst hQz
                    exact W.iret (v := v84_6) hx hb hr (fun t ht hW => ⟨⟨v84_6, (), rfl, trivial, ⟨Iz13, J, ⟨hIz13, fr_Iz13, kp0_11_Iz13, dn_Iz13, (fun σ A => cmA_fr hQ hLp0 hKp0 (fun b hb => fr_Iz13 b (by omega)) (fun _ _ => rfl) kp0_11_Iz13 A), dj_J⟩, by rw [ht]; exact hP⟩⟩, hS.F ht⟩) hS.2.2 dX7_island_219
                · have t189 := tq_eq (k := p3.toInt) (q := (1)) c189 rfl (by decide +kernel)
                  refine lv_iload hx hb dX7_island_192 (lv_at hl 5 rfl) ?_
                  refine lv_goto (tgt := 219) hx hb dX7_island_194 (by decide) ?_
                  subst hR; subst hQz
                  exact W.iret (v := v84_5) hx hb hr (fun t ht hW => ⟨⟨v84_5, (), rfl, trivial, ⟨Iz13, J, ⟨hIz13, fr_Iz13, kp0_11_Iz13, dn_Iz13, (fun σ A => cmA_fr hQ hLp0 hKp0 (fun b hb => fr_Iz13 b (by omega)) (fun _ _ => rfl) kp0_11_Iz13 A), dj_J⟩, by rw [ht]; exact hP⟩⟩, hS.F ht⟩) hS.2.2 dX7_island_219
              · have t179 := tq_eq (k := p3.toInt) (q := (0)) c179 rfl (by decide +kernel)
                refine lv_iload hx hb dX7_island_182 (lv_at hl 4 rfl) ?_
                refine lv_goto (tgt := 219) hx hb dX7_island_184 (by decide) ?_
                subst hR; subst hQz
                exact W.iret (v := v84_4) hx hb hr (fun t ht hW => ⟨⟨v84_4, (), rfl, trivial, ⟨Iz13, J, ⟨hIz13, fr_Iz13, kp0_11_Iz13, dn_Iz13, (fun σ A => cmA_fr hQ hLp0 hKp0 (fun b hb => fr_Iz13 b (by omega)) (fun _ _ => rfl) kp0_11_Iz13 A), dj_J⟩, by rw [ht]; exact hP⟩⟩, hS.F ht⟩) hS.2.2 dX7_island_219
            · have t91 := tq_nle (k := z88.toInt) (q := v84_9.toInt) c91 rfl rfl
              refine lv_iconst (v := 0) hx hb dX7_island_94 (by decide +kernel) ?_
              refine lv_istore (lv' := [(10, .int 0), (0, .ref p0), (1, .int p1), (2, .int p2), (3, .int p3), (4, .int v84_4), (5, .int v84_5), (6, .int v84_6), (7, .int v84_7), (8, .int v84_8), (9, .int v84_9)]) hx hb dX7_island_95 hl (by decide) rfl (fun ls hl => ?_)
              have key97 := blocks (fun n => ∀ (v97_10 : Int32) (v97_4 : Int32) (v97_5 : Int32) (v97_6 : Int32) (v97_7 : Int32) (v97_8 : Int32) (H : Heap) (lo : List Loc) (ls : Array Slot), (101 - v97_10.toInt).toNat = n → ((0) ≤ v97_10.toInt ∧ v97_10.toInt ≤ 100) → ((0) ≤ v97_5.toInt ∧ v97_5.toInt ≤ 100) → ((0) ≤ v97_6.toInt ∧ v97_6.toInt ≤ 40) → ((0) ≤ v97_7.toInt ∧ v97_7.toInt ≤ 99) → ((0) ≤ v97_8.toInt ∧ v97_8.toInt ≤ 39) → va_P (dC, dI) vwCl (Wd cs L K Iz13 J Q) H → va_S A s.heap H lo → lv_has ls 11 [(0, .ref p0), (1, .int p1), (2, .int p2), (3, .int p3), (4, .int v97_4), (5, .int v97_5), (6, .int v97_6), (7, .int v97_7), (8, .int v97_8), (9, .int v84_9), (10, .int v97_10)] → W p l e R s m (([.ref p0, .int p1, .int p2, .int p3] : List Value).toArray) below meth c H lo 0 0 Qz (F0 m 97 ls [])) (by
                intro n ih97
                intro v97_10 v97_4 v97_5 v97_6 v97_7 v97_8 H lo ls hmu97 bv97_10 bv97_5 bv97_6 bv97_7 bv97_8 hP hS hl
                refine lv_iload hx hb dX7_island_97 (lv_at hl 10 rfl) ?_
                refine lv_aload_n hx hb dX7_island_99 rfl (lv_at hl 0 rfl) ?_
                refine lv_iload_n hx hb dX7_island_100 rfl (lv_at hl 1 rfl) ?_
                refine ro_i (va_runV (As := [.int p1]) (rest := [.int v97_10]) ⟨hx, hb, hml, hown, hts⟩ (s_X7_wide l dC dI cs L K G Q hQ x0 m0 tx tm H.size Iz13 J hIz13 p0 hLp0 hKp0 p1 ⟨by omega, by omega⟩) (cwV 1 hts (gV pq1368 pq1370 pq32 pq81 pq1371) rfl rfl rfl (by decide +kernel) ⟨(by rw [hR]; exact (Nat.le_of_ble_eq_true rfl)), (by rw [hR]; exact (Nat.le_of_ble_eq_true rfl))⟩) (sP_V hP hD hK hN hLp0 hKp0 rfl rfl) rfl rfl hl.1 rfl (lv_room (Nat.le_of_ble_eq_true rfl)) dX7_island_101 ⟨(by rw [hR]; exact (Nat.le_of_ble_eq_true rfl)), (by rw [hR]; exact (Nat.le_of_ble_eq_true rfl))⟩) hS hP (fun z101 H locs hz101 hP hS => ?_)
                obtain ⟨bz101, fez101⟩ := hz101
                refine lv_icmp_ge (tgt := 172) hx hb dX7_island_104 (by decide) (fun c104 => ?_) (fun c104 => ?_)
                · have t104 := tq_le (k := z101.toInt) (q := v97_10.toInt) c104 rfl rfl
                  obtain ⟨z172, ez172⟩ : ∃ y : Int32, y = v84_9 + 1 := ⟨_, rfl⟩
                  refine lv_iinc (v := z172) (lv' := [(9, .int z172), (0, .ref p0), (1, .int p1), (2, .int p2), (3, .int p3), (4, .int v97_4), (5, .int v97_5), (6, .int v97_6), (7, .int v97_7), (8, .int v97_8), (10, .int v97_10)]) hx hb dX7_island_172 hl (k := 9) rfl (by rw [ez172]; rfl) (by decide) rfl (fun ls hl => ?_)
                  have bz172 := tq_add (k := v84_9.toInt) (q := 1) ez172 rfl (by decide +kernel) (by omega) (by omega)
                  refine lv_goto (tgt := 84) hx hb dX7_island_175 (by decide) ?_
                  exact ih84 _ (by omega) v97_4 v97_5 v97_6 v97_7 v97_8 z172 _ _ _ rfl ⟨by omega, by omega⟩ ⟨by omega, by omega⟩ ⟨by omega, by omega⟩ ⟨by omega, by omega⟩ ⟨by omega, by omega⟩ hP hS (lv_sub hl [1, 2, 3, 4, 5, 6, 7, 8, 9, 0] rfl)
                · have t104 := tq_nle (k := z101.toInt) (q := v97_10.toInt) c104 rfl rfl
                  refine lv_aload_n hx hb dX7_island_107 rfl (lv_at hl 0 rfl) ?_
                  obtain ⟨y108, ey108, hLy108, hKy108⟩ := oQ_7_21 (Sv_at hQ hLp0 hKp0)
                  refine p_get (v := .ref y108) hx hb hts inX7 hown hK hP hLp0 hKp0 rfl rfl 21 (by decide) (hts _ pq1136) (congrArg (fun q => some (va_rf q)) ey108) dX7_island_108 ?_
                  refine lv_bipush (v := 100) hx hb dX7_island_111 (by decide +kernel) ?_
                  refine lv_iload hx hb dX7_island_113 (lv_at hl 9 rfl) ?_
                  refine lv_imul hx hb dX7_island_115 ?_
                  refine lv_topi (fun z115 ez115 => ?_)
                  have bz115 := tq_mul (k := (100)) (q := v84_9.toInt) ez115 (by decide +kernel) rfl (by omega) (by omega)
                  refine lv_iload hx hb dX7_island_116 (lv_at hl 10 rfl) ?_
                  refine lv_iadd hx hb dX7_island_118 ?_
                  refine lv_topi (fun z118 ez118 => ?_)
                  have bz118 := tq_add (k := z115.toInt) (q := v97_10.toInt) ez118 rfl rfl (by omega) (by omega)
                  refine p_iald hx hb hK hP 17 hLy108 hKy108 rfl rfl (in_of (by omega) (by omega)) dX7_island_119 ?_
                  refine lv_topi (fun z119 ez119 => ?_)
                  refine lv_iload_n hx hb dX7_island_120 rfl (lv_at hl 2 rfl) ?_
                  have j166 : ∀ (v166_4 : Int32) (v166_5 : Int32) (v166_6 : Int32) (v166_7 : Int32) (v166_8 : Int32) (H : Heap) (lo : List Loc) (ls : Array Slot), ((0) ≤ v166_5.toInt ∧ v166_5.toInt ≤ 100) → ((0) ≤ v166_6.toInt ∧ v166_6.toInt ≤ 40) → ((0) ≤ v166_7.toInt ∧ v166_7.toInt ≤ 99) → ((0) ≤ v166_8.toInt ∧ v166_8.toInt ≤ 39) → va_P (dC, dI) vwCl (Wd cs L K Iz13 J Q) H → va_S A s.heap H lo → lv_has ls 11 [(0, .ref p0), (1, .int p1), (2, .int p2), (3, .int p3), (4, .int v166_4), (5, .int v166_5), (6, .int v166_6), (7, .int v166_7), (8, .int v166_8), (9, .int v84_9), (10, .int v97_10)] → W p l e R s m (([.ref p0, .int p1, .int p2, .int p3] : List Value).toArray) below meth c H lo 0 0 Qz (F0 m 166 ls []) := by
                    intro v166_4 v166_5 v166_6 v166_7 v166_8 H lo ls bv166_5 bv166_6 bv166_7 bv166_8 hP hS hl
                    obtain ⟨z166, ez166⟩ : ∃ y : Int32, y = v97_10 + 1 := ⟨_, rfl⟩
                    refine lv_iinc (v := z166) (lv' := [(10, .int z166), (0, .ref p0), (1, .int p1), (2, .int p2), (3, .int p3), (4, .int v166_4), (5, .int v166_5), (6, .int v166_6), (7, .int v166_7), (8, .int v166_8), (9, .int v84_9)]) hx hb dX7_island_166 hl (k := 10) rfl (by rw [ez166]; rfl) (by decide) rfl (fun ls hl => ?_)
                    have bz166 := tq_add (k := v97_10.toInt) (q := 1) ez166 rfl (by decide +kernel) (by omega) (by omega)
                    refine lv_goto (tgt := 97) hx hb dX7_island_169 (by decide) ?_
                    exact ih97 _ (by omega) z166 v166_4 v166_5 v166_6 v166_7 v166_8 _ _ _ rfl ⟨by omega, by omega⟩ ⟨by omega, by omega⟩ ⟨by omega, by omega⟩ ⟨by omega, by omega⟩ ⟨by omega, by omega⟩ hP hS (lv_sub hl [1, 2, 3, 4, 5, 6, 7, 8, 9, 10, 0] rfl)
                  refine lv_icmp_eq (tgt := 127) hx hb dX7_island_121 (by decide) (fun c121 => ?_) (fun c121 => ?_)
                  · have t121 := tq_eq (k := z119.toInt) (q := p2.toInt) c121 rfl rfl
                    obtain ⟨z127, ez127⟩ : ∃ y : Int32, y = v97_4 + 1 := ⟨_, rfl⟩
                    refine lv_iinc (v := z127) (lv' := [(4, .int z127), (0, .ref p0), (1, .int p1), (2, .int p2), (3, .int p3), (5, .int v97_5), (6, .int v97_6), (7, .int v97_7), (8, .int v97_8), (9, .int v84_9), (10, .int v97_10)]) hx hb dX7_island_127 hl (k := 4) rfl (by rw [ez127]; rfl) (by decide) rfl (fun ls hl => ?_)
                    refine lv_iload hx hb dX7_island_130 (lv_at hl 5 rfl) ?_
                    refine lv_iload hx hb dX7_island_132 (lv_at hl 10 rfl) ?_
                    refine va_mmin hx hb (hml.trans hl.1.symm) hown (hts _ pq1269) (hts _ pq407) (hts _ pq82) (hts _ pq408) (by rw [hR]; exact (Nat.le_of_ble_eq_true rfl)) (by rw [hR]; exact (Nat.le_of_ble_eq_true rfl)) (by rw [hR]; exact (Nat.le_of_ble_eq_true rfl)) (by rw [hR]; exact (Nat.le_of_ble_eq_true rfl)) dX7_island_134 ?_
                    refine lv_topi (fun z134 ez134 => ?_)
                    have bz134 := tq_min ez134
                    refine lv_istore (lv' := [(5, .int z134), (4, .int z127), (0, .ref p0), (1, .int p1), (2, .int p2), (3, .int p3), (6, .int v97_6), (7, .int v97_7), (8, .int v97_8), (9, .int v84_9), (10, .int v97_10)]) hx hb dX7_island_137 hl (by decide) rfl (fun ls hl => ?_)
                    refine lv_iload hx hb dX7_island_139 (lv_at hl 6 rfl) ?_
                    refine lv_iload hx hb dX7_island_141 (lv_at hl 9 rfl) ?_
                    refine va_mmin hx hb (hml.trans hl.1.symm) hown (hts _ pq1269) (hts _ pq407) (hts _ pq82) (hts _ pq408) (by rw [hR]; exact (Nat.le_of_ble_eq_true rfl)) (by rw [hR]; exact (Nat.le_of_ble_eq_true rfl)) (by rw [hR]; exact (Nat.le_of_ble_eq_true rfl)) (by rw [hR]; exact (Nat.le_of_ble_eq_true rfl)) dX7_island_143 ?_
                    refine lv_topi (fun z143 ez143 => ?_)
                    have bz143 := tq_min ez143
                    refine lv_istore (lv' := [(6, .int z143), (5, .int z134), (4, .int z127), (0, .ref p0), (1, .int p1), (2, .int p2), (3, .int p3), (7, .int v97_7), (8, .int v97_8), (9, .int v84_9), (10, .int v97_10)]) hx hb dX7_island_146 hl (by decide) rfl (fun ls hl => ?_)
                    refine lv_iload hx hb dX7_island_148 (lv_at hl 7 rfl) ?_
                    refine lv_iload hx hb dX7_island_150 (lv_at hl 10 rfl) ?_
                    refine va_mmax hx hb (hml.trans hl.1.symm) hown (hts _ pq1443) (hts _ pq750) (hts _ pq82) (hts _ pq751) (by rw [hR]; exact (Nat.le_of_ble_eq_true rfl)) (by rw [hR]; exact (Nat.le_of_ble_eq_true rfl)) (by rw [hR]; exact (Nat.le_of_ble_eq_true rfl)) (by rw [hR]; exact (Nat.le_of_ble_eq_true rfl)) dX7_island_152 ?_
                    refine lv_topi (fun z152 ez152 => ?_)
                    have bz152 := tq_max ez152
                    refine lv_istore (lv' := [(7, .int z152), (6, .int z143), (5, .int z134), (4, .int z127), (0, .ref p0), (1, .int p1), (2, .int p2), (3, .int p3), (8, .int v97_8), (9, .int v84_9), (10, .int v97_10)]) hx hb dX7_island_155 hl (by decide) rfl (fun ls hl => ?_)
                    refine lv_iload hx hb dX7_island_157 (lv_at hl 8 rfl) ?_
                    refine lv_iload hx hb dX7_island_159 (lv_at hl 9 rfl) ?_
                    refine va_mmax hx hb (hml.trans hl.1.symm) hown (hts _ pq1443) (hts _ pq750) (hts _ pq82) (hts _ pq751) (by rw [hR]; exact (Nat.le_of_ble_eq_true rfl)) (by rw [hR]; exact (Nat.le_of_ble_eq_true rfl)) (by rw [hR]; exact (Nat.le_of_ble_eq_true rfl)) (by rw [hR]; exact (Nat.le_of_ble_eq_true rfl)) dX7_island_161 ?_
                    refine lv_topi (fun z161 ez161 => ?_)
                    have bz161 := tq_max ez161
                    refine lv_istore (lv' := [(8, .int z161), (7, .int z152), (6, .int z143), (5, .int z134), (4, .int z127), (0, .ref p0), (1, .int p1), (2, .int p2), (3, .int p3), (9, .int v84_9), (10, .int v97_10)]) hx hb dX7_island_164 hl (by decide) rfl (fun ls hl => ?_)
                    exact j166 z127 z134 z143 z152 z161 _ _ _ ⟨by omega, by omega⟩ ⟨by omega, by omega⟩ ⟨by omega, by omega⟩ ⟨by omega, by omega⟩ hP hS (lv_sub hl [5, 6, 7, 8, 4, 3, 2, 1, 0, 9, 10] rfl)
                  · have t121 := tq_ne (k := z119.toInt) (q := p2.toInt) c121 rfl rfl
                    refine lv_goto (tgt := 166) hx hb dX7_island_124 (by decide) ?_
                    exact j166 v97_4 v97_5 v97_6 v97_7 v97_8 _ _ _ ⟨by omega, by omega⟩ ⟨by omega, by omega⟩ ⟨by omega, by omega⟩ ⟨by omega, by omega⟩ hP hS (lv_sub hl [0, 1, 2, 3, 4, 5, 6, 7, 8, 9, 10] rfl))
              exact key97 _ 0 v84_4 v84_5 v84_6 v84_7 v84_8 _ _ _ rfl ⟨by decide +kernel, by decide +kernel⟩ ⟨by omega, by omega⟩ ⟨by omega, by omega⟩ ⟨by omega, by omega⟩ ⟨by omega, by omega⟩ hP hS (lv_sub hl [1, 2, 3, 4, 5, 6, 7, 8, 9, 10, 0] rfl))
          exact key84 _ 0 100 40 0 0 0 _ _ _ rfl ⟨by decide +kernel, by decide +kernel⟩ ⟨by decide +kernel, by decide +kernel⟩ ⟨by decide +kernel, by decide +kernel⟩ ⟨by decide +kernel, by decide +kernel⟩ ⟨by decide +kernel, by decide +kernel⟩ hP hS (lv_sub hl [6, 7, 8, 9, 5, 4, 3, 2, 1, 0] rfl)
        · have t59 := tq_eq (k := z56.toInt) (q := (0)) c59 rfl (by decide +kernel)
          refine lv_iconst (v := (-1)) hx hb dX7_island_62 (by decide +kernel) ?_
          subst hR; subst hQz
          exact W.iret (v := (-1)) hx hb hr (fun t ht hW => ⟨⟨(-1), (), rfl, trivial, ⟨Iz13, J, ⟨hIz13, fr_Iz13, kp0_11_Iz13, dn_Iz13, (fun σ A => cmA_fr hQ hLp0 hKp0 (fun b hb => fr_Iz13 b (by omega)) (fun _ _ => rfl) kp0_11_Iz13 A), dj_J⟩, by rw [ht]; exact hP⟩⟩, hS.F ht⟩) hS.2.2 dX7_island_63
    · have t18 := tq_eq (k := p2.toInt) (q := (-1)) c18 rfl (by decide +kernel)
      refine lv_iload_n hx hb dX7_island_21 rfl (lv_at hl 3 rfl) ?_
      refine lv_if_ne (tgt := 32) hx hb dX7_island_22 (by decide) (fun c22 => ?_) (fun c22 => ?_)
      · have t22 := tq_ne (k := p3.toInt) (q := (0)) c22 rfl (by decide +kernel)
        refine lv_iconst (v := (-1)) hx hb dX7_island_32 (by decide +kernel) ?_
        subst hR; subst hQz
        exact W.iret (v := (-1)) hx hb hr (fun t ht hW => ⟨⟨(-1), (), rfl, trivial, ⟨Iz13, J, ⟨hIz13, fr_Iz13, kp0_11_Iz13, dn_Iz13, (fun σ A => cmA_fr hQ hLp0 hKp0 (fun b hb => fr_Iz13 b (by omega)) (fun _ _ => rfl) kp0_11_Iz13 A), dj_J⟩, by rw [ht]; exact hP⟩⟩, hS.F ht⟩) hS.2.2 dX7_island_33
      · have t22 := tq_eq (k := p3.toInt) (q := (0)) c22 rfl (by decide +kernel)
        refine lv_aload_n hx hb dX7_island_25 rfl (lv_at hl 0 rfl) ?_
        refine p_get hx hb hts inX7 hown hK hP hLp0 hKp0 rfl rfl 23 (by decide) (hts _ pq1138) rfl dX7_island_26 ?_
        refine lv_topi (fun z26 ez26 => ?_)
        have cgz26 := congrArg Int32.toInt ez26
        refine lv_goto (tgt := 33) hx hb dX7_island_29 (by decide) ?_
        subst hR; subst hQz
        exact W.iret (v := z26) hx hb hr (fun t ht hW => ⟨⟨z26, (), rfl, trivial, ⟨Iz13, J, ⟨hIz13, fr_Iz13, kp0_11_Iz13, dn_Iz13, (fun σ A => cmA_fr hQ hLp0 hKp0 (fun b hb => fr_Iz13 b (by omega)) (fun _ _ => rfl) kp0_11_Iz13 A), dj_J⟩, by rw [ht]; exact hP⟩⟩, hS.F ht⟩) hS.2.2 dX7_island_33
  · have t5 := tq_eq (k := z2.toInt) (q := (0)) c5 rfl (by decide +kernel)
    refine lv_iconst (v := (-1)) hx hb dX7_island_8 (by decide +kernel) ?_
    subst hR; subst hQz
    exact W.iret (v := (-1)) hx hb hr (fun t ht hW => ⟨⟨(-1), (), rfl, trivial, ⟨I, J, ⟨hI, fr_I, kp0_11_I, dn_I, (fun σ A => cmA_fr hQ hLp0 hKp0 (fun _ _ => rfl) (fun _ _ => rfl) rfl A), dj_J⟩, by rw [ht]; exact hP⟩⟩, hS.F ht⟩) hS.2.2 dX7_island_9
