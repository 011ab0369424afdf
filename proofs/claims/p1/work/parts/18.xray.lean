def yX6_isWithin : MethodName := ⟨RX6, "isWithin", "(II)Z"⟩
abbrev cX6_isWithin : ByteArray := prog_1_method_64_code
def yX6_wayLength : MethodName := ⟨RX6, "wayLength", "(II)I"⟩
abbrev cX6_wayLength : ByteArray := prog_1_method_65_code
def yX6_wayPart : MethodName := ⟨RX6, "wayPart", "(III)I"⟩
abbrev cX6_wayPart : ByteArray := prog_1_method_66_code
def yJ9_floorDiv_7cf53 : MethodName := ⟨RJ9, "floorDiv", "(II)I"⟩
abbrev cJ9_floorDiv_7cf53 : ByteArray := prog_13_method_47_code
abbrev cX6_ray : ByteArray := prog_1_method_56_code
def yX6_ray : MethodName := ⟨RX6, "ray", "(IIII)I"⟩
theorem dJ9_floorDiv_7cf53_0 : decode cJ9_floorDiv_7cf53 0 = .ok (.iload_n 0, 1) := by decide +kernel
theorem dJ9_floorDiv_7cf53_1 : decode cJ9_floorDiv_7cf53 1 = .ok (.iload_n 1, 1) := by decide +kernel
theorem dJ9_floorDiv_7cf53_2 : decode cJ9_floorDiv_7cf53 2 = .ok (.idiv, 1) := by decide +kernel
theorem dJ9_floorDiv_7cf53_3 : decode cJ9_floorDiv_7cf53 3 = .ok (.istore_n 2, 1) := by decide +kernel
theorem dJ9_floorDiv_7cf53_4 : decode cJ9_floorDiv_7cf53 4 = .ok (.iload_n 0, 1) := by decide +kernel
theorem dJ9_floorDiv_7cf53_5 : decode cJ9_floorDiv_7cf53 5 = .ok (.iload_n 1, 1) := by decide +kernel
theorem dJ9_floorDiv_7cf53_6 : decode cJ9_floorDiv_7cf53 6 = .ok (.ixor, 1) := by decide +kernel
theorem dJ9_floorDiv_7cf53_7 : decode cJ9_floorDiv_7cf53 7 = .ok (.ifCond .ge 14, 3) := by decide +kernel
theorem dJ9_floorDiv_7cf53_10 : decode cJ9_floorDiv_7cf53 10 = .ok (.iload_n 2, 1) := by decide +kernel
theorem dJ9_floorDiv_7cf53_11 : decode cJ9_floorDiv_7cf53 11 = .ok (.iload_n 1, 1) := by decide +kernel
theorem dJ9_floorDiv_7cf53_12 : decode cJ9_floorDiv_7cf53 12 = .ok (.imul, 1) := by decide +kernel
theorem dJ9_floorDiv_7cf53_13 : decode cJ9_floorDiv_7cf53 13 = .ok (.iload_n 0, 1) := by decide +kernel
theorem dJ9_floorDiv_7cf53_14 : decode cJ9_floorDiv_7cf53 14 = .ok (.if_icmp .eq 7, 3) := by decide +kernel
theorem dJ9_floorDiv_7cf53_17 : decode cJ9_floorDiv_7cf53 17 = .ok (.iload_n 2, 1) := by decide +kernel
theorem dJ9_floorDiv_7cf53_18 : decode cJ9_floorDiv_7cf53 18 = .ok (.iconst 1, 1) := by decide +kernel
theorem dJ9_floorDiv_7cf53_19 : decode cJ9_floorDiv_7cf53 19 = .ok (.isub, 1) := by decide +kernel
theorem dJ9_floorDiv_7cf53_20 : decode cJ9_floorDiv_7cf53 20 = .ok (.ireturn, 1) := by decide +kernel
theorem dJ9_floorDiv_7cf53_21 : decode cJ9_floorDiv_7cf53 21 = .ok (.iload_n 2, 1) := by decide +kernel
theorem dJ9_floorDiv_7cf53_22 : decode cJ9_floorDiv_7cf53 22 = .ok (.ireturn, 1) := by decide +kernel
theorem dX6_isWithin_0 : decode cX6_isWithin 0 = .ok (.iload_n 0, 1) := by decide +kernel
theorem dX6_isWithin_1 : decode cX6_isWithin 1 = .ok (.iload_n 1, 1) := by decide +kernel
theorem dX6_isWithin_2 : decode cX6_isWithin 2 = .ok (.ineg, 1) := by decide +kernel
theorem dX6_isWithin_3 : decode cX6_isWithin 3 = .ok (.if_icmp .lt 12, 3) := by decide +kernel
theorem dX6_isWithin_6 : decode cX6_isWithin 6 = .ok (.iload_n 0, 1) := by decide +kernel
theorem dX6_isWithin_7 : decode cX6_isWithin 7 = .ok (.iload_n 1, 1) := by decide +kernel
theorem dX6_isWithin_8 : decode cX6_isWithin 8 = .ok (.if_icmp .gt 7, 3) := by decide +kernel
theorem dX6_isWithin_11 : decode cX6_isWithin 11 = .ok (.iconst 1, 1) := by decide +kernel
theorem dX6_isWithin_12 : decode cX6_isWithin 12 = .ok (.goto 4, 3) := by decide +kernel
theorem dX6_isWithin_15 : decode cX6_isWithin 15 = .ok (.iconst 0, 1) := by decide +kernel
theorem dX6_isWithin_16 : decode cX6_isWithin 16 = .ok (.ireturn, 1) := by decide +kernel
theorem dX6_ray_0 : decode cX6_ray 0 = .ok (.iload_n 1, 1) := by decide +kernel
theorem dX6_ray_1 : decode cX6_ray 1 = .ok (.sipush 9999, 3) := by decide +kernel
theorem dX6_ray_4 : decode cX6_ray 4 = .ok (.invokestatic 90, 3) := by decide +kernel
theorem dX6_ray_7 : decode cX6_ray 7 = .ok (.ifCond .eq 34, 3) := by decide +kernel
theorem dX6_ray_10 : decode cX6_ray 10 = .ok (.iload_n 2, 1) := by decide +kernel
theorem dX6_ray_11 : decode cX6_ray 11 = .ok (.sipush 9999, 3) := by decide +kernel
theorem dX6_ray_14 : decode cX6_ray 14 = .ok (.invokestatic 90, 3) := by decide +kernel
theorem dX6_ray_17 : decode cX6_ray 17 = .ok (.ifCond .eq 24, 3) := by decide +kernel
theorem dX6_ray_20 : decode cX6_ray 20 = .ok (.iload_n 3, 1) := by decide +kernel
theorem dX6_ray_21 : decode cX6_ray 21 = .ok (.sipush 300, 3) := by decide +kernel
theorem dX6_ray_24 : decode cX6_ray 24 = .ok (.invokestatic 90, 3) := by decide +kernel
theorem dX6_ray_27 : decode cX6_ray 27 = .ok (.ifCond .eq 14, 3) := by decide +kernel
theorem dX6_ray_30 : decode cX6_ray 30 = .ok (.iload 4, 2) := by decide +kernel
theorem dX6_ray_32 : decode cX6_ray 32 = .ok (.sipush 300, 3) := by decide +kernel
theorem dX6_ray_35 : decode cX6_ray 35 = .ok (.invokestatic 90, 3) := by decide +kernel
theorem dX6_ray_38 : decode cX6_ray 38 = .ok (.ifCond .ne 5, 3) := by decide +kernel
theorem dX6_ray_41 : decode cX6_ray 41 = .ok (.iconst (-1), 1) := by decide +kernel
theorem dX6_ray_42 : decode cX6_ray 42 = .ok (.ireturn, 1) := by decide +kernel
theorem dX6_ray_43 : decode cX6_ray 43 = .ok (.iload_n 3, 1) := by decide +kernel
theorem dX6_ray_44 : decode cX6_ray 44 = .ok (.iload 4, 2) := by decide +kernel
theorem dX6_ray_46 : decode cX6_ray 46 = .ok (.invokestatic 214, 3) := by decide +kernel
theorem dX6_ray_49 : decode cX6_ray 49 = .ok (.istore 5, 2) := by decide +kernel
theorem dX6_ray_51 : decode cX6_ray 51 = .ok (.iconst 0, 1) := by decide +kernel
theorem dX6_ray_52 : decode cX6_ray 52 = .ok (.istore 6, 2) := by decide +kernel
theorem dX6_ray_54 : decode cX6_ray 54 = .ok (.iload 6, 2) := by decide +kernel
theorem dX6_ray_56 : decode cX6_ray 56 = .ok (.iload 5, 2) := by decide +kernel
theorem dX6_ray_58 : decode cX6_ray 58 = .ok (.if_icmp .gt 80, 3) := by decide +kernel
theorem dX6_ray_61 : decode cX6_ray 61 = .ok (.iload_n 1, 1) := by decide +kernel
theorem dX6_ray_62 : decode cX6_ray 62 = .ok (.iload 6, 2) := by decide +kernel
theorem dX6_ray_64 : decode cX6_ray 64 = .ok (.iload_n 3, 1) := by decide +kernel
theorem dX6_ray_65 : decode cX6_ray 65 = .ok (.iload 5, 2) := by decide +kernel
theorem dX6_ray_67 : decode cX6_ray 67 = .ok (.invokestatic 218, 3) := by decide +kernel
theorem dX6_ray_70 : decode cX6_ray 70 = .ok (.iadd, 1) := by decide +kernel
theorem dX6_ray_71 : decode cX6_ray 71 = .ok (.istore 7, 2) := by decide +kernel
theorem dX6_ray_73 : decode cX6_ray 73 = .ok (.iload_n 2, 1) := by decide +kernel
theorem dX6_ray_74 : decode cX6_ray 74 = .ok (.iload 6, 2) := by decide +kernel
theorem dX6_ray_76 : decode cX6_ray 76 = .ok (.iload 4, 2) := by decide +kernel
theorem dX6_ray_78 : decode cX6_ray 78 = .ok (.iload 5, 2) := by decide +kernel
theorem dX6_ray_80 : decode cX6_ray 80 = .ok (.invokestatic 218, 3) := by decide +kernel
theorem dX6_ray_83 : decode cX6_ray 83 = .ok (.iadd, 1) := by decide +kernel
theorem dX6_ray_84 : decode cX6_ray 84 = .ok (.istore 8, 2) := by decide +kernel
theorem dX6_ray_86 : decode cX6_ray 86 = .ok (.iconst 0, 1) := by decide +kernel
theorem dX6_ray_87 : decode cX6_ray 87 = .ok (.istore 9, 2) := by decide +kernel
theorem dX6_ray_89 : decode cX6_ray 89 = .ok (.iload 9, 2) := by decide +kernel
theorem dX6_ray_91 : decode cX6_ray 91 = .ok (.aload_n 0, 1) := by decide +kernel
theorem dX6_ray_92 : decode cX6_ray 92 = .ok (.getfield 20, 3) := by decide +kernel
theorem dX6_ray_95 : decode cX6_ray 95 = .ok (.getfield 83, 3) := by decide +kernel
theorem dX6_ray_98 : decode cX6_ray 98 = .ok (.if_icmp .ge 34, 3) := by decide +kernel
theorem dX6_ray_132 : decode cX6_ray 132 = .ok (.iinc 6 1, 3) := by decide +kernel
theorem dX6_ray_135 : decode cX6_ray 135 = .ok (.goto (-81), 3) := by decide +kernel
theorem dX6_ray_138 : decode cX6_ray 138 = .ok (.bipush (-2), 2) := by decide +kernel
theorem dX6_ray_140 : decode cX6_ray 140 = .ok (.ireturn, 1) := by decide +kernel
theorem dX6_wayLength_0 : decode cX6_wayLength 0 = .ok (.iload_n 0, 1) := by decide +kernel
theorem dX6_wayLength_1 : decode cX6_wayLength 1 = .ok (.invokestatic 373, 3) := by decide +kernel
theorem dX6_wayLength_4 : decode cX6_wayLength 4 = .ok (.iload_n 1, 1) := by decide +kernel
theorem dX6_wayLength_5 : decode cX6_wayLength 5 = .ok (.invokestatic 373, 3) := by decide +kernel
theorem dX6_wayLength_8 : decode cX6_wayLength 8 = .ok (.invokestatic 378, 3) := by decide +kernel
theorem dX6_wayLength_11 : decode cX6_wayLength 11 = .ok (.ireturn, 1) := by decide +kernel
theorem dX6_wayPart_0 : decode cX6_wayPart 0 = .ok (.iload_n 2, 1) := by decide +kernel
theorem dX6_wayPart_1 : decode cX6_wayPart 1 = .ok (.ifCond .gt 7, 3) := by decide +kernel
theorem dX6_wayPart_4 : decode cX6_wayPart 4 = .ok (.iconst 0, 1) := by decide +kernel
theorem dX6_wayPart_5 : decode cX6_wayPart 5 = .ok (.goto 16, 3) := by decide +kernel
theorem dX6_wayPart_8 : decode cX6_wayPart 8 = .ok (.iconst 2, 1) := by decide +kernel
theorem dX6_wayPart_9 : decode cX6_wayPart 9 = .ok (.iload_n 0, 1) := by decide +kernel
theorem dX6_wayPart_10 : decode cX6_wayPart 10 = .ok (.imul, 1) := by decide +kernel
theorem dX6_wayPart_11 : decode cX6_wayPart 11 = .ok (.iload_n 1, 1) := by decide +kernel
theorem dX6_wayPart_12 : decode cX6_wayPart 12 = .ok (.imul, 1) := by decide +kernel
theorem dX6_wayPart_13 : decode cX6_wayPart 13 = .ok (.iload_n 2, 1) := by decide +kernel
theorem dX6_wayPart_14 : decode cX6_wayPart 14 = .ok (.iadd, 1) := by decide +kernel
theorem dX6_wayPart_15 : decode cX6_wayPart 15 = .ok (.iconst 2, 1) := by decide +kernel
theorem dX6_wayPart_16 : decode cX6_wayPart 16 = .ok (.iload_n 2, 1) := by decide +kernel
theorem dX6_wayPart_17 : decode cX6_wayPart 17 = .ok (.imul, 1) := by decide +kernel
theorem dX6_wayPart_18 : decode cX6_wayPart 18 = .ok (.invokestatic 381, 3) := by decide +kernel
theorem dX6_wayPart_21 : decode cX6_wayPart 21 = .ok (.ireturn, 1) := by decide +kernel
set_option maxRecDepth 100000 in
theorem pq640 : Cond.methodLink RX6 90 yX6_isWithin ∈ pw := pw_mem (i := 640) (by decide +kernel) rfl
set_option maxRecDepth 100000 in
theorem pq641 : Cond.static yX6_isWithin ∈ pw := pw_mem (i := 641) (by decide +kernel) rfl
set_option maxRecDepth 100000 in
theorem pq642 : Cond.code yX6_isWithin cX6_isWithin 2 (some .boolean) ∈ pw := pw_mem (i := 642) (by rfl) rfl
set_option maxRecDepth 100000 in
theorem pq744 : Cond.static yX6_wayLength ∈ pw := pw_mem (i := 744) (by decide +kernel) rfl
set_option maxRecDepth 100000 in
theorem pq745 : Cond.code yX6_wayLength cX6_wayLength 2 (some .int) ∈ pw := pw_mem (i := 745) (by rfl) rfl
set_option maxRecDepth 100000 in
theorem pq746 : Cond.methodLink RX6 373 Lib.Math.abs.name ∈ pw := pw_mem (i := 746) (by decide +kernel) rfl
set_option maxRecDepth 100000 in
theorem pq747 : Cond.static Lib.Math.abs.name ∈ pw := pw_mem (i := 747) (by decide +kernel) rfl
set_option maxRecDepth 100000 in
theorem pq748 : Cond.code Lib.Math.abs.name Lib.Math.abs.code 1 (some .int) ∈ pw := pw_mem (i := 748) (by rfl) rfl
set_option maxRecDepth 100000 in
theorem pq749 : Cond.methodLink RX6 378 Lib.Math.max.name ∈ pw := pw_mem (i := 749) (by decide +kernel) rfl
set_option maxRecDepth 100000 in
theorem pq750 : Cond.static Lib.Math.max.name ∈ pw := pw_mem (i := 750) (by decide +kernel) rfl
set_option maxRecDepth 100000 in
theorem pq751 : Cond.code Lib.Math.max.name Lib.Math.max.code 2 (some .int) ∈ pw := pw_mem (i := 751) (by rfl) rfl
set_option maxRecDepth 100000 in
theorem pq779 : Cond.static yX6_wayPart ∈ pw := pw_mem (i := 779) (by decide +kernel) rfl
set_option maxRecDepth 100000 in
theorem pq780 : Cond.code yX6_wayPart cX6_wayPart 3 (some .int) ∈ pw := pw_mem (i := 780) (by rfl) rfl
set_option maxRecDepth 100000 in
theorem pq781 : Cond.methodLink RX6 381 yJ9_floorDiv_7cf53 ∈ pw := pw_mem (i := 781) (by decide +kernel) rfl
set_option maxRecDepth 100000 in
theorem pq782 : Cond.static yJ9_floorDiv_7cf53 ∈ pw := pw_mem (i := 782) (by decide +kernel) rfl
set_option maxRecDepth 100000 in
theorem pq783 : Cond.code yJ9_floorDiv_7cf53 cJ9_floorDiv_7cf53 3 (some .int) ∈ pw := pw_mem (i := 783) (by rfl) rfl
set_option maxRecDepth 100000 in
theorem pq797 : Cond.methodLink RX6 214 yX6_wayLength ∈ pw := pw_mem (i := 797) (by decide +kernel) rfl
set_option maxRecDepth 100000 in
theorem pq798 : Cond.methodLink RX6 218 yX6_wayPart ∈ pw := pw_mem (i := 798) (by decide +kernel) rfl
theorem rng_p {P : Prop} [Decidable P] {r : Int32} (h : r = if P then 0 else 1) (c : r = 0) : P := by
  by_cases hp : P
  · exact hp
  · rw [if_neg hp] at h; rw [h] at c; exact absurd c (by decide +kernel)
theorem fb_rng (x : Int32) : -2147483648 ≤ x.toInt ∧ x.toInt < 2147483648 := by
  have h1 := Int32.le_toInt x
  have h2 := Int32.toInt_lt x
  omega
theorem fb_bmod {z : Int} (h1 : -2147483648 ≤ z) (h2 : z < 2147483648) : z.bmod (2 ^ 32) = z := by
  rw [Int.bmod_eq_of_le (by omega) (by omega)]
theorem fb_subI {x y : Int32} (h1 : -2147483648 ≤ x.toInt - y.toInt) (h2 : x.toInt - y.toInt < 2147483648) : (x - y).toInt = x.toInt - y.toInt := by
  rw [Int32.toInt_sub, fb_bmod h1 h2]
theorem fb_mulI {x y : Int32} (h1 : -2147483648 ≤ x.toInt * y.toInt) (h2 : x.toInt * y.toInt < 2147483648) : (x * y).toInt = x.toInt * y.toInt := by
  rw [Int32.toInt_mul, fb_bmod h1 h2]
theorem abs300 {x : Int32} (h : ¬ (x < -300 ∨ 300 < x)) {y : Int32} (hy : y = if 0 ≤ x then x else 0 - x) : 0 ≤ y.toInt ∧ y.toInt ≤ 300 := by
  have h1 : (-300 : Int32) ≤ x := Int32.not_lt.mp (fun q => h (Or.inl q))
  have h2 : x ≤ 300 := Int32.not_lt.mp (fun q => h (Or.inr q))
  rw [Int32.le_iff_toInt_le] at h1 h2
  have e1 : (-300 : Int32).toInt = -300 := by decide +kernel
  have e2 : (300 : Int32).toInt = 300 := by decide +kernel
  have e0 : (0 : Int32).toInt = 0 := by decide +kernel
  rw [e1] at h1
  rw [e2] at h2
  by_cases h3 : 0 ≤ x
  · rw [if_pos h3] at hy
    rw [Int32.le_iff_toInt_le, e0] at h3
    rw [hy]
    exact ⟨h3, h2⟩
  · rw [if_neg h3] at hy
    rw [Int32.le_iff_toInt_le, e0] at h3
    rw [hy, fb_subI (by rw [e0]; omega) (by rw [e0]; omega), e0]
    omega
theorem max300 {x y z : Int32} (hx : 0 ≤ x.toInt ∧ x.toInt ≤ 300) (hy : 0 ≤ y.toInt ∧ y.toInt ≤ 300) (hz : z = if x < y then y else x) : 0 ≤ z.toInt ∧ z.toInt ≤ 300 := by
  by_cases h : x < y
  · rw [if_pos h] at hz; rw [hz]; exact hy
  · rw [if_neg h] at hz; rw [hz]; exact hx
theorem nI_300 {z : Int32} (h : 0 ≤ z.toInt ∧ z.toInt ≤ 300) : ∃ j : Nat, j ≤ 300 ∧ z = nI j := by
  refine nI_of2 (M := 300) (n := 300) (by decide +kernel) ?_ ?_
  · rw [Int32.lt_iff_toInt_lt, show (0 : Int32).toInt = 0 from by decide +kernel]; omega
  · rw [Int32.le_iff_toInt_le, show (300 : Int32).toInt = 300 from by decide +kernel]; exact h.2
theorem dbl_ne {N : Nat} (h : N ≤ 300) (h0 : 0 < N) {z : Int32} (hz : z = 2 * nI N) : ¬ z = 0 := by
  rw [hz, show (2 : Int32) = nI 2 from rfl, pk_mul]
  exact nI_ne0 (by omega) (by omega)
theorem nI_p {N : Nat} (h : 0 < nI N) : 0 < N := by
  rcases Nat.eq_zero_or_pos N with q | q
  · rw [q] at h; exact absurd h (by decide +kernel)
  · exact q
theorem nI_q {N : Nat} (h : ¬ nI N = 0) : 0 < N := by
  rcases Nat.eq_zero_or_pos N with q | q
  · rw [q] at h; exact absurd (by decide +kernel) h
  · exact q

set_option maxHeartbeats 4000000 in
set_option maxRecDepth 100000 in
theorem c_X6_isWithin (l : Launch) (dC : Nat → ClassId) (dI : Nat → Nat → Nat) (sz : Nat) (p0 : Int32) (p1 : Int32) : Met l yX6_isWithin (.code yX6_isWithin cX6_isWithin 2 (some .boolean) :: pw) ({ frames := 0, cells := 0, slots := 0, locals := 0 }) (pc (dC, dI) [.int p0, .int p1] sz [] []) (va_Qi (fun (r : Int32) (_ : Unit) => r = if p0 < -p1 ∨ p1 < p0 then 0 else 1) (fun _ _ => True) (fun _ => False)) 0 0 (fun _ => False) := by
  refine Met.ofW (cc := cX6_isWithin) (maxL := 2) (ret := (some .boolean)) (by decide +kernel) rfl ?_
  intro p e s m args below meth c s₁ B hml hv
  obtain ⟨rfl, hsz, hP, hK, hD0, hN⟩ := hv
  have hx := B.exec
  have hb := B.bytes
  have hr := B.returns
  have hts := fun w (h : w ∈ pw) => atoms_spec (ws := Cond.code yX6_isWithin cX6_isWithin 2 (some .boolean) :: pw) B.pre w (List.mem_cons_of_mem _ h)
  have hown : s.vm.findClass RX6 = some m.cls := findClass_of_methodNamed B.named
  have hlocks := B.notSynchronized
  subst hsz
  have hD := hD0
  obtain ⟨H, hHe⟩ : ∃ H : Heap, H = s.heap := ⟨_, rfl⟩
  have hS : va_S (fun _ => False) s.heap H [] := by rw [hHe]; exact va_S.rf
  rw [← hHe] at hP
  have hl := lv_entry ([.int p0, .int p1]) (n := 2) (Nat.le_of_ble_eq_true rfl)
  rw [lg_entry_eq]
  generalize (lg_sl ([.int p0, .int p1]) ++ List.replicate (2 - (lg_sl ([.int p0, .int p1])).length) Slot.unset).toArray = ls at hl ⊢
  have hl : lv_has ls 2 [(0, .int p0), (1, .int p1)] := hl
  rw [← hHe]
  refine lv_iload_n hx hb dX6_isWithin_0 rfl (lv_at hl 0 rfl) ?_
  refine lv_iload_n hx hb dX6_isWithin_1 rfl (lv_at hl 1 rfl) ?_
  refine lv_ineg hx hb dX6_isWithin_2 ?_
  refine lv_topi (fun z1 ez1 => ?_)
  refine lv_icmp_lt (tgt := 15) hx hb dX6_isWithin_3 (by decide) (fun c2 => ?_) (fun c2 => ?_)
  · refine lv_iconst (v := 0) hx hb dX6_isWithin_15 (by decide +kernel) ?_
    exact W.zret (v := 0) hx hb hr (by decide +kernel) (fun t ht hW => ⟨⟨0, (), rfl, (if_pos (Or.inl (ez1 ▸ c2))).symm, trivial⟩, hS.F ht⟩) hS.2.2 dX6_isWithin_16
  · refine lv_iload_n hx hb dX6_isWithin_6 rfl (lv_at hl 0 rfl) ?_
    refine lv_iload_n hx hb dX6_isWithin_7 rfl (lv_at hl 1 rfl) ?_
    refine lv_icmp_gt (tgt := 15) hx hb dX6_isWithin_8 (by decide) (fun c3 => ?_) (fun c3 => ?_)
    · refine lv_iconst (v := 0) hx hb dX6_isWithin_15 (by decide +kernel) ?_
      exact W.zret (v := 0) hx hb hr (by decide +kernel) (fun t ht hW => ⟨⟨0, (), rfl, (if_pos (Or.inr c3)).symm, trivial⟩, hS.F ht⟩) hS.2.2 dX6_isWithin_16
    · refine lv_iconst (v := 1) hx hb dX6_isWithin_11 (by decide +kernel) ?_
      refine lv_goto (tgt := 16) hx hb dX6_isWithin_12 (by decide) ?_
      exact W.zret (v := 1) hx hb hr (by decide +kernel) (fun t ht hW => ⟨⟨1, (), rfl, (if_neg (fun h => h.elim (fun q => c2 (by rw [ez1]; exact q)) c3)).symm, trivial⟩, hS.F ht⟩) hS.2.2 dX6_isWithin_16

set_option maxHeartbeats 4000000 in
set_option maxRecDepth 100000 in
theorem c_J9_floorDiv (l : Launch) (dC : Nat → ClassId) (dI : Nat → Nat → Nat) (sz : Nat) (p0 : Int32) (p1 : Int32) (g0 : ¬ p1 = 0) : Met l yJ9_floorDiv_7cf53 (.code yJ9_floorDiv_7cf53 cJ9_floorDiv_7cf53 3 (some .int) :: pw) ({ frames := 0, cells := 0, slots := 0, locals := 0 }) (pc (dC, dI) [.int p0, .int p1] sz [] []) (va_Qi (fun (r : Int32) (_ : Unit) => True) (fun _ _ => True) (fun _ => False)) 0 0 (fun _ => False) := by
  refine va_MetF (l := l) (cc := cJ9_floorDiv_7cf53) (maxL := 3) (ret := (some .int)) (by decide +kernel) rfl ?_
  intro p e s m args below meth c s₁ B hml hv
  obtain ⟨rfl, hsz, hP, hK, hD0, hN⟩ := hv
  have hx := B.exec
  have hb := B.bytes
  have hr := B.returns
  have hts := fun w (h : w ∈ pw) => atoms_spec (ws := Cond.code yJ9_floorDiv_7cf53 cJ9_floorDiv_7cf53 3 (some .int) :: pw) B.pre w (List.mem_cons_of_mem _ h)
  have hown : s.vm.findClass RJ9 = some m.cls := findClass_of_methodNamed B.named
  have hlocks := B.notSynchronized
  subst hsz
  have hD := hD0
  obtain ⟨H, hHe⟩ : ∃ H : Heap, H = s.heap := ⟨_, rfl⟩
  have hS : va_S (fun _ => False) s.heap H [] := by rw [hHe]; exact va_S.rf
  rw [← hHe] at hP
  have hl := lv_entry ([.int p0, .int p1]) (n := 3) (Nat.le_of_ble_eq_true rfl)
  rw [lg_entry_eq]
  generalize (lg_sl ([.int p0, .int p1]) ++ List.replicate (3 - (lg_sl ([.int p0, .int p1])).length) Slot.unset).toArray = ls at hl ⊢
  have hl : lv_has ls 3 [(0, .int p0), (1, .int p1)] := hl
  rw [← hHe]
  refine lv_iload_n hx hb dJ9_floorDiv_7cf53_0 rfl (lv_at hl 0 rfl) ?_
  refine lv_iload_n hx hb dJ9_floorDiv_7cf53_1 rfl (lv_at hl 1 rfl) ?_
  refine lv_idiv hx hb dJ9_floorDiv_7cf53_2 (g0) ?_
  refine lv_topi (fun z1 ez1 => ?_)
  refine lv_istore_n (lv' := [(2, .int z1), (0, .int p0), (1, .int p1)]) hx hb dJ9_floorDiv_7cf53_3 rfl hl (by decide) rfl (fun ls hl => ?_)
  refine lv_iload_n hx hb dJ9_floorDiv_7cf53_4 rfl (lv_at hl 1 rfl) ?_
  refine lv_iload_n hx hb dJ9_floorDiv_7cf53_5 rfl (lv_at hl 2 rfl) ?_
  refine lv_ixor hx hb dJ9_floorDiv_7cf53_6 ?_
  refine lv_topi (fun z2 ez2 => ?_)
  refine lv_if_ge (tgt := 21) hx hb dJ9_floorDiv_7cf53_7 (by decide) (fun c3 => ?_) (fun c3 => ?_)
  · refine lv_iload_n hx hb dJ9_floorDiv_7cf53_21 rfl (lv_at hl 0 rfl) ?_
    exact W.iret (v := z1) hx hb hr (fun t ht hW => ⟨⟨z1, (), rfl, trivial, trivial⟩, hS.F ht⟩) hS.2.2 dJ9_floorDiv_7cf53_22
  · refine lv_iload_n hx hb dJ9_floorDiv_7cf53_10 rfl (lv_at hl 0 rfl) ?_
    refine lv_iload_n hx hb dJ9_floorDiv_7cf53_11 rfl (lv_at hl 2 rfl) ?_
    refine lv_imul hx hb dJ9_floorDiv_7cf53_12 ?_
    refine lv_topi (fun z4 ez4 => ?_)
    refine lv_iload_n hx hb dJ9_floorDiv_7cf53_13 rfl (lv_at hl 1 rfl) ?_
    refine lv_icmp_eq (tgt := 21) hx hb dJ9_floorDiv_7cf53_14 (by decide) (fun c5 => ?_) (fun c5 => ?_)
    · refine lv_iload_n hx hb dJ9_floorDiv_7cf53_21 rfl (lv_at hl 0 rfl) ?_
      exact W.iret (v := z1) hx hb hr (fun t ht hW => ⟨⟨z1, (), rfl, trivial, trivial⟩, hS.F ht⟩) hS.2.2 dJ9_floorDiv_7cf53_22
    · refine lv_iload_n hx hb dJ9_floorDiv_7cf53_17 rfl (lv_at hl 0 rfl) ?_
      refine lv_iconst (v := 1) hx hb dJ9_floorDiv_7cf53_18 (by decide +kernel) ?_
      refine lv_isub hx hb dJ9_floorDiv_7cf53_19 ?_
      refine lv_topi (fun z6 ez6 => ?_)
      exact W.iret (v := z6) hx hb hr (fun t ht hW => ⟨⟨z6, (), rfl, trivial, trivial⟩, hS.F ht⟩) hS.2.2 dJ9_floorDiv_7cf53_20

set_option maxHeartbeats 4000000 in
set_option maxRecDepth 100000 in
theorem c_X6_wayLength (l : Launch) (dC : Nat → ClassId) (dI : Nat → Nat → Nat) (sz : Nat) (p0 : Int32) (p1 : Int32) (g0 : ¬ (p0 < -300 ∨ 300 < p0)) (g1 : ¬ (p1 < -300 ∨ 300 < p1)) : Met l yX6_wayLength (.code yX6_wayLength cX6_wayLength 2 (some .int) :: pw) ({ frames := 1, cells := 0, slots := 0, locals := 14 }) (pc (dC, dI) [.int p0, .int p1] sz [] []) (va_Qi (fun (r : Int32) (_ : Unit) => 0 ≤ r.toInt ∧ r.toInt ≤ 300) (fun _ _ => True) (fun _ => False)) 0 0 (fun _ => False) := by
  refine Met.ofW (cc := cX6_wayLength) (maxL := 2) (ret := (some .int)) (by decide +kernel) rfl ?_
  intro p e s m args below meth c s₁ B hml hv
  obtain ⟨rfl, hsz, hP, hK, hD0, hN⟩ := hv
  have hx := B.exec
  have hb := B.bytes
  have hr := B.returns
  have hts := fun w (h : w ∈ pw) => atoms_spec (ws := Cond.code yX6_wayLength cX6_wayLength 2 (some .int) :: pw) B.pre w (List.mem_cons_of_mem _ h)
  have hown : s.vm.findClass RX6 = some m.cls := findClass_of_methodNamed B.named
  have hlocks := B.notSynchronized
  subst hsz
  have hD := hD0
  obtain ⟨H, hHe⟩ : ∃ H : Heap, H = s.heap := ⟨_, rfl⟩
  have hS : va_S (fun _ => False) s.heap H [] := by rw [hHe]; exact va_S.rf
  rw [← hHe] at hP
  have hl := lv_entry ([.int p0, .int p1]) (n := 2) (Nat.le_of_ble_eq_true rfl)
  rw [lg_entry_eq]
  generalize (lg_sl ([.int p0, .int p1]) ++ List.replicate (2 - (lg_sl ([.int p0, .int p1])).length) Slot.unset).toArray = ls at hl ⊢
  have hl : lv_has ls 2 [(0, .int p0), (1, .int p1)] := hl
  rw [← hHe]
  refine lv_iload_n hx hb dX6_wayLength_0 rfl (lv_at hl 0 rfl) ?_
  refine va_mabs hx hb (hml.trans hl.1.symm) hown (hts _ pq746) (hts _ pq747) (hts _ pq82) (hts _ pq748) (Nat.le_of_ble_eq_true rfl) (Nat.le_of_ble_eq_true rfl) (Nat.le_of_ble_eq_true rfl) (Nat.le_of_ble_eq_true rfl) dX6_wayLength_1 ?_
  refine lv_topi (fun z1 ez1 => ?_)
  refine lv_iload_n hx hb dX6_wayLength_4 rfl (lv_at hl 1 rfl) ?_
  refine va_mabs hx hb (hml.trans hl.1.symm) hown (hts _ pq746) (hts _ pq747) (hts _ pq82) (hts _ pq748) (Nat.le_of_ble_eq_true rfl) (Nat.le_of_ble_eq_true rfl) (Nat.le_of_ble_eq_true rfl) (Nat.le_of_ble_eq_true rfl) dX6_wayLength_5 ?_
  refine lv_topi (fun z2 ez2 => ?_)
  refine va_mmax hx hb (hml.trans hl.1.symm) hown (hts _ pq749) (hts _ pq750) (hts _ pq82) (hts _ pq751) (Nat.le_of_ble_eq_true rfl) (Nat.le_of_ble_eq_true rfl) (Nat.le_of_ble_eq_true rfl) (Nat.le_of_ble_eq_true rfl) dX6_wayLength_8 ?_
  refine lv_topi (fun z3 ez3 => ?_)
  exact W.iret (v := z3) hx hb hr (fun t ht hW => ⟨⟨z3, (), rfl, (max300 (abs300 g0 ez1) (abs300 g1 ez2) ez3), trivial⟩, hS.F ht⟩) hS.2.2 dX6_wayLength_11

set_option maxHeartbeats 4000000 in
set_option maxRecDepth 100000 in
theorem c_X6_wayPart (l : Launch) (dC : Nat → ClassId) (dI : Nat → Nat → Nat) (sz : Nat) (p0 : Int32) (p1 : Int32) (N : Nat) (hN3 : N ≤ 300) : Met l yX6_wayPart (.code yX6_wayPart cX6_wayPart 3 (some .int) :: pw) ({ frames := 1, cells := 0, slots := 0, locals := 22 }) (pc (dC, dI) [.int p0, .int p1, .int (nI N)] sz [] []) (va_Qi (fun (r : Int32) (_ : Unit) => True) (fun _ _ => True) (fun _ => False)) 0 0 (fun _ => False) := by
  refine Met.ofW (cc := cX6_wayPart) (maxL := 3) (ret := (some .int)) (by decide +kernel) rfl ?_
  intro p e s m args below meth c s₁ B hml hv
  obtain ⟨rfl, hsz, hP, hK, hD0, hN⟩ := hv
  have hx := B.exec
  have hb := B.bytes
  have hr := B.returns
  have hts := fun w (h : w ∈ pw) => atoms_spec (ws := Cond.code yX6_wayPart cX6_wayPart 3 (some .int) :: pw) B.pre w (List.mem_cons_of_mem _ h)
  have hown : s.vm.findClass RX6 = some m.cls := findClass_of_methodNamed B.named
  have hlocks := B.notSynchronized
  subst hsz
  have hD := hD0
  obtain ⟨H, hHe⟩ : ∃ H : Heap, H = s.heap := ⟨_, rfl⟩
  have hS : va_S (fun _ => False) s.heap H [] := by rw [hHe]; exact va_S.rf
  rw [← hHe] at hP
  have hl := lv_entry ([.int p0, .int p1, .int (nI N)]) (n := 3) (Nat.le_of_ble_eq_true rfl)
  rw [lg_entry_eq]
  generalize (lg_sl ([.int p0, .int p1, .int (nI N)]) ++ List.replicate (3 - (lg_sl ([.int p0, .int p1, .int (nI N)])).length) Slot.unset).toArray = ls at hl ⊢
  have hl : lv_has ls 3 [(0, .int p0), (1, .int p1), (2, .int (nI N))] := hl
  rw [← hHe]
  refine lv_iload_n hx hb dX6_wayPart_0 rfl (lv_at hl 2 rfl) ?_
  refine lv_if_gt (tgt := 8) hx hb dX6_wayPart_1 (by decide) (fun c1 => ?_) (fun c1 => ?_)
  · refine lv_iconst (v := 2) hx hb dX6_wayPart_8 (by decide +kernel) ?_
    refine lv_iload_n hx hb dX6_wayPart_9 rfl (lv_at hl 0 rfl) ?_
    refine lv_imul hx hb dX6_wayPart_10 ?_
    refine lv_topi (fun z2 ez2 => ?_)
    refine lv_iload_n hx hb dX6_wayPart_11 rfl (lv_at hl 1 rfl) ?_
    refine lv_imul hx hb dX6_wayPart_12 ?_
    refine lv_topi (fun z3 ez3 => ?_)
    refine lv_iload_n hx hb dX6_wayPart_13 rfl (lv_at hl 2 rfl) ?_
    refine lv_iadd hx hb dX6_wayPart_14 ?_
    refine lv_topi (fun z4 ez4 => ?_)
    refine lv_iconst (v := 2) hx hb dX6_wayPart_15 (by decide +kernel) ?_
    refine lv_iload_n hx hb dX6_wayPart_16 rfl (lv_at hl 2 rfl) ?_
    refine lv_imul hx hb dX6_wayPart_17 ?_
    refine lv_topi (fun z5 ez5 => ?_)
    have hPc := hP.sub (ws' := []) [] rfl
    have hDc := hD.sub (ws' := []) [] (by decide) rfl
    have hKc := hK.sub (tys' := []) [] rfl
    refine ro_i (va_runS (As := [.int z4, .int z5]) (rest := []) ⟨hx, hb, hml, hown, hts⟩ (c_J9_floorDiv l dC dI  H.size z4 z5 ((dbl_ne hN3 (nI_p c1) ez5))) (va_cwS 2 hts (gS pq781 pq782 pq82 pq783) rfl rfl rfl (by decide +kernel) ⟨(Nat.le_of_ble_eq_true rfl), (Nat.le_of_ble_eq_true rfl)⟩) (pc_S hPc hDc hKc hN) rfl rfl hl.1 rfl (lv_room (Nat.le_of_ble_eq_true rfl)) dX6_wayPart_18 ⟨(Nat.le_of_ble_eq_true rfl), (Nat.le_of_ble_eq_true rfl)⟩) hS hP (fun r6 H locs hr6 hP hS => ?_)
    exact W.iret (v := r6) hx hb hr (fun t ht hW => ⟨⟨r6, (), rfl, trivial, trivial⟩, hS.F ht⟩) hS.2.2 dX6_wayPart_21
  · refine lv_iconst (v := 0) hx hb dX6_wayPart_4 (by decide +kernel) ?_
    refine lv_goto (tgt := 21) hx hb dX6_wayPart_5 (by decide) ?_
    exact W.iret (v := 0) hx hb hr (fun t ht hW => ⟨⟨0, (), rfl, trivial, trivial⟩, hS.F ht⟩) hS.2.2 dX6_wayPart_21

set_option maxHeartbeats 4000000 in
set_option maxRecDepth 100000 in
theorem c_X6_ray (l : Launch) (dC : Nat → ClassId) (dI : Nat → Nat → Nat) (h0 tp nw dr rd sc sk fl ps sh nm nb : Nat) (sz : Nat) (p0 : Int32) (p1 : Int32) (p2 : Int32) (p3 : Int32) : Met l yX6_ray (.code yX6_ray cX6_ray 10 (some .int) :: pw) ({ frames := 2, cells := 0, slots := 0, locals := 44 }) (pc (dC, dI) [.ref h0, .int p0, .int p1, .int p2, .int p3] sz [(h0, .inr (6, [.ref tp, .int 0, .ref nw, .ref dr, .ref rd, .ref sc, .ref sk, .ref fl, .ref ps, .int 0, .int 0, .ref sh])), (nw, .inr (1, [.ref nm, .ref nb, .int 0, .int 0, .int 0]))] []) (va_Qi (fun (r : Int32) (_ : Unit) => r = if (p0 < -9999 ∨ 9999 < p0) ∨ (p1 < -9999 ∨ 9999 < p1) ∨ (p2 < -300 ∨ 300 < p2) ∨ (p3 < -300 ∨ 300 < p3) then (-1) else (-2)) (fun _ _ => True) (fun _ => False)) 0 0 (fun _ => False) := by
  refine Met.ofW (cc := cX6_ray) (maxL := 10) (ret := (some .int)) (by decide +kernel) rfl ?_
  intro p e s m args below meth c s₁ B hml hv
  obtain ⟨rfl, hsz, hP, hK, hD0, hN⟩ := hv
  have hx := B.exec
  have hb := B.bytes
  have hr := B.returns
  have hts := fun w (h : w ∈ pw) => atoms_spec (ws := Cond.code yX6_ray cX6_ray 10 (some .int) :: pw) B.pre w (List.mem_cons_of_mem _ h)
  have hown : s.vm.findClass RX6 = some m.cls := findClass_of_methodNamed B.named
  have hlocks := B.notSynchronized
  subst hsz
  have hD := hD0
  obtain ⟨H, hHe⟩ : ∃ H : Heap, H = s.heap := ⟨_, rfl⟩
  have hS : va_S (fun _ => False) s.heap H [] := by rw [hHe]; exact va_S.rf
  rw [← hHe] at hP
  have hl := lv_entry ([.ref h0, .int p0, .int p1, .int p2, .int p3]) (n := 10) (Nat.le_of_ble_eq_true rfl)
  rw [lg_entry_eq]
  generalize (lg_sl ([.ref h0, .int p0, .int p1, .int p2, .int p3]) ++ List.replicate (10 - (lg_sl ([.ref h0, .int p0, .int p1, .int p2, .int p3])).length) Slot.unset).toArray = ls at hl ⊢
  have hl : lv_has ls 10 [(0, .ref h0), (1, .int p0), (2, .int p1), (3, .int p2), (4, .int p3)] := hl
  rw [← hHe]
  refine lv_iload_n hx hb dX6_ray_0 rfl (lv_at hl 1 rfl) ?_
  refine lv_sipush (v := 9999) hx hb dX6_ray_1 (by decide +kernel) ?_
  have hPc := hP.sub (ws' := []) [] rfl
  have hDc := hD.sub (ws' := []) [] (by decide) rfl
  have hKc := hK.sub (tys' := []) [] rfl
  refine ro_i (va_runS (As := [.int p0, .int 9999]) (rest := []) ⟨hx, hb, hml, hown, hts⟩ (c_X6_isWithin l dC dI  H.size p0 9999 ) (va_cwS 2 hts (gS pq640 pq641 pq74 pq642) rfl rfl rfl (by decide +kernel) ⟨(Nat.le_of_ble_eq_true rfl), (Nat.le_of_ble_eq_true rfl)⟩) (pc_S hPc hDc hKc hN) rfl rfl hl.1 rfl (lv_room (Nat.le_of_ble_eq_true rfl)) dX6_ray_4 ⟨(Nat.le_of_ble_eq_true rfl), (Nat.le_of_ble_eq_true rfl)⟩) hS hP (fun r1 H locs hr1 hP hS => ?_)
  refine lv_if_eq (tgt := 41) hx hb dX6_ray_7 (by decide) (fun c2 => ?_) (fun c2 => ?_)
  · refine lv_iconst (v := (-1)) hx hb dX6_ray_41 (by decide +kernel) ?_
    exact W.iret (v := (-1)) hx hb hr (fun t ht hW => ⟨⟨(-1), (), rfl, (if_pos (Or.inl (rng_p hr1 c2))).symm, trivial⟩, hS.F ht⟩) hS.2.2 dX6_ray_42
  · refine lv_iload_n hx hb dX6_ray_10 rfl (lv_at hl 2 rfl) ?_
    refine lv_sipush (v := 9999) hx hb dX6_ray_11 (by decide +kernel) ?_
    have hPc := hP.sub (ws' := []) [] rfl
    have hDc := hD.sub (ws' := []) [] (by decide) rfl
    have hKc := hK.sub (tys' := []) [] rfl
    refine ro_i (va_runS (As := [.int p1, .int 9999]) (rest := []) ⟨hx, hb, hml, hown, hts⟩ (c_X6_isWithin l dC dI  H.size p1 9999 ) (va_cwS 2 hts (gS pq640 pq641 pq74 pq642) rfl rfl rfl (by decide +kernel) ⟨(Nat.le_of_ble_eq_true rfl), (Nat.le_of_ble_eq_true rfl)⟩) (pc_S hPc hDc hKc hN) rfl rfl hl.1 rfl (lv_room (Nat.le_of_ble_eq_true rfl)) dX6_ray_14 ⟨(Nat.le_of_ble_eq_true rfl), (Nat.le_of_ble_eq_true rfl)⟩) hS hP (fun r3 H locs hr3 hP hS => ?_)
    refine lv_if_eq (tgt := 41) hx hb dX6_ray_17 (by decide) (fun c4 => ?_) (fun c4 => ?_)
    · refine lv_iconst (v := (-1)) hx hb dX6_ray_41 (by decide +kernel) ?_
      exact W.iret (v := (-1)) hx hb hr (fun t ht hW => ⟨⟨(-1), (), rfl, (if_pos (Or.inr (Or.inl (rng_p hr3 c4)))).symm, trivial⟩, hS.F ht⟩) hS.2.2 dX6_ray_42
    · refine lv_iload_n hx hb dX6_ray_20 rfl (lv_at hl 3 rfl) ?_
      refine lv_sipush (v := 300) hx hb dX6_ray_21 (by decide +kernel) ?_
      have hPc := hP.sub (ws' := []) [] rfl
      have hDc := hD.sub (ws' := []) [] (by decide) rfl
      have hKc := hK.sub (tys' := []) [] rfl
      refine ro_i (va_runS (As := [.int p2, .int 300]) (rest := []) ⟨hx, hb, hml, hown, hts⟩ (c_X6_isWithin l dC dI  H.size p2 300 ) (va_cwS 2 hts (gS pq640 pq641 pq74 pq642) rfl rfl rfl (by decide +kernel) ⟨(Nat.le_of_ble_eq_true rfl), (Nat.le_of_ble_eq_true rfl)⟩) (pc_S hPc hDc hKc hN) rfl rfl hl.1 rfl (lv_room (Nat.le_of_ble_eq_true rfl)) dX6_ray_24 ⟨(Nat.le_of_ble_eq_true rfl), (Nat.le_of_ble_eq_true rfl)⟩) hS hP (fun r5 H locs hr5 hP hS => ?_)
      refine lv_if_eq (tgt := 41) hx hb dX6_ray_27 (by decide) (fun c6 => ?_) (fun c6 => ?_)
      · refine lv_iconst (v := (-1)) hx hb dX6_ray_41 (by decide +kernel) ?_
        exact W.iret (v := (-1)) hx hb hr (fun t ht hW => ⟨⟨(-1), (), rfl, (if_pos (Or.inr (Or.inr (Or.inl (rng_p hr5 c6))))).symm, trivial⟩, hS.F ht⟩) hS.2.2 dX6_ray_42
      · refine lv_iload hx hb dX6_ray_30 (lv_at hl 4 rfl) ?_
        refine lv_sipush (v := 300) hx hb dX6_ray_32 (by decide +kernel) ?_
        have hPc := hP.sub (ws' := []) [] rfl
        have hDc := hD.sub (ws' := []) [] (by decide) rfl
        have hKc := hK.sub (tys' := []) [] rfl
        refine ro_i (va_runS (As := [.int p3, .int 300]) (rest := []) ⟨hx, hb, hml, hown, hts⟩ (c_X6_isWithin l dC dI  H.size p3 300 ) (va_cwS 2 hts (gS pq640 pq641 pq74 pq642) rfl rfl rfl (by decide +kernel) ⟨(Nat.le_of_ble_eq_true rfl), (Nat.le_of_ble_eq_true rfl)⟩) (pc_S hPc hDc hKc hN) rfl rfl hl.1 rfl (lv_room (Nat.le_of_ble_eq_true rfl)) dX6_ray_35 ⟨(Nat.le_of_ble_eq_true rfl), (Nat.le_of_ble_eq_true rfl)⟩) hS hP (fun r7 H locs hr7 hP hS => ?_)
        refine lv_if_ne (tgt := 43) hx hb dX6_ray_38 (by decide) (fun c8 => ?_) (fun c8 => ?_)
        · refine lv_iload_n hx hb dX6_ray_43 rfl (lv_at hl 3 rfl) ?_
          refine lv_iload hx hb dX6_ray_44 (lv_at hl 4 rfl) ?_
          have hPc := hP.sub (ws' := []) [] rfl
          have hDc := hD.sub (ws' := []) [] (by decide) rfl
          have hKc := hK.sub (tys' := []) [] rfl
          refine ro_i (va_runS (As := [.int p2, .int p3]) (rest := []) ⟨hx, hb, hml, hown, hts⟩ (c_X6_wayLength l dC dI  H.size p2 p3 ((rng_n hr5 c6)) ((rng_n hr7 c8))) (va_cwS 2 hts (gS pq797 pq744 pq74 pq745) rfl rfl rfl (by decide +kernel) ⟨(Nat.le_of_ble_eq_true rfl), (Nat.le_of_ble_eq_true rfl)⟩) (pc_S hPc hDc hKc hN) rfl rfl hl.1 rfl (lv_room (Nat.le_of_ble_eq_true rfl)) dX6_ray_46 ⟨(Nat.le_of_ble_eq_true rfl), (Nat.le_of_ble_eq_true rfl)⟩) hS hP (fun r9 H locs hr9 hP hS => ?_)
          obtain ⟨N, hN3, rfl⟩ := nI_300 hr9
          refine lv_istore (lv' := [(5, .int (nI N)), (0, .ref h0), (1, .int p0), (2, .int p1), (3, .int p2), (4, .int p3)]) hx hb dX6_ray_49 hl (by decide) rfl (fun ls hl => ?_)
          refine lv_iconst (v := 0) hx hb dX6_ray_51 (by decide +kernel) ?_
          refine lv_istore (lv' := [(6, .int 0), (5, .int (nI N)), (0, .ref h0), (1, .int p0), (2, .int p1), (3, .int p2), (4, .int p3)]) hx hb dX6_ray_52 hl (by decide) rfl (fun ls hl => ?_)
          refine namedW (fun R Q hR hQ => ?_)
          refine loopW (α := Nat) (I := fun j ls H lo => j ≤ N + 1 ∧ va_P (dC, dI) vwCl [(h0, .inr (6, [.ref tp, .int 0, .ref nw, .ref dr, .ref rd, .ref sc, .ref sk, .ref fl, .ref ps, .int 0, .int 0, .ref sh])), (nw, .inr (1, [.ref nm, .ref nb, .int 0, .int 0, .int 0]))] H ∧ va_D (fun _ => True) [(h0, .inr (6, [.ref tp, .int 0, .ref nw, .ref dr, .ref rd, .ref sc, .ref sk, .ref fl, .ref ps, .int 0, .int 0, .ref sh])), (nw, .inr (1, [.ref nm, .ref nb, .int 0, .int 0, .int 0]))] ∧ va_S (fun _ => False) s.heap H lo ∧ lv_has ls 10 [(6, .int (nI j)), (5, .int (nI N)), (0, .ref h0), (1, .int p0), (2, .int p1), (3, .int p2), (4, .int p3)]) (G := fun j ls H lo => W p l e R s m (([.ref h0, .int p0, .int p1, .int p2, .int p3] : List Value).toArray) below meth c H lo 0 0 Q (F0 m 54 ls [])) (mu := fun j => N + 1 - j) ?_ 0 ls H _ ⟨Nat.zero_le _, hP, hD, hS, hl⟩
          intro j ls H locs hI ihj
          subst hR; subst hQ
          obtain ⟨hjj, hP, hD, hS, hl⟩ := hI
          have hl : lv_has ls 10 [(6, .int (nI j)), (5, .int (nI N)), (0, .ref h0), (1, .int p0), (2, .int p1), (3, .int p2), (4, .int p3)] := hl
          refine lv_iload hx hb dX6_ray_54 (lv_at hl 0 rfl) ?_
          refine lv_iload hx hb dX6_ray_56 (lv_at hl 1 rfl) ?_
          refine lv_icmp_gt (tgt := 138) hx hb dX6_ray_58 (by decide) (fun c10 => ?_) (fun c10 => ?_)
          · refine lv_bipush (v := (-2)) hx hb dX6_ray_138 (by decide +kernel) ?_
            exact W.iret (v := (-2)) hx hb hr (fun t ht hW => ⟨⟨(-2), (), rfl, (if_neg (fun h => h.elim (fun q => rng_n hr1 c2 (q)) (fun h => h.elim (fun q => rng_n hr3 c4 (q)) (fun h => h.elim (fun q => rng_n hr5 c6 (q)) (fun q => rng_n hr7 c8 (q)))))).symm, trivial⟩, hS.F ht⟩) hS.2.2 dX6_ray_140
          · refine lv_iload_n hx hb dX6_ray_61 rfl (lv_at hl 3 rfl) ?_
            refine lv_iload hx hb dX6_ray_62 (lv_at hl 0 rfl) ?_
            refine lv_iload_n hx hb dX6_ray_64 rfl (lv_at hl 5 rfl) ?_
            refine lv_iload hx hb dX6_ray_65 (lv_at hl 1 rfl) ?_
            have hPc := hP.sub (ws' := []) [] rfl
            have hDc := hD.sub (ws' := []) [] (by decide) rfl
            have hKc := hK.sub (tys' := []) [] rfl
            refine ro_i (va_runS (As := [.int (nI j), .int p2, .int (nI N)]) (rest := [.int p0]) ⟨hx, hb, hml, hown, hts⟩ (c_X6_wayPart l dC dI  H.size (nI j) p2 N hN3) (va_cwS 3 hts (gS pq798 pq779 pq74 pq780) rfl rfl rfl (by decide +kernel) ⟨(Nat.le_of_ble_eq_true rfl), (Nat.le_of_ble_eq_true rfl)⟩) (pc_S hPc hDc hKc hN) rfl rfl hl.1 rfl (lv_room (Nat.le_of_ble_eq_true rfl)) dX6_ray_67 ⟨(Nat.le_of_ble_eq_true rfl), (Nat.le_of_ble_eq_true rfl)⟩) hS hP (fun r11 H locs hr11 hP hS => ?_)
            refine lv_iadd hx hb dX6_ray_70 ?_
            refine lv_topi (fun z12 ez12 => ?_)
            refine lv_istore (lv' := [(7, .int z12), (6, .int (nI j)), (5, .int (nI N)), (0, .ref h0), (1, .int p0), (2, .int p1), (3, .int p2), (4, .int p3)]) hx hb dX6_ray_71 hl (by decide) rfl (fun ls hl => ?_)
            refine lv_iload_n hx hb dX6_ray_73 rfl (lv_at hl 5 rfl) ?_
            refine lv_iload hx hb dX6_ray_74 (lv_at hl 1 rfl) ?_
            refine lv_iload hx hb dX6_ray_76 (lv_at hl 7 rfl) ?_
            refine lv_iload hx hb dX6_ray_78 (lv_at hl 2 rfl) ?_
            have hPc := hP.sub (ws' := []) [] rfl
            have hDc := hD.sub (ws' := []) [] (by decide) rfl
            have hKc := hK.sub (tys' := []) [] rfl
            refine ro_i (va_runS (As := [.int (nI j), .int p3, .int (nI N)]) (rest := [.int p1]) ⟨hx, hb, hml, hown, hts⟩ (c_X6_wayPart l dC dI  H.size (nI j) p3 N hN3) (va_cwS 3 hts (gS pq798 pq779 pq74 pq780) rfl rfl rfl (by decide +kernel) ⟨(Nat.le_of_ble_eq_true rfl), (Nat.le_of_ble_eq_true rfl)⟩) (pc_S hPc hDc hKc hN) rfl rfl hl.1 rfl (lv_room (Nat.le_of_ble_eq_true rfl)) dX6_ray_80 ⟨(Nat.le_of_ble_eq_true rfl), (Nat.le_of_ble_eq_true rfl)⟩) hS hP (fun r13 H locs hr13 hP hS => ?_)
            refine lv_iadd hx hb dX6_ray_83 ?_
            refine lv_topi (fun z14 ez14 => ?_)
            refine lv_istore (lv' := [(8, .int z14), (7, .int z12), (6, .int (nI j)), (5, .int (nI N)), (0, .ref h0), (1, .int p0), (2, .int p1), (3, .int p2), (4, .int p3)]) hx hb dX6_ray_84 hl (by decide) rfl (fun ls hl => ?_)
            refine lv_iconst (v := 0) hx hb dX6_ray_86 (by decide +kernel) ?_
            refine lv_istore (lv' := [(9, .int 0), (8, .int z14), (7, .int z12), (6, .int (nI j)), (5, .int (nI N)), (0, .ref h0), (1, .int p0), (2, .int p1), (3, .int p2), (4, .int p3)]) hx hb dX6_ray_87 hl (by decide) rfl (fun ls hl => ?_)
            refine lv_iload hx hb dX6_ray_89 (lv_at hl 0 rfl) ?_
            refine lv_aload_n hx hb dX6_ray_91 rfl (lv_at hl 5 rfl) ?_
            refine va_get (D := (dC, dI)) (ci := 6) (v := .ref nw) (C := RX6) (T := TX6) (N := 12) hx hb hts inX6 hown hK hP 0 rfl rfl 2 (by decide) (hts _ pq351) (fun _ h9 => h9) rfl dX6_ray_92 ?_
            refine va_get (D := (dC, dI)) (ci := 1) (v := .int 0) (C := RX1) (T := TX1) (N := 5) hx hb hts inX1 hown hK hP 1 rfl rfl 3 (by decide) (hts _ pq226) (fun _ h9 => h9) rfl dX6_ray_95 ?_
            refine lv_icmp_ge (tgt := 132) hx hb dX6_ray_98 (by decide) (fun c15 => ?_) (fun c15 => absurd (by decide +kernel) c15)
            obtain ⟨z16, ez16⟩ : ∃ y : Int32, y = nI j + 1 := ⟨_, rfl⟩
            refine lv_iinc (v := z16) (lv' := [(6, .int z16), (9, .int 0), (8, .int z14), (7, .int z12), (5, .int (nI N)), (0, .ref h0), (1, .int p0), (2, .int p1), (3, .int p2), (4, .int p3)]) hx hb dX6_ray_132 hl (k := 3) rfl (by rw [ez16]; rfl) (by decide) rfl (fun ls hl => ?_)
            refine lv_goto (tgt := 54) hx hb dX6_ray_135 (by decide) ?_
            have hlt : j ≤ N := nI_leb (n := N) (by omega) c10
            obtain rfl : z16 = nI (j + 1) := ez16.trans (nI_1 j)
            exact ihj (j + 1) _ _ _ ⟨by omega, hP, hD, hS, lv_sub hl [0, 4, 5, 6, 7, 8, 9] rfl⟩ (by omega)
        · refine lv_iconst (v := (-1)) hx hb dX6_ray_41 (by decide +kernel) ?_
          exact W.iret (v := (-1)) hx hb hr (fun t ht hW => ⟨⟨(-1), (), rfl, (if_pos (Or.inr (Or.inr (Or.inr (rng_p hr7 c8))))).symm, trivial⟩, hS.F ht⟩) hS.2.2 dX6_ray_42
