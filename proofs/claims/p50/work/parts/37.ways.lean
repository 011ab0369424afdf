def yX7_slides : MethodName := ⟨RX7, "slides", "(III)I"⟩
def yX7_goes : MethodName := ⟨RX7, "goes", "(III)V"⟩
abbrev cX7_slides : ByteArray := prog_9_method_53_code
def yX7_steps : MethodName := ⟨RX7, "steps", "(II)I"⟩
abbrev cX7_steps : ByteArray := prog_9_method_50_code
def yX7_by : MethodName := ⟨RX7, "by", "(III)I"⟩
abbrev cX7_by : ByteArray := prog_9_method_51_code
abbrev cX7_goes : ByteArray := prog_9_method_54_code
abbrev cX7_slidesNow : ByteArray := prog_9_method_55_code
def yX7_slidesNow : MethodName := ⟨RX7, "slidesNow", "(III)I"⟩
theorem dX7_by_0 : decode cX7_by 0 = .ok (.iload_n 2, 1) := by decide +kernel
theorem dX7_by_1 : decode cX7_by 1 = .ok (.ifCond .ne 7, 3) := by decide +kernel
theorem dX7_by_4 : decode cX7_by 4 = .ok (.iconst 0, 1) := by decide +kernel
theorem dX7_by_5 : decode cX7_by 5 = .ok (.goto 16, 3) := by decide +kernel
theorem dX7_by_8 : decode cX7_by 8 = .ok (.iconst 2, 1) := by decide +kernel
theorem dX7_by_9 : decode cX7_by 9 = .ok (.iload_n 0, 1) := by decide +kernel
theorem dX7_by_10 : decode cX7_by 10 = .ok (.imul, 1) := by decide +kernel
theorem dX7_by_11 : decode cX7_by 11 = .ok (.iload_n 1, 1) := by decide +kernel
theorem dX7_by_12 : decode cX7_by 12 = .ok (.imul, 1) := by decide +kernel
theorem dX7_by_13 : decode cX7_by 13 = .ok (.iload_n 2, 1) := by decide +kernel
theorem dX7_by_14 : decode cX7_by 14 = .ok (.iadd, 1) := by decide +kernel
theorem dX7_by_15 : decode cX7_by 15 = .ok (.iconst 2, 1) := by decide +kernel
theorem dX7_by_16 : decode cX7_by 16 = .ok (.iload_n 2, 1) := by decide +kernel
theorem dX7_by_17 : decode cX7_by 17 = .ok (.imul, 1) := by decide +kernel
theorem dX7_by_18 : decode cX7_by 18 = .ok (.invokestatic 253, 3) := by decide +kernel
theorem dX7_by_21 : decode cX7_by 21 = .ok (.ireturn, 1) := by decide +kernel
theorem dX7_goes_0 : decode cX7_goes 0 = .ok (.aload_n 0, 1) := by decide +kernel
theorem dX7_goes_1 : decode cX7_goes 1 = .ok (.iload_n 1, 1) := by decide +kernel
theorem dX7_goes_2 : decode cX7_goes 2 = .ok (.iconst 1, 1) := by decide +kernel
theorem dX7_goes_3 : decode cX7_goes 3 = .ok (.aload_n 0, 1) := by decide +kernel
theorem dX7_goes_4 : decode cX7_goes 4 = .ok (.iload_n 1, 1) := by decide +kernel
theorem dX7_goes_5 : decode cX7_goes 5 = .ok (.iconst 1, 1) := by decide +kernel
theorem dX7_goes_6 : decode cX7_goes 6 = .ok (.invokevirtual 199, 3) := by decide +kernel
theorem dX7_goes_9 : decode cX7_goes 9 = .ok (.iload_n 2, 1) := by decide +kernel
theorem dX7_goes_10 : decode cX7_goes 10 = .ok (.iadd, 1) := by decide +kernel
theorem dX7_goes_11 : decode cX7_goes 11 = .ok (.invokevirtual 276, 3) := by decide +kernel
theorem dX7_goes_14 : decode cX7_goes 14 = .ok (.aload_n 0, 1) := by decide +kernel
theorem dX7_goes_15 : decode cX7_goes 15 = .ok (.iload_n 1, 1) := by decide +kernel
theorem dX7_goes_16 : decode cX7_goes 16 = .ok (.iconst 2, 1) := by decide +kernel
theorem dX7_goes_17 : decode cX7_goes 17 = .ok (.aload_n 0, 1) := by decide +kernel
theorem dX7_goes_18 : decode cX7_goes 18 = .ok (.iload_n 1, 1) := by decide +kernel
theorem dX7_goes_19 : decode cX7_goes 19 = .ok (.iconst 2, 1) := by decide +kernel
theorem dX7_goes_20 : decode cX7_goes 20 = .ok (.invokevirtual 199, 3) := by decide +kernel
theorem dX7_goes_23 : decode cX7_goes 23 = .ok (.iload_n 3, 1) := by decide +kernel
theorem dX7_goes_24 : decode cX7_goes 24 = .ok (.iadd, 1) := by decide +kernel
theorem dX7_goes_25 : decode cX7_goes 25 = .ok (.invokevirtual 276, 3) := by decide +kernel
theorem dX7_goes_28 : decode cX7_goes 28 = .ok (.return_, 1) := by decide +kernel
theorem dX7_slides_0 : decode cX7_slides 0 = .ok (.iload_n 2, 1) := by decide +kernel
theorem dX7_slides_1 : decode cX7_slides 1 = .ok (.iload_n 3, 1) := by decide +kernel
theorem dX7_slides_2 : decode cX7_slides 2 = .ok (.invokestatic 260, 3) := by decide +kernel
theorem dX7_slides_5 : decode cX7_slides 5 = .ok (.istore 4, 2) := by decide +kernel
theorem dX7_slides_7 : decode cX7_slides 7 = .ok (.aload_n 0, 1) := by decide +kernel
theorem dX7_slides_8 : decode cX7_slides 8 = .ok (.iload_n 1, 1) := by decide +kernel
theorem dX7_slides_9 : decode cX7_slides 9 = .ok (.invokevirtual 263, 3) := by decide +kernel
theorem dX7_slides_12 : decode cX7_slides 12 = .ok (.istore 5, 2) := by decide +kernel
theorem dX7_slides_14 : decode cX7_slides 14 = .ok (.aload_n 0, 1) := by decide +kernel
theorem dX7_slides_15 : decode cX7_slides 15 = .ok (.bipush (-2), 2) := by decide +kernel
theorem dX7_slides_17 : decode cX7_slides 17 = .ok (.putfield 266, 3) := by decide +kernel
theorem dX7_slides_20 : decode cX7_slides 20 = .ok (.iconst 1, 1) := by decide +kernel
theorem dX7_slides_21 : decode cX7_slides 21 = .ok (.istore 6, 2) := by decide +kernel
theorem dX7_slides_23 : decode cX7_slides 23 = .ok (.iload 6, 2) := by decide +kernel
theorem dX7_slides_25 : decode cX7_slides 25 = .ok (.iload 4, 2) := by decide +kernel
theorem dX7_slides_27 : decode cX7_slides 27 = .ok (.if_icmp .gt 114, 3) := by decide +kernel
theorem dX7_slides_30 : decode cX7_slides 30 = .ok (.iload 6, 2) := by decide +kernel
theorem dX7_slides_32 : decode cX7_slides 32 = .ok (.iload_n 2, 1) := by decide +kernel
theorem dX7_slides_33 : decode cX7_slides 33 = .ok (.iload 4, 2) := by decide +kernel
theorem dX7_slides_35 : decode cX7_slides 35 = .ok (.invokestatic 269, 3) := by decide +kernel
theorem dX7_slides_38 : decode cX7_slides 38 = .ok (.istore 7, 2) := by decide +kernel
theorem dX7_slides_40 : decode cX7_slides 40 = .ok (.iload 6, 2) := by decide +kernel
theorem dX7_slides_42 : decode cX7_slides 42 = .ok (.iload_n 3, 1) := by decide +kernel
theorem dX7_slides_43 : decode cX7_slides 43 = .ok (.iload 4, 2) := by decide +kernel
theorem dX7_slides_45 : decode cX7_slides 45 = .ok (.invokestatic 269, 3) := by decide +kernel
theorem dX7_slides_48 : decode cX7_slides 48 = .ok (.istore 8, 2) := by decide +kernel
theorem dX7_slides_50 : decode cX7_slides 50 = .ok (.aload_n 0, 1) := by decide +kernel
theorem dX7_slides_51 : decode cX7_slides 51 = .ok (.aload_n 0, 1) := by decide +kernel
theorem dX7_slides_52 : decode cX7_slides 52 = .ok (.iload_n 1, 1) := by decide +kernel
theorem dX7_slides_53 : decode cX7_slides 53 = .ok (.iconst 1, 1) := by decide +kernel
theorem dX7_slides_54 : decode cX7_slides 54 = .ok (.invokevirtual 199, 3) := by decide +kernel
theorem dX7_slides_57 : decode cX7_slides 57 = .ok (.iload 7, 2) := by decide +kernel
theorem dX7_slides_59 : decode cX7_slides 59 = .ok (.iadd, 1) := by decide +kernel
theorem dX7_slides_60 : decode cX7_slides 60 = .ok (.aload_n 0, 1) := by decide +kernel
theorem dX7_slides_61 : decode cX7_slides 61 = .ok (.iload_n 1, 1) := by decide +kernel
theorem dX7_slides_62 : decode cX7_slides 62 = .ok (.iconst 2, 1) := by decide +kernel
theorem dX7_slides_63 : decode cX7_slides 63 = .ok (.invokevirtual 199, 3) := by decide +kernel
theorem dX7_slides_66 : decode cX7_slides 66 = .ok (.iload 8, 2) := by decide +kernel
theorem dX7_slides_68 : decode cX7_slides 68 = .ok (.iadd, 1) := by decide +kernel
theorem dX7_slides_69 : decode cX7_slides 69 = .ok (.invokevirtual 273, 3) := by decide +kernel
theorem dX7_slides_72 : decode cX7_slides 72 = .ok (.ifCond .ne 8, 3) := by decide +kernel
theorem dX7_slides_75 : decode cX7_slides 75 = .ok (.iload 6, 2) := by decide +kernel
theorem dX7_slides_77 : decode cX7_slides 77 = .ok (.iconst 1, 1) := by decide +kernel
theorem dX7_slides_78 : decode cX7_slides 78 = .ok (.isub, 1) := by decide +kernel
theorem dX7_slides_79 : decode cX7_slides 79 = .ok (.ireturn, 1) := by decide +kernel
theorem dX7_slides_80 : decode cX7_slides 80 = .ok (.iconst 0, 1) := by decide +kernel
theorem dX7_slides_81 : decode cX7_slides 81 = .ok (.istore 9, 2) := by decide +kernel
theorem dX7_slides_83 : decode cX7_slides 83 = .ok (.iload 9, 2) := by decide +kernel
theorem dX7_slides_85 : decode cX7_slides 85 = .ok (.aload_n 0, 1) := by decide +kernel
theorem dX7_slides_86 : decode cX7_slides 86 = .ok (.getfield 9, 3) := by decide +kernel
theorem dX7_slides_89 : decode cX7_slides 89 = .ok (.iconst 1, 1) := by decide +kernel
theorem dX7_slides_90 : decode cX7_slides 90 = .ok (.iaload, 1) := by decide +kernel
theorem dX7_slides_91 : decode cX7_slides 91 = .ok (.if_icmp .ge 44, 3) := by decide +kernel
theorem dX7_slides_94 : decode cX7_slides 94 = .ok (.iload 5, 2) := by decide +kernel
theorem dX7_slides_96 : decode cX7_slides 96 = .ok (.iload 9, 2) := by decide +kernel
theorem dX7_slides_98 : decode cX7_slides 98 = .ok (.ishr, 1) := by decide +kernel
theorem dX7_slides_99 : decode cX7_slides 99 = .ok (.iconst 1, 1) := by decide +kernel
theorem dX7_slides_100 : decode cX7_slides 100 = .ok (.iand, 1) := by decide +kernel
theorem dX7_slides_101 : decode cX7_slides 101 = .ok (.ifCond .ne 28, 3) := by decide +kernel
theorem dX7_slides_104 : decode cX7_slides 104 = .ok (.aload_n 0, 1) := by decide +kernel
theorem dX7_slides_105 : decode cX7_slides 105 = .ok (.iload_n 1, 1) := by decide +kernel
theorem dX7_slides_106 : decode cX7_slides 106 = .ok (.iload 9, 2) := by decide +kernel
theorem dX7_slides_108 : decode cX7_slides 108 = .ok (.iload 7, 2) := by decide +kernel
theorem dX7_slides_110 : decode cX7_slides 110 = .ok (.iload 8, 2) := by decide +kernel
theorem dX7_slides_112 : decode cX7_slides 112 = .ok (.invokevirtual 247, 3) := by decide +kernel
theorem dX7_slides_115 : decode cX7_slides 115 = .ok (.ifCond .eq 14, 3) := by decide +kernel
theorem dX7_slides_118 : decode cX7_slides 118 = .ok (.aload_n 0, 1) := by decide +kernel
theorem dX7_slides_119 : decode cX7_slides 119 = .ok (.iload 9, 2) := by decide +kernel
theorem dX7_slides_121 : decode cX7_slides 121 = .ok (.putfield 266, 3) := by decide +kernel
theorem dX7_slides_124 : decode cX7_slides 124 = .ok (.iload 6, 2) := by decide +kernel
theorem dX7_slides_126 : decode cX7_slides 126 = .ok (.iconst 1, 1) := by decide +kernel
theorem dX7_slides_127 : decode cX7_slides 127 = .ok (.isub, 1) := by decide +kernel
theorem dX7_slides_128 : decode cX7_slides 128 = .ok (.ireturn, 1) := by decide +kernel
theorem dX7_slides_129 : decode cX7_slides 129 = .ok (.iinc 9 1, 3) := by decide +kernel
theorem dX7_slides_132 : decode cX7_slides 132 = .ok (.goto (-49), 3) := by decide +kernel
theorem dX7_slides_135 : decode cX7_slides 135 = .ok (.iinc 6 1, 3) := by decide +kernel
theorem dX7_slides_138 : decode cX7_slides 138 = .ok (.goto (-115), 3) := by decide +kernel
theorem dX7_slides_141 : decode cX7_slides 141 = .ok (.iload 4, 2) := by decide +kernel
theorem dX7_slides_143 : decode cX7_slides 143 = .ok (.ireturn, 1) := by decide +kernel
theorem dX7_slidesNow_0 : decode cX7_slidesNow 0 = .ok (.aload_n 0, 1) := by decide +kernel
theorem dX7_slidesNow_1 : decode cX7_slidesNow 1 = .ok (.iload_n 1, 1) := by decide +kernel
theorem dX7_slidesNow_2 : decode cX7_slidesNow 2 = .ok (.iload_n 2, 1) := by decide +kernel
theorem dX7_slidesNow_3 : decode cX7_slidesNow 3 = .ok (.iload_n 3, 1) := by decide +kernel
theorem dX7_slidesNow_4 : decode cX7_slidesNow 4 = .ok (.invokevirtual 280, 3) := by decide +kernel
theorem dX7_slidesNow_7 : decode cX7_slidesNow 7 = .ok (.istore 4, 2) := by decide +kernel
theorem dX7_slidesNow_9 : decode cX7_slidesNow 9 = .ok (.iload_n 2, 1) := by decide +kernel
theorem dX7_slidesNow_10 : decode cX7_slidesNow 10 = .ok (.iload_n 3, 1) := by decide +kernel
theorem dX7_slidesNow_11 : decode cX7_slidesNow 11 = .ok (.invokestatic 260, 3) := by decide +kernel
theorem dX7_slidesNow_14 : decode cX7_slidesNow 14 = .ok (.istore 5, 2) := by decide +kernel
theorem dX7_slidesNow_16 : decode cX7_slidesNow 16 = .ok (.aload_n 0, 1) := by decide +kernel
theorem dX7_slidesNow_17 : decode cX7_slidesNow 17 = .ok (.iload_n 1, 1) := by decide +kernel
theorem dX7_slidesNow_18 : decode cX7_slidesNow 18 = .ok (.iload 4, 2) := by decide +kernel
theorem dX7_slidesNow_20 : decode cX7_slidesNow 20 = .ok (.iload_n 2, 1) := by decide +kernel
theorem dX7_slidesNow_21 : decode cX7_slidesNow 21 = .ok (.iload 5, 2) := by decide +kernel
theorem dX7_slidesNow_23 : decode cX7_slidesNow 23 = .ok (.invokestatic 269, 3) := by decide +kernel
theorem dX7_slidesNow_26 : decode cX7_slidesNow 26 = .ok (.iload 4, 2) := by decide +kernel
theorem dX7_slidesNow_28 : decode cX7_slidesNow 28 = .ok (.iload_n 3, 1) := by decide +kernel
theorem dX7_slidesNow_29 : decode cX7_slidesNow 29 = .ok (.iload 5, 2) := by decide +kernel
theorem dX7_slidesNow_31 : decode cX7_slidesNow 31 = .ok (.invokestatic 269, 3) := by decide +kernel
theorem dX7_slidesNow_34 : decode cX7_slidesNow 34 = .ok (.invokevirtual 283, 3) := by decide +kernel
theorem dX7_slidesNow_37 : decode cX7_slidesNow 37 = .ok (.iload 4, 2) := by decide +kernel
theorem dX7_slidesNow_39 : decode cX7_slidesNow 39 = .ok (.ireturn, 1) := by decide +kernel
theorem dX7_steps_0 : decode cX7_steps 0 = .ok (.iload_n 0, 1) := by decide +kernel
theorem dX7_steps_1 : decode cX7_steps 1 = .ok (.invokestatic 250, 3) := by decide +kernel
theorem dX7_steps_4 : decode cX7_steps 4 = .ok (.iload_n 1, 1) := by decide +kernel
theorem dX7_steps_5 : decode cX7_steps 5 = .ok (.invokestatic 250, 3) := by decide +kernel
theorem dX7_steps_8 : decode cX7_steps 8 = .ok (.invokestatic 219, 3) := by decide +kernel
theorem dX7_steps_11 : decode cX7_steps 11 = .ok (.ireturn, 1) := by decide +kernel
set_option maxRecDepth 100000 in
theorem pq42 : Cond.selects RX7 yX7_slides yX7_slides ∈ pw := pw_mem (i := 42) (by decide +kernel) rfl
set_option maxRecDepth 100000 in
theorem pq48 : Cond.selects RX7 yX7_goes yX7_goes ∈ pw := pw_mem (i := 48) (by decide +kernel) rfl
set_option maxRecDepth 100000 in
theorem pq1133 : Cond.fieldLink RX7 266 "MaskTouchModel" "stopper" "I" ∈ pw := pw_mem (i := 1133) (by decide +kernel) rfl
set_option maxRecDepth 100000 in
theorem pq1435 : Cond.methodLink RX7 280 yX7_slides ∈ pw := pw_mem (i := 1435) (by decide +kernel) rfl
set_option maxRecDepth 100000 in
theorem pq1437 : Cond.instanceMethod yX7_slides ∈ pw := pw_mem (i := 1437) (by decide +kernel) rfl
set_option maxRecDepth 100000 in
theorem pq1438 : Cond.code yX7_slides cX7_slides 10 (some .int) ∈ pw := pw_mem (i := 1438) (by rfl) rfl
set_option maxRecDepth 100000 in
theorem pq1439 : Cond.methodLink RX7 260 yX7_steps ∈ pw := pw_mem (i := 1439) (by decide +kernel) rfl
set_option maxRecDepth 100000 in
theorem pq1440 : Cond.static yX7_steps ∈ pw := pw_mem (i := 1440) (by decide +kernel) rfl
set_option maxRecDepth 100000 in
theorem pq1441 : Cond.code yX7_steps cX7_steps 2 (some .int) ∈ pw := pw_mem (i := 1441) (by rfl) rfl
set_option maxRecDepth 100000 in
theorem pq1442 : Cond.methodLink RX7 250 Lib.Math.abs.name ∈ pw := pw_mem (i := 1442) (by decide +kernel) rfl
set_option maxRecDepth 100000 in
theorem pq1470 : Cond.methodLink RX7 269 yX7_by ∈ pw := pw_mem (i := 1470) (by decide +kernel) rfl
set_option maxRecDepth 100000 in
theorem pq1471 : Cond.static yX7_by ∈ pw := pw_mem (i := 1471) (by decide +kernel) rfl
set_option maxRecDepth 100000 in
theorem pq1472 : Cond.code yX7_by cX7_by 3 (some .int) ∈ pw := pw_mem (i := 1472) (by rfl) rfl
set_option maxRecDepth 100000 in
theorem pq1473 : Cond.methodLink RX7 253 yJ9_floorDiv_7cf53 ∈ pw := pw_mem (i := 1473) (by decide +kernel) rfl
set_option maxRecDepth 100000 in
theorem pq1474 : Cond.methodLink RX7 283 yX7_goes ∈ pw := pw_mem (i := 1474) (by decide +kernel) rfl
set_option maxRecDepth 100000 in
theorem pq1476 : Cond.instanceMethod yX7_goes ∈ pw := pw_mem (i := 1476) (by decide +kernel) rfl
set_option maxRecDepth 100000 in
theorem pq1477 : Cond.code yX7_goes cX7_goes 4 none ∈ pw := pw_mem (i := 1477) (by rfl) rfl
def absF (x : Int32) : Int32 := if 0 ≤ x then x else 0 - x
def stF (dx dy : Int32) : Int32 := if absF dx < absF dy then absF dy else absF dx
def byF (k d n : Int32) : Int32 := if n = 0 then 0 else Int32.ofInt ((2 * k * d + n).toInt / (2 * n).toInt)
def inR (B : Int) (v : Int32) : Prop := -B ≤ v.toInt ∧ v.toInt ≤ B
def gB (B : Int) (f : Nat → Int32) (b : Nat) (dx dy : Int32) : Prop := inR B (f (19 + 8 * b + 1) + dx) ∧ inR B (f (19 + 8 * b + 2) + dy)
def gU (f : Nat → Int32) (b : Nat) (dx dy : Int32) : Nat → Int32 := upd (upd f (19 + 8 * b + 1) (f (19 + 8 * b + 1) + dx)) (19 + 8 * b + 2) (f (19 + 8 * b + 2) + dy)
def slR (f : Nat → Int32) (b : Nat) (r dx dy : Int32) : Prop := r.toInt = 0 ∨ gB 999 f b (byF r dx (stF dx dy)) (byF r dy (stF dx dy))
theorem nw_of {L : List Nat} {K G : Nat → Nat} {Q : Nat → Nat → Option Nat} {p0 : Nat} (hQ : Sv L K G Q) (hL : p0 ∈ L) (hK : K p0 = 7) : (Q p0 0).getD 0 ∈ L ∧ K ((Q p0 0).getD 0) = 18 := by
  obtain ⟨y, f1, l1, k1⟩ := oQ_7_0 (Sv_at hQ hL hK)
  rw [f1]
  exact ⟨l1, k1⟩
theorem by_ret {x y r : Int32} (hy : 2 ≤ y.toInt) (hr : r.toInt = x.toInt / y.toInt) : -1073741824 ≤ r.toInt ∧ r.toInt ≤ 1073741824 := by
  have hx := fb_rng x
  rw [hr]
  refine ⟨Int.le_ediv_of_mul_le (by omega) ?_, Int.lt_add_one_iff.mp (Int.ediv_lt_of_lt_mul (by omega) ?_)⟩
  · have : (-1073741824) * y.toInt ≤ (-1073741824) * 2 := Int.mul_le_mul_of_nonpos_left (by decide) hy
    omega
  · have : (1073741824 + 1) * 2 ≤ (1073741824 + 1) * y.toInt := Int.mul_le_mul_of_nonneg_left hy (by decide)
    omega
theorem by_fn {k d n z9 z12 z14 z17 r : Int32} (hn : ¬ n.toInt = 0) (e9 : z9 = 2 * k) (e12 : z12 = z9 * d) (e14 : z14 = z12 + n) (e17 : z17 = 2 * n) (hr : r.toInt = z14.toInt / z17.toInt) : r = byF k d n := by
  unfold byF
  rw [if_neg (fun q => hn (by rw [q]; decide +kernel)), ← e9, ← e12, ← e14, ← e17, ← hr, Int32.ofInt_toInt]
theorem byF_zero {d n : Int32} (hn : 0 ≤ n.toInt ∧ n.toInt ≤ 1000) : byF 0 d n = 0 := by
  unfold byF
  split
  · rfl
  · next q =>
    have hn0 : ¬ n.toInt = 0 := fun z => q (Int32.toInt_inj.mp z)
    have e1 : (2 * 0 * d + n : Int32) = n := by rw [Int32.mul_zero, Int32.zero_mul, Int32.zero_add]
    have e2 : (2 * n : Int32).toInt = 2 * n.toInt := tq_mul rfl (by decide +kernel) rfl (by omega) (by omega)
    rw [e1, e2, Int.ediv_eq_zero_of_lt (by omega) (by omega)]
    decide +kernel
theorem nwB {B : Int} {f : Nat → Int32} (h : okI B 18 f) {b : Nat} : inR B (f (19 + 8 * b + 1)) ∧ inR B (f (19 + 8 * b + 2)) := by
  have h1 := h (19 + 8 * b + 1)
  have h2 := h (19 + 8 * b + 2)
  unfold rng at h1 h2
  exact ⟨h1.2.2.2.2.2.1 (by omega), h2.2.2.2.2.2.1 (by omega)⟩
theorem slR_gB {B : Int} {f : Nat → Int32} {b : Nat} {r dx dy : Int32} (h : slR f b r dx dy) (hn : 0 ≤ (stF dx dy).toInt ∧ (stF dx dy).toInt ≤ 1000) (hf : inR B (f (19 + 8 * b + 1)) ∧ inR B (f (19 + 8 * b + 2))) (hB : 999 ≤ B) : gB B f b (byF r dx (stF dx dy)) (byF r dy (stF dx dy)) := by
  rcases h with h | h
  · obtain rfl : r = 0 := Int32.toInt_inj.mp h
    unfold gB
    rw [byF_zero hn, byF_zero hn, Int32.add_zero, Int32.add_zero]
    exact hf
  · unfold gB inR at h ⊢
    omega
theorem byF_200 {k : Int32} (hk : 0 ≤ k.toInt ∧ k.toInt ≤ 1000) : byF k 200 200 = k ∧ byF k 0 200 = 0 := by
  have e2 : (2 * 200 : Int32).toInt = 400 := by decide +kernel
  have n0 : ¬ (200 : Int32) = 0 := by decide +kernel
  have a1 : (2 * k : Int32).toInt = 2 * k.toInt := tq_mul rfl (by decide +kernel) rfl (by omega) (by omega)
  have a2 : (2 * k * 200 : Int32).toInt = 2 * k.toInt * 200 := tq_mul rfl a1 (by decide +kernel) (by omega) (by omega)
  have a3 : (2 * k * 200 + 200 : Int32).toInt = 2 * k.toInt * 200 + 200 := tq_add rfl a2 (by decide +kernel) (by omega) (by omega)
  refine ⟨?_, ?_⟩
  · unfold byF
    rw [if_neg n0, a3, e2, show (2 * k.toInt * 200 + 200) / 400 = k.toInt by omega, Int32.ofInt_toInt]
  · unfold byF
    rw [if_neg n0, Int32.mul_zero, Int32.zero_add, e2]
    decide +kernel
/-- how far the bodies may still fall -/
def fM (B : Int) (f : Nat → Int32) : Int := 10 * B - ((f 21).toInt + (f 29).toInt + (f 37).toInt + (f 45).toInt + (f 53).toInt + (f 61).toInt + (f 69).toInt + (f 77).toInt + (f 85).toInt + (f 93).toInt)
theorem fM_nn {B : Int} {f : Nat → Int32} (h : okI B 18 f) : 0 ≤ fM B f := by
  have k : ∀ b : Nat, (f (19 + 8 * b + 2)).toInt ≤ B := fun b => (nwB h (b := b)).2.2
  have k0 := k 0; have k1 := k 1; have k2 := k 2; have k3 := k 3; have k4 := k 4; have k5 := k 5; have k6 := k 6; have k7 := k 7; have k8 := k 8; have k9 := k 9
  unfold fM
  simp only [Nat.mul_zero, Nat.reduceMul, Nat.reduceAdd] at k0 k1 k2 k3 k4 k5 k6 k7 k8 k9
  omega
theorem gU_y {f : Nat → Int32} {b : Nat} {dx dy : Int32} : gU f b dx dy (19 + 8 * b + 2) = f (19 + 8 * b + 2) + dy := by
  unfold gU upd; simp
theorem gU_ne {f : Nat → Int32} {b j : Nat} {dx dy : Int32} (h1 : ¬ j = 19 + 8 * b + 1) (h2 : ¬ j = 19 + 8 * b + 2) : gU f b dx dy j = f j := by
  unfold gU upd; rw [if_neg h2, if_neg h1]
theorem gU_x {f : Nat → Int32} {b : Nat} {dx dy : Int32} : gU f b dx dy (19 + 8 * b + 1) = f (19 + 8 * b + 1) + dx := by
  unfold gU upd; simp
theorem fM_go {B : Int} {f g : Nat → Int32} {b : Nat} {dx k : Int32} (hb : b < 10) (hk : 0 ≤ k.toInt ∧ k.toInt ≤ 1000) (hB : B ≤ 6000000) (h : okI B 18 f) (e : g = gU f b dx k) : fM B g + k.toInt = fM B f := by
  have hy := (nwB h (b := b)).2
  unfold inR at hy
  have key : (f (19 + 8 * b + 2) + k).toInt = (f (19 + 8 * b + 2)).toInt + k.toInt := tq_add rfl rfl rfl (by omega) (by omega)
  have ky : (g (19 + 8 * b + 2)).toInt = (f (19 + 8 * b + 2)).toInt + k.toInt := by rw [e, gU_y]; exact key
  have kn : ∀ j, ¬ j = 19 + 8 * b + 1 → ¬ j = 19 + 8 * b + 2 → g j = f j := fun j h1 h2 => by rw [e, gU_ne h1 h2]
  unfold fM
  rcases (show b = 0 ∨ b = 1 ∨ b = 2 ∨ b = 3 ∨ b = 4 ∨ b = 5 ∨ b = 6 ∨ b = 7 ∨ b = 8 ∨ b = 9 by omega) with rfl | rfl | rfl | rfl | rfl | rfl | rfl | rfl | rfl | rfl
  · rw [kn 29 (by decide) (by decide), kn 37 (by decide) (by decide), kn 45 (by decide) (by decide), kn 53 (by decide) (by decide), kn 61 (by decide) (by decide), kn 69 (by decide) (by decide), kn 77 (by decide) (by decide), kn 85 (by decide) (by decide), kn 93 (by decide) (by decide)]
    simp only [Nat.mul_zero, Nat.reduceAdd] at ky
    omega
  · rw [kn 21 (by decide) (by decide), kn 37 (by decide) (by decide), kn 45 (by decide) (by decide), kn 53 (by decide) (by decide), kn 61 (by decide) (by decide), kn 69 (by decide) (by decide), kn 77 (by decide) (by decide), kn 85 (by decide) (by decide), kn 93 (by decide) (by decide)]
    simp only [Nat.reduceMul, Nat.reduceAdd] at ky
    omega
  · rw [kn 21 (by decide) (by decide), kn 29 (by decide) (by decide), kn 45 (by decide) (by decide), kn 53 (by decide) (by decide), kn 61 (by decide) (by decide), kn 69 (by decide) (by decide), kn 77 (by decide) (by decide), kn 85 (by decide) (by decide), kn 93 (by decide) (by decide)]
    simp only [Nat.reduceMul, Nat.reduceAdd] at ky
    omega
  · rw [kn 21 (by decide) (by decide), kn 29 (by decide) (by decide), kn 37 (by decide) (by decide), kn 53 (by decide) (by decide), kn 61 (by decide) (by decide), kn 69 (by decide) (by decide), kn 77 (by decide) (by decide), kn 85 (by decide) (by decide), kn 93 (by decide) (by decide)]
    simp only [Nat.reduceMul, Nat.reduceAdd] at ky
    omega
  · rw [kn 21 (by decide) (by decide), kn 29 (by decide) (by decide), kn 37 (by decide) (by decide), kn 45 (by decide) (by decide), kn 61 (by decide) (by decide), kn 69 (by decide) (by decide), kn 77 (by decide) (by decide), kn 85 (by decide) (by decide), kn 93 (by decide) (by decide)]
    simp only [Nat.reduceMul, Nat.reduceAdd] at ky
    omega
  · rw [kn 21 (by decide) (by decide), kn 29 (by decide) (by decide), kn 37 (by decide) (by decide), kn 45 (by decide) (by decide), kn 53 (by decide) (by decide), kn 69 (by decide) (by decide), kn 77 (by decide) (by decide), kn 85 (by decide) (by decide), kn 93 (by decide) (by decide)]
    simp only [Nat.reduceMul, Nat.reduceAdd] at ky
    omega
  · rw [kn 21 (by decide) (by decide), kn 29 (by decide) (by decide), kn 37 (by decide) (by decide), kn 45 (by decide) (by decide), kn 53 (by decide) (by decide), kn 61 (by decide) (by decide), kn 77 (by decide) (by decide), kn 85 (by decide) (by decide), kn 93 (by decide) (by decide)]
    simp only [Nat.reduceMul, Nat.reduceAdd] at ky
    omega
  · rw [kn 21 (by decide) (by decide), kn 29 (by decide) (by decide), kn 37 (by decide) (by decide), kn 45 (by decide) (by decide), kn 53 (by decide) (by decide), kn 61 (by decide) (by decide), kn 69 (by decide) (by decide), kn 85 (by decide) (by decide), kn 93 (by decide) (by decide)]
    simp only [Nat.reduceMul, Nat.reduceAdd] at ky
    omega
  · rw [kn 21 (by decide) (by decide), kn 29 (by decide) (by decide), kn 37 (by decide) (by decide), kn 45 (by decide) (by decide), kn 53 (by decide) (by decide), kn 61 (by decide) (by decide), kn 69 (by decide) (by decide), kn 77 (by decide) (by decide), kn 93 (by decide) (by decide)]
    simp only [Nat.reduceMul, Nat.reduceAdd] at ky
    omega
  · rw [kn 21 (by decide) (by decide), kn 29 (by decide) (by decide), kn 37 (by decide) (by decide), kn 45 (by decide) (by decide), kn 53 (by decide) (by decide), kn 61 (by decide) (by decide), kn 69 (by decide) (by decide), kn 77 (by decide) (by decide), kn 85 (by decide) (by decide)]
    simp only [Nat.reduceMul, Nat.reduceAdd] at ky
    omega

theorem absF_i {x : Int32} (h : -2000 ≤ x.toInt ∧ x.toInt ≤ 2000) : (absF x).toInt = max x.toInt (-x.toInt) := by
  unfold absF
  have q := tq_abs (z := if 0 ≤ x then x else 0 - x) rfl (by omega)
  have e0 : (0 : Int32).toInt = 0 := by decide +kernel
  by_cases h3 : 0 ≤ x
  · rw [if_pos h3]
    rw [Int32.le_iff_toInt_le, e0] at h3
    omega
  · rw [if_neg h3] at q ⊢
    rw [Int32.le_iff_toInt_le, e0] at h3
    omega
theorem stF_i {x y : Int32} (hx : -2000 ≤ x.toInt ∧ x.toInt ≤ 2000) (hy : -2000 ≤ y.toInt ∧ y.toInt ≤ 2000) : (stF x y).toInt = stI x.toInt y.toInt := by
  unfold stF stI
  have a := absF_i hx
  have b := absF_i hy
  by_cases h : absF x < absF y
  · rw [if_pos h]
    rw [Int32.lt_iff_toInt_lt] at h
    omega
  · rw [if_neg h]
    rw [Int32.lt_iff_toInt_lt] at h
    omega
theorem byF_i {k d n : Int32} (hk : 0 ≤ k.toInt ∧ k.toInt ≤ 2000) (hd : -200 ≤ d.toInt ∧ d.toInt ≤ 200) (hn : 0 ≤ n.toInt ∧ n.toInt ≤ 2000) : (byF k d n).toInt = byI k.toInt d.toInt n.toInt := by
  unfold byF byI
  by_cases q : n = 0
  · have e0 : (0 : Int32).toInt = 0 := by decide +kernel
    rw [if_pos q, q, e0, if_pos (by omega)]
  · have nz : ¬ n.toInt = 0 := fun z => q (Int32.toInt_inj.mp (z.trans (by decide +kernel)))
    have p1 : -(200 * (2 * k.toInt)) ≤ 2 * k.toInt * d.toInt := by
      have := Int.mul_le_mul_of_nonneg_left (c := 2 * k.toInt) hd.1 (by omega)
      have e : 2 * k.toInt * -200 = -(200 * (2 * k.toInt)) := by omega
      omega
    have p2 : 2 * k.toInt * d.toInt ≤ 200 * (2 * k.toInt) := by
      have := Int.mul_le_mul_of_nonneg_left (c := 2 * k.toInt) hd.2 (by omega)
      have e : 2 * k.toInt * 200 = 200 * (2 * k.toInt) := by omega
      omega
    have a1 : (2 * k : Int32).toInt = 2 * k.toInt := tq_mul rfl (by decide +kernel) rfl (by omega) (by omega)
    have a2 : (2 * k * d : Int32).toInt = 2 * k.toInt * d.toInt := tq_mul rfl a1 rfl (by omega) (by omega)
    have a3 : (2 * k * d + n : Int32).toInt = 2 * k.toInt * d.toInt + n.toInt := tq_add rfl a2 rfl (by omega) (by omega)
    have a4 : (2 * n : Int32).toInt = 2 * n.toInt := tq_mul rfl (by decide +kernel) rfl (by omega) (by omega)
    rw [if_neg q, if_neg (by omega), a3, a4]
    have hx : -802000 ≤ 2 * k.toInt * d.toInt + n.toInt ∧ 2 * k.toInt * d.toInt + n.toInt ≤ 802000 := by omega
    have l1 : -802000 ≤ (2 * k.toInt * d.toInt + n.toInt) / (2 * n.toInt) := Int.le_ediv_of_mul_le (by omega) (by
      have : -802000 * (2 * n.toInt) ≤ -802000 * 1 := Int.mul_le_mul_of_nonpos_left (by decide) (by omega)
      omega)
    have l2 : (2 * k.toInt * d.toInt + n.toInt) / (2 * n.toInt) < 802001 := Int.ediv_lt_of_lt_mul (by omega) (by
      have : 802001 * 1 ≤ 802001 * (2 * n.toInt) := Int.mul_le_mul_of_nonneg_left (by omega) (by decide)
      omega)
    exact Int32.toInt_ofInt_of_le (by omega) (by omega)
theorem byF_i3 {k d n : Int32} (hk : 0 ≤ k.toInt ∧ k.toInt ≤ 300) (hd : -300 ≤ d.toInt ∧ d.toInt ≤ 300) (hn : 0 ≤ n.toInt ∧ n.toInt ≤ 300) : (byF k d n).toInt = byI k.toInt d.toInt n.toInt := by
  unfold byF byI
  by_cases q : n = 0
  · have e0 : (0 : Int32).toInt = 0 := by decide +kernel
    rw [if_pos q, q, e0, if_pos (by omega)]
  · have nz : ¬ n.toInt = 0 := fun z => q (Int32.toInt_inj.mp (z.trans (by decide +kernel)))
    have p1 : -(300 * (2 * k.toInt)) ≤ 2 * k.toInt * d.toInt := by
      have := Int.mul_le_mul_of_nonneg_left (c := 2 * k.toInt) hd.1 (by omega)
      have e : 2 * k.toInt * -300 = -(300 * (2 * k.toInt)) := by omega
      omega
    have p2 : 2 * k.toInt * d.toInt ≤ 300 * (2 * k.toInt) := by
      have := Int.mul_le_mul_of_nonneg_left (c := 2 * k.toInt) hd.2 (by omega)
      have e : 2 * k.toInt * 300 = 300 * (2 * k.toInt) := by omega
      omega
    have a1 : (2 * k : Int32).toInt = 2 * k.toInt := tq_mul rfl (by decide +kernel) rfl (by omega) (by omega)
    have a2 : (2 * k * d : Int32).toInt = 2 * k.toInt * d.toInt := tq_mul rfl a1 rfl (by omega) (by omega)
    have a3 : (2 * k * d + n : Int32).toInt = 2 * k.toInt * d.toInt + n.toInt := tq_add rfl a2 rfl (by omega) (by omega)
    have a4 : (2 * n : Int32).toInt = 2 * n.toInt := tq_mul rfl (by decide +kernel) rfl (by omega) (by omega)
    rw [if_neg q, if_neg (by omega), a3, a4]
    have hx : -190000 ≤ 2 * k.toInt * d.toInt + n.toInt ∧ 2 * k.toInt * d.toInt + n.toInt ≤ 190000 := by omega
    have l1 : -190000 ≤ (2 * k.toInt * d.toInt + n.toInt) / (2 * n.toInt) := Int.le_ediv_of_mul_le (by omega) (by
      have : -190000 * (2 * n.toInt) ≤ -190000 * 1 := Int.mul_le_mul_of_nonpos_left (by decide) (by omega)
      omega)
    have l2 : (2 * k.toInt * d.toInt + n.toInt) / (2 * n.toInt) < 190001 := Int.ediv_lt_of_lt_mul (by omega) (by
      have : 190001 * 1 ≤ 190001 * (2 * n.toInt) := Int.mul_le_mul_of_nonneg_left (by omega) (by decide)
      omega)
    exact Int32.toInt_ofInt_of_le (by omega) (by omega)
theorem absF_iL {x : Int32} (h : -20000 ≤ x.toInt ∧ x.toInt ≤ 20000) : (absF x).toInt = max x.toInt (-x.toInt) := by
  unfold absF
  have q := tq_abs (z := if 0 ≤ x then x else 0 - x) rfl (by omega)
  have e0 : (0 : Int32).toInt = 0 := by decide +kernel
  by_cases h3 : 0 ≤ x
  · rw [if_pos h3]
    rw [Int32.le_iff_toInt_le, e0] at h3
    omega
  · rw [if_neg h3] at q ⊢
    rw [Int32.le_iff_toInt_le, e0] at h3
    omega
theorem stF_iL {x y : Int32} (hx : -20000 ≤ x.toInt ∧ x.toInt ≤ 20000) (hy : -20000 ≤ y.toInt ∧ y.toInt ≤ 20000) : (stF x y).toInt = stI x.toInt y.toInt := by
  unfold stF stI
  have a := absF_iL hx
  have b := absF_iL hy
  by_cases h : absF x < absF y
  · rw [if_pos h]
    rw [Int32.lt_iff_toInt_lt] at h
    omega
  · rw [if_neg h]
    rw [Int32.lt_iff_toInt_lt] at h
    omega
theorem byF_iL {k d n : Int32} (hk : 0 ≤ k.toInt ∧ k.toInt ≤ 3000) (hd : -3000 ≤ d.toInt ∧ d.toInt ≤ 3000) (hn : 0 ≤ n.toInt ∧ n.toInt ≤ 3000) : (byF k d n).toInt = byI k.toInt d.toInt n.toInt := by
  unfold byF byI
  by_cases q : n = 0
  · have e0 : (0 : Int32).toInt = 0 := by decide +kernel
    rw [if_pos q, q, e0, if_pos (by omega)]
  · have nz : ¬ n.toInt = 0 := fun z => q (Int32.toInt_inj.mp (z.trans (by decide +kernel)))
    have p1 : -(3000 * (2 * k.toInt)) ≤ 2 * k.toInt * d.toInt := by
      have := Int.mul_le_mul_of_nonneg_left (c := 2 * k.toInt) hd.1 (by omega)
      have e : 2 * k.toInt * -3000 = -(3000 * (2 * k.toInt)) := by omega
      omega
    have p2 : 2 * k.toInt * d.toInt ≤ 3000 * (2 * k.toInt) := by
      have := Int.mul_le_mul_of_nonneg_left (c := 2 * k.toInt) hd.2 (by omega)
      have e : 2 * k.toInt * 3000 = 3000 * (2 * k.toInt) := by omega
      omega
    have a1 : (2 * k : Int32).toInt = 2 * k.toInt := tq_mul rfl (by decide +kernel) rfl (by omega) (by omega)
    have a2 : (2 * k * d : Int32).toInt = 2 * k.toInt * d.toInt := tq_mul rfl a1 rfl (by omega) (by omega)
    have a3 : (2 * k * d + n : Int32).toInt = 2 * k.toInt * d.toInt + n.toInt := tq_add rfl a2 rfl (by omega) (by omega)
    have a4 : (2 * n : Int32).toInt = 2 * n.toInt := tq_mul rfl (by decide +kernel) rfl (by omega) (by omega)
    rw [if_neg q, if_neg (by omega), a3, a4]
    have hx : -18100000 ≤ 2 * k.toInt * d.toInt + n.toInt ∧ 2 * k.toInt * d.toInt + n.toInt ≤ 18100000 := by omega
    have l1 : -18100000 ≤ (2 * k.toInt * d.toInt + n.toInt) / (2 * n.toInt) := Int.le_ediv_of_mul_le (by omega) (by
      have : -18100000 * (2 * n.toInt) ≤ -18100000 * 1 := Int.mul_le_mul_of_nonpos_left (by decide) (by omega)
      omega)
    have l2 : (2 * k.toInt * d.toInt + n.toInt) / (2 * n.toInt) < 18100001 := Int.ediv_lt_of_lt_mul (by omega) (by
      have : 18100001 * 1 ≤ 18100001 * (2 * n.toInt) := Int.mul_le_mul_of_nonneg_left (by omega) (by decide)
      omega)
    exact Int32.toInt_ofInt_of_le (by omega) (by omega)
theorem th_bits {c : Fx} {a b X Y z s1 n1 w s2 n2 v : Int32} (h : ∀ o : Nat, hbt z o = true ↔ cvP c X Y o) (hc : (c.1 1).toInt ≤ 10) (es1 : s1 = 1 <<< (a &&& 31)) (en1 : n1 = s1 ^^^ -1) (ew : w = z &&& n1) (es2 : s2 = 1 <<< (b &&& 31)) (en2 : n2 = s2 ^^^ -1) (ev : v = w &&& n2) (ha : 0 ≤ a.toInt ∧ a.toInt ≤ 9) (hb : 0 ≤ b.toInt ∧ b.toInt ≤ 9) : ¬ v.toInt = 0 ↔ thP c a.toInt.toNat b.toInt.toNat X Y := by
  have bit : ∀ o : Nat, o < 32 → (hbt v o = true ↔ (¬ o = a.toInt.toNat ∧ ¬ o = b.toInt.toNat) ∧ cvP c X Y o) := fun o ho => by
    rw [hb_and ev, hb_and ew, hb_not en1 ho, hb_not en2 ho, hb_one es1 ha, hb_one es2 hb, ← h o, Bool.and_eq_true, Bool.and_eq_true, Bool.not_eq_true', Bool.not_eq_true', decide_eq_false_iff_not, decide_eq_false_iff_not]
    exact ⟨fun q => ⟨⟨q.1.2, q.2⟩, q.1.1⟩, fun q => ⟨⟨q.2, q.1.1⟩, q.1.2⟩⟩
  constructor
  · intro hv
    apply Classical.byContradiction
    intro no
    apply hv
    have e : v = 0 := hb_ext (fun i hi => by
      rw [hb_0]
      cases q : hbt v i with
      | false => rfl
      | true => exact absurd ⟨i, (bit i hi).mp q⟩ no)
    rw [e]; decide +kernel
  · rintro ⟨i, q⟩ e
    have e0 : v = 0 := Int32.toInt_inj.mp (e.trans (by decide +kernel))
    have l := q.2.1
    have k := (bit i (by omega)).mpr q
    rw [e0, hb_0] at k
    cases k

theorem gC_gU (c : Fx) (b : Nat) (u v : Int32) : (gC c b u v).1 = gU c.1 b u v := rfl
section
variable {L : List Nat} {K G : Nat → Nat} {Q : Nat → Nat → Option Nat} {I I1 : Nat → Nat → Int32} {J J1 : Nat → Nat → Int64} {m : Nat} {σ : Sx}
theorem cmA_go {b : Nat} {u v : Int32} (hQ : Sv L K G Q) (hL : m ∈ L) (hK : K m = 7) (hb : b < 10) (e : I1 (a0 Q m 0) = gU (I (a0 Q m 0)) b u v) (fI : ∀ b, ¬ (K b = 18) → I1 b = I b) (A : cmA Q I J m σ) : cmA Q I1 J m (gC σ.1 b u v, σ.2) := by
  refine cmA_now (n := σ.2.1) hQ hL hK ⟨fun k hk => ?_, fun k hk => A.1.2 k hk⟩ (fun b hb => fI b (by omega)) (fun _ _ => rfl) (by rw [fI m (by omega)]; exact A.2.1.1) (Nat.le_refl _) A
  rw [show 99 * 0 + k = k by omega, e]
  show gU _ _ _ _ k = gU _ _ _ _ k
  have f : ∀ j, j < 99 → I (a0 Q m 0) j = σ.1.1 j := fun j hj => cmA_n A hj
  unfold gU upd
  rw [f (19 + 8 * b + 1) (by omega), f (19 + 8 * b + 2) (by omega), f k hk]
theorem rI_fr {c : Fx} (hQ : Sv L K G Q) (hL : m ∈ L) (hK : K m = 7) (fI : ∀ b, K b = 18 → I1 b = I b) (h : rI Q I m c) : rI Q I1 m c := fun k hk => by rw [fI _ (a_g hQ hL hK).1.1]; exact h k hk
end

set_option maxHeartbeats 4000000 in
set_option maxRecDepth 100000 in
theorem s_X7_steps (l : Launch) (dC : Nat → ClassId) (dI : Nat → Nat → Nat) (cs : Nat → ClassId) (L : List Nat) (K G : Nat → Nat) (Q : Nat → Nat → Option Nat) (hQ : Sv L K G Q) (x0 m0 : Nat) (tx : GT) (tm : GT × Int) (sz : Nat) (I : Nat → Nat → Int32) (J : Nat → Nat → Int64) (hI : Iv L K x0 m0 tx tm I) (p0 : Int32) (bp0 : (-300) ≤ p0.toInt ∧ p0.toInt ≤ 300) (p1 : Int32) (bp1 : (-300) ≤ p1.toInt ∧ p1.toInt ≤ 300) : Met l yX7_steps (.code yX7_steps cX7_steps 2 (some .int) :: pw) ({ frames := 1, cells := 0, slots := 0, locals := 14 }) (sP (dC, dI) cs [.int p0, .int p1] sz L K I J Q) (va_Qi (fun (r : Int32) (_ : Unit) => ((0) ≤ r.toInt ∧ r.toInt ≤ 300) ∧ (r = stF p0 p1)) (fun _ _ => True) (fun _ => False)) 0 0 (fun _ => False) := by
  refine Met.ofW (cc := cX7_steps) (maxL := 2) (ret := (some .int)) (by decide +kernel) rfl ?_
  intro p e s m args below meth c s₁ B hml hv
  obtain ⟨rfl, hsz, hP, hK, hD0, hN⟩ := hv
  have hx := B.exec
  have hb := B.bytes
  have hr := B.returns
  have hts := fun w (h : w ∈ pw) => atoms_spec (ws := Cond.code yX7_steps cX7_steps 2 (some .int) :: pw) B.pre w (List.mem_cons_of_mem _ h)
  have hown : s.vm.findClass RX7 = some m.cls := findClass_of_methodNamed B.named
  have hlocks := B.notSynchronized
  subst hsz
  have hBB : 999 ≤ tm.2 ∧ tm.2 ≤ 6000000 := hI.2.2.2.2.1
  have hD := hD0
  obtain ⟨H, hHe⟩ : ∃ H : Heap, H = s.heap := ⟨_, rfl⟩
  have hS : va_S (fun _ => False) s.heap H [] := by rw [hHe]; exact va_S.rf
  rw [← hHe] at hP
  have hl := lv_entry ([.int p0, .int p1]) (n := 2) (Nat.le_of_ble_eq_true rfl)
  rw [lg_entry_eq]
  generalize (lg_sl ([.int p0, .int p1]) ++ List.replicate (2 - (lg_sl ([.int p0, .int p1])).length) Slot.unset).toArray = ls at hl ⊢
  have hl : lv_has ls 2 [(0, .int p0), (1, .int p1)] := hl
  rw [← hHe]
  refine namedW (fun R Qz hR hQz => ?_)
  refine lv_iload_n hx hb dX7_steps_0 rfl (lv_at hl 0 rfl) ?_
  refine va_mabs hx hb (hml.trans hl.1.symm) hown (hts _ pq1442) (hts _ pq747) (hts _ pq82) (hts _ pq748) (by rw [hR]; exact (Nat.le_of_ble_eq_true rfl)) (by rw [hR]; exact (Nat.le_of_ble_eq_true rfl)) (by rw [hR]; exact (Nat.le_of_ble_eq_true rfl)) (by rw [hR]; exact (Nat.le_of_ble_eq_true rfl)) dX7_steps_1 ?_
  refine lv_topi (fun z1 ez1 => ?_)
  have bz1 := tq_abs ez1 (by omega)
  refine lv_iload_n hx hb dX7_steps_4 rfl (lv_at hl 1 rfl) ?_
  refine va_mabs hx hb (hml.trans hl.1.symm) hown (hts _ pq1442) (hts _ pq747) (hts _ pq82) (hts _ pq748) (by rw [hR]; exact (Nat.le_of_ble_eq_true rfl)) (by rw [hR]; exact (Nat.le_of_ble_eq_true rfl)) (by rw [hR]; exact (Nat.le_of_ble_eq_true rfl)) (by rw [hR]; exact (Nat.le_of_ble_eq_true rfl)) dX7_steps_5 ?_
  refine lv_topi (fun z5 ez5 => ?_)
  have bz5 := tq_abs ez5 (by omega)
  refine va_mmax hx hb (hml.trans hl.1.symm) hown (hts _ pq1443) (hts _ pq750) (hts _ pq82) (hts _ pq751) (by rw [hR]; exact (Nat.le_of_ble_eq_true rfl)) (by rw [hR]; exact (Nat.le_of_ble_eq_true rfl)) (by rw [hR]; exact (Nat.le_of_ble_eq_true rfl)) (by rw [hR]; exact (Nat.le_of_ble_eq_true rfl)) dX7_steps_8 ?_
  refine lv_topi (fun z8 ez8 => ?_)
  have bz8 := tq_max ez8
  subst hR; subst hQz
  exact W.iret (v := z8) hx hb hr (fun t ht hW => ⟨⟨z8, (), rfl, ⟨⟨by omega, by omega⟩, (by rw [ez8, ez5, ez1]; rfl)⟩, trivial⟩, hS.F ht⟩) hS.2.2 dX7_steps_11

set_option maxHeartbeats 4000000 in
set_option maxRecDepth 100000 in
theorem s_X7_stepsL (l : Launch) (dC : Nat → ClassId) (dI : Nat → Nat → Nat) (cs : Nat → ClassId) (L : List Nat) (K G : Nat → Nat) (Q : Nat → Nat → Option Nat) (hQ : Sv L K G Q) (x0 m0 : Nat) (tx : GT) (tm : GT × Int) (sz : Nat) (I : Nat → Nat → Int32) (J : Nat → Nat → Int64) (hI : Iv L K x0 m0 tx tm I) (p0 : Int32) (bp0 : (-20000000) ≤ p0.toInt ∧ p0.toInt ≤ 20000000) (p1 : Int32) (bp1 : (-20000000) ≤ p1.toInt ∧ p1.toInt ≤ 20000000) : Met l yX7_steps (.code yX7_steps cX7_steps 2 (some .int) :: pw) ({ frames := 1, cells := 0, slots := 0, locals := 14 }) (sP (dC, dI) cs [.int p0, .int p1] sz L K I J Q) (va_Qi (fun (r : Int32) (_ : Unit) => ((0) ≤ r.toInt ∧ r.toInt ≤ 20000000) ∧ (r = stF p0 p1)) (fun _ _ => True) (fun _ => False)) 0 0 (fun _ => False) := by
  refine Met.ofW (cc := cX7_steps) (maxL := 2) (ret := (some .int)) (by decide +kernel) rfl ?_
  intro p e s m args below meth c s₁ B hml hv
  obtain ⟨rfl, hsz, hP, hK, hD0, hN⟩ := hv
  have hx := B.exec
  have hb := B.bytes
  have hr := B.returns
  have hts := fun w (h : w ∈ pw) => atoms_spec (ws := Cond.code yX7_steps cX7_steps 2 (some .int) :: pw) B.pre w (List.mem_cons_of_mem _ h)
  have hown : s.vm.findClass RX7 = some m.cls := findClass_of_methodNamed B.named
  have hlocks := B.notSynchronized
  subst hsz
  have hBB : 999 ≤ tm.2 ∧ tm.2 ≤ 6000000 := hI.2.2.2.2.1
  have hD := hD0
  obtain ⟨H, hHe⟩ : ∃ H : Heap, H = s.heap := ⟨_, rfl⟩
  have hS : va_S (fun _ => False) s.heap H [] := by rw [hHe]; exact va_S.rf
  rw [← hHe] at hP
  have hl := lv_entry ([.int p0, .int p1]) (n := 2) (Nat.le_of_ble_eq_true rfl)
  rw [lg_entry_eq]
  generalize (lg_sl ([.int p0, .int p1]) ++ List.replicate (2 - (lg_sl ([.int p0, .int p1])).length) Slot.unset).toArray = ls at hl ⊢
  have hl : lv_has ls 2 [(0, .int p0), (1, .int p1)] := hl
  rw [← hHe]
  refine namedW (fun R Qz hR hQz => ?_)
  refine lv_iload_n hx hb dX7_steps_0 rfl (lv_at hl 0 rfl) ?_
  refine va_mabs hx hb (hml.trans hl.1.symm) hown (hts _ pq1442) (hts _ pq747) (hts _ pq82) (hts _ pq748) (by rw [hR]; exact (Nat.le_of_ble_eq_true rfl)) (by rw [hR]; exact (Nat.le_of_ble_eq_true rfl)) (by rw [hR]; exact (Nat.le_of_ble_eq_true rfl)) (by rw [hR]; exact (Nat.le_of_ble_eq_true rfl)) dX7_steps_1 ?_
  refine lv_topi (fun z1 ez1 => ?_)
  have bz1 := tq_abs ez1 (by omega)
  refine lv_iload_n hx hb dX7_steps_4 rfl (lv_at hl 1 rfl) ?_
  refine va_mabs hx hb (hml.trans hl.1.symm) hown (hts _ pq1442) (hts _ pq747) (hts _ pq82) (hts _ pq748) (by rw [hR]; exact (Nat.le_of_ble_eq_true rfl)) (by rw [hR]; exact (Nat.le_of_ble_eq_true rfl)) (by rw [hR]; exact (Nat.le_of_ble_eq_true rfl)) (by rw [hR]; exact (Nat.le_of_ble_eq_true rfl)) dX7_steps_5 ?_
  refine lv_topi (fun z5 ez5 => ?_)
  have bz5 := tq_abs ez5 (by omega)
  refine va_mmax hx hb (hml.trans hl.1.symm) hown (hts _ pq1443) (hts _ pq750) (hts _ pq82) (hts _ pq751) (by rw [hR]; exact (Nat.le_of_ble_eq_true rfl)) (by rw [hR]; exact (Nat.le_of_ble_eq_true rfl)) (by rw [hR]; exact (Nat.le_of_ble_eq_true rfl)) (by rw [hR]; exact (Nat.le_of_ble_eq_true rfl)) dX7_steps_8 ?_
  refine lv_topi (fun z8 ez8 => ?_)
  have bz8 := tq_max ez8
  subst hR; subst hQz
  exact W.iret (v := z8) hx hb hr (fun t ht hW => ⟨⟨z8, (), rfl, ⟨⟨by omega, by omega⟩, (by rw [ez8, ez5, ez1]; rfl)⟩, trivial⟩, hS.F ht⟩) hS.2.2 dX7_steps_11

set_option maxHeartbeats 4000000 in
set_option maxRecDepth 100000 in
theorem s_X7_by (l : Launch) (dC : Nat → ClassId) (dI : Nat → Nat → Nat) (cs : Nat → ClassId) (L : List Nat) (K G : Nat → Nat) (Q : Nat → Nat → Option Nat) (hQ : Sv L K G Q) (x0 m0 : Nat) (tx : GT) (tm : GT × Int) (sz : Nat) (I : Nat → Nat → Int32) (J : Nat → Nat → Int64) (hI : Iv L K x0 m0 tx tm I) (p0 : Int32) (p1 : Int32) (p2 : Int32) (bp2 : (0) ≤ p2.toInt ∧ p2.toInt ≤ 50000000) : Met l yX7_by (.code yX7_by cX7_by 3 (some .int) :: pw) ({ frames := 1, cells := 0, slots := 0, locals := 22 }) (sP (dC, dI) cs [.int p0, .int p1, .int p2] sz L K I J Q) (va_Qi (fun (r : Int32) (_ : Unit) => ((-1073741824) ≤ r.toInt ∧ r.toInt ≤ 1073741824) ∧ (r = byF p0 p1 p2)) (fun _ _ => True) (fun _ => False)) 0 0 (fun _ => False) := by
  refine Met.ofW (cc := cX7_by) (maxL := 3) (ret := (some .int)) (by decide +kernel) rfl ?_
  intro p e s m args below meth c s₁ B hml hv
  obtain ⟨rfl, hsz, hP, hK, hD0, hN⟩ := hv
  have hx := B.exec
  have hb := B.bytes
  have hr := B.returns
  have hts := fun w (h : w ∈ pw) => atoms_spec (ws := Cond.code yX7_by cX7_by 3 (some .int) :: pw) B.pre w (List.mem_cons_of_mem _ h)
  have hown : s.vm.findClass RX7 = some m.cls := findClass_of_methodNamed B.named
  have hlocks := B.notSynchronized
  subst hsz
  have hBB : 999 ≤ tm.2 ∧ tm.2 ≤ 6000000 := hI.2.2.2.2.1
  have hD := hD0
  obtain ⟨H, hHe⟩ : ∃ H : Heap, H = s.heap := ⟨_, rfl⟩
  have hS : va_S (fun _ => False) s.heap H [] := by rw [hHe]; exact va_S.rf
  rw [← hHe] at hP
  have hl := lv_entry ([.int p0, .int p1, .int p2]) (n := 3) (Nat.le_of_ble_eq_true rfl)
  rw [lg_entry_eq]
  generalize (lg_sl ([.int p0, .int p1, .int p2]) ++ List.replicate (3 - (lg_sl ([.int p0, .int p1, .int p2])).length) Slot.unset).toArray = ls at hl ⊢
  have hl : lv_has ls 3 [(0, .int p0), (1, .int p1), (2, .int p2)] := hl
  rw [← hHe]
  refine namedW (fun R Qz hR hQz => ?_)
  refine lv_iload_n hx hb dX7_by_0 rfl (lv_at hl 2 rfl) ?_
  refine lv_if_ne (tgt := 8) hx hb dX7_by_1 (by decide) (fun c1 => ?_) (fun c1 => ?_)
  · have t1 := tq_ne (k := p2.toInt) (q := (0)) c1 rfl (by decide +kernel)
    refine lv_iconst (v := 2) hx hb dX7_by_8 (by decide +kernel) ?_
    refine lv_iload_n hx hb dX7_by_9 rfl (lv_at hl 0 rfl) ?_
    refine lv_imul hx hb dX7_by_10 ?_
    refine lv_topi (fun z10 ez10 => ?_)
    refine lv_iload_n hx hb dX7_by_11 rfl (lv_at hl 1 rfl) ?_
    refine lv_imul hx hb dX7_by_12 ?_
    refine lv_topi (fun z12 ez12 => ?_)
    refine lv_iload_n hx hb dX7_by_13 rfl (lv_at hl 2 rfl) ?_
    refine lv_iadd hx hb dX7_by_14 ?_
    refine lv_topi (fun z14 ez14 => ?_)
    refine lv_iconst (v := 2) hx hb dX7_by_15 (by decide +kernel) ?_
    refine lv_iload_n hx hb dX7_by_16 rfl (lv_at hl 2 rfl) ?_
    refine lv_imul hx hb dX7_by_17 ?_
    refine lv_topi (fun z17 ez17 => ?_)
    have bz17 := tq_mul (k := (2)) (q := p2.toInt) ez17 (by decide +kernel) rfl (by omega) (by omega)
    refine ro_i (va_runS (As := [.int z14, .int z17]) (rest := []) ⟨hx, hb, hml, hown, hts⟩ (s_J9_floorDiv l dC dI cs L K Q H.size I J z14 z17 ⟨by omega, by omega⟩) (va_cwS 2 hts (gS pq1473 pq782 pq82 pq783) rfl rfl rfl (by decide +kernel) ⟨(by rw [hR]; exact (Nat.le_of_ble_eq_true rfl)), (by rw [hR]; exact (Nat.le_of_ble_eq_true rfl))⟩) (sP_S hP hD hK hN) rfl rfl hl.1 rfl (lv_room (Nat.le_of_ble_eq_true rfl)) dX7_by_18 ⟨(by rw [hR]; exact (Nat.le_of_ble_eq_true rfl)), (by rw [hR]; exact (Nat.le_of_ble_eq_true rfl))⟩) hS hP (fun z18 H locs hz18 hP hS => ?_)
    have xpz18 := hz18
    subst hR; subst hQz
    exact W.iret (v := z18) hx hb hr (fun t ht hW => ⟨⟨z18, (), rfl, ⟨(by_ret (y := z17) (by omega) xpz18), (by_fn t1 ez10 ez12 ez14 ez17 xpz18)⟩, trivial⟩, hS.F ht⟩) hS.2.2 dX7_by_21
  · have t1 := tq_eq (k := p2.toInt) (q := (0)) c1 rfl (by decide +kernel)
    refine lv_iconst (v := 0) hx hb dX7_by_4 (by decide +kernel) ?_
    refine lv_goto (tgt := 21) hx hb dX7_by_5 (by decide) ?_
    subst hR; subst hQz
    exact W.iret (v := 0) hx hb hr (fun t ht hW => ⟨⟨0, (), rfl, ⟨⟨by decide +kernel, by decide +kernel⟩, (by obtain rfl : p2 = 0 := Int32.toInt_inj.mp (t1.trans (by decide +kernel)); rfl)⟩, trivial⟩, hS.F ht⟩) hS.2.2 dX7_by_21

set_option maxHeartbeats 4000000 in
set_option maxRecDepth 100000 in
theorem s_X7_byS (l : Launch) (dC : Nat → ClassId) (dI : Nat → Nat → Nat) (cs : Nat → ClassId) (L : List Nat) (K G : Nat → Nat) (Q : Nat → Nat → Option Nat) (hQ : Sv L K G Q) (x0 m0 : Nat) (tx : GT) (tm : GT × Int) (sz : Nat) (I : Nat → Nat → Int32) (J : Nat → Nat → Int64) (hI : Iv L K x0 m0 tx tm I) (p0 : Int32) (bp0 : (0) ≤ p0.toInt ∧ p0.toInt ≤ 2000) (p1 : Int32) (bp1 : (-200) ≤ p1.toInt ∧ p1.toInt ≤ 200) (p2 : Int32) (bp2 : (0) ≤ p2.toInt ∧ p2.toInt ≤ 2000) (hkn : p0.toInt ≤ p2.toInt) : Met l yX7_by (.code yX7_by cX7_by 3 (some .int) :: pw) ({ frames := 1, cells := 0, slots := 0, locals := 22 }) (sP (dC, dI) cs [.int p0, .int p1, .int p2] sz L K I J Q) (va_Qi (fun (r : Int32) (_ : Unit) => ((-200) ≤ r.toInt ∧ r.toInt ≤ 200) ∧ (r = byF p0 p1 p2)) (fun _ _ => True) (fun _ => False)) 0 0 (fun _ => False) := by
  refine Met.ofW (cc := cX7_by) (maxL := 3) (ret := (some .int)) (by decide +kernel) rfl ?_
  intro p e s m args below meth c s₁ B hml hv
  obtain ⟨rfl, hsz, hP, hK, hD0, hN⟩ := hv
  have hx := B.exec
  have hb := B.bytes
  have hr := B.returns
  have hts := fun w (h : w ∈ pw) => atoms_spec (ws := Cond.code yX7_by cX7_by 3 (some .int) :: pw) B.pre w (List.mem_cons_of_mem _ h)
  have hown : s.vm.findClass RX7 = some m.cls := findClass_of_methodNamed B.named
  have hlocks := B.notSynchronized
  subst hsz
  have hBB : 999 ≤ tm.2 ∧ tm.2 ≤ 6000000 := hI.2.2.2.2.1
  have hD := hD0
  obtain ⟨H, hHe⟩ : ∃ H : Heap, H = s.heap := ⟨_, rfl⟩
  have hS : va_S (fun _ => False) s.heap H [] := by rw [hHe]; exact va_S.rf
  rw [← hHe] at hP
  have hl := lv_entry ([.int p0, .int p1, .int p2]) (n := 3) (Nat.le_of_ble_eq_true rfl)
  rw [lg_entry_eq]
  generalize (lg_sl ([.int p0, .int p1, .int p2]) ++ List.replicate (3 - (lg_sl ([.int p0, .int p1, .int p2])).length) Slot.unset).toArray = ls at hl ⊢
  have hl : lv_has ls 3 [(0, .int p0), (1, .int p1), (2, .int p2)] := hl
  rw [← hHe]
  refine namedW (fun R Qz hR hQz => ?_)
  refine lv_iload_n hx hb dX7_by_0 rfl (lv_at hl 2 rfl) ?_
  refine lv_if_ne (tgt := 8) hx hb dX7_by_1 (by decide) (fun c1 => ?_) (fun c1 => ?_)
  · have t1 := tq_ne (k := p2.toInt) (q := (0)) c1 rfl (by decide +kernel)
    refine lv_iconst (v := 2) hx hb dX7_by_8 (by decide +kernel) ?_
    refine lv_iload_n hx hb dX7_by_9 rfl (lv_at hl 0 rfl) ?_
    refine lv_imul hx hb dX7_by_10 ?_
    refine lv_topi (fun z10 ez10 => ?_)
    have bz10 := tq_mul (k := (2)) (q := p0.toInt) ez10 (by decide +kernel) rfl (by omega) (by omega)
    refine lv_iload_n hx hb dX7_by_11 rfl (lv_at hl 1 rfl) ?_
    refine lv_imul hx hb dX7_by_12 ?_
    refine lv_topi (fun z12 ez12 => ?_)
    have bz12 := wp_mul ez12 (by omega) (by omega) (show (4000 : Int) ≤ 4000000 by decide) bp1
    refine lv_iload_n hx hb dX7_by_13 rfl (lv_at hl 2 rfl) ?_
    refine lv_iadd hx hb dX7_by_14 ?_
    refine lv_topi (fun z14 ez14 => ?_)
    have bz14 := tq_add (k := z12.toInt) (q := p2.toInt) ez14 rfl rfl (by omega) (by omega)
    refine lv_iconst (v := 2) hx hb dX7_by_15 (by decide +kernel) ?_
    refine lv_iload_n hx hb dX7_by_16 rfl (lv_at hl 2 rfl) ?_
    refine lv_imul hx hb dX7_by_17 ?_
    refine lv_topi (fun z17 ez17 => ?_)
    have bz17 := tq_mul (k := (2)) (q := p2.toInt) ez17 (by decide +kernel) rfl (by omega) (by omega)
    refine ro_i (va_runS (As := [.int z14, .int z17]) (rest := []) ⟨hx, hb, hml, hown, hts⟩ (s_J9_floorDiv l dC dI cs L K Q H.size I J z14 z17 ⟨by omega, by omega⟩) (va_cwS 2 hts (gS pq1473 pq782 pq82 pq783) rfl rfl rfl (by decide +kernel) ⟨(by rw [hR]; exact (Nat.le_of_ble_eq_true rfl)), (by rw [hR]; exact (Nat.le_of_ble_eq_true rfl))⟩) (sP_S hP hD hK hN) rfl rfl hl.1 rfl (lv_room (Nat.le_of_ble_eq_true rfl)) dX7_by_18 ⟨(by rw [hR]; exact (Nat.le_of_ble_eq_true rfl)), (by rw [hR]; exact (Nat.le_of_ble_eq_true rfl))⟩) hS hP (fun z18 H locs hz18 hP hS => ?_)
    have xpz18 := hz18
    subst hR; subst hQz
    exact W.iret (v := z18) hx hb hr (fun t ht hW => ⟨⟨z18, (), rfl, ⟨(wp_bnd (n := p2.toInt) (k := p0.toInt) (by omega) bp0.1 hkn bp1 (by rw [bz14, bz12.1, bz10]) bz17 xpz18), (by_fn t1 ez10 ez12 ez14 ez17 xpz18)⟩, trivial⟩, hS.F ht⟩) hS.2.2 dX7_by_21
  · have t1 := tq_eq (k := p2.toInt) (q := (0)) c1 rfl (by decide +kernel)
    refine lv_iconst (v := 0) hx hb dX7_by_4 (by decide +kernel) ?_
    refine lv_goto (tgt := 21) hx hb dX7_by_5 (by decide) ?_
    subst hR; subst hQz
    exact W.iret (v := 0) hx hb hr (fun t ht hW => ⟨⟨0, (), rfl, ⟨⟨by decide +kernel, by decide +kernel⟩, (by obtain rfl : p2 = 0 := Int32.toInt_inj.mp (t1.trans (by decide +kernel)); rfl)⟩, trivial⟩, hS.F ht⟩) hS.2.2 dX7_by_21

set_option maxHeartbeats 4000000 in
set_option maxRecDepth 100000 in
theorem s_X7_slides (l : Launch) (dC : Nat → ClassId) (dI : Nat → Nat → Nat) (cs : Nat → ClassId) (L : List Nat) (K G : Nat → Nat) (Q : Nat → Nat → Option Nat) (hQ : Sv L K G Q) (x0 m0 : Nat) (tx : GT) (tm : GT × Int) (sz : Nat) (I : Nat → Nat → Int32) (J : Nat → Nat → Int64) (hI : Iv L K x0 m0 tx tm I) (p0 : Nat) (hLp0 : p0 ∈ L) (hKp0 : K p0 = 7) (p1 : Int32) (bp1 : (0) ≤ p1.toInt ∧ p1.toInt ≤ 9) (p2 : Int32) (bp2 : (-200) ≤ p2.toInt ∧ p2.toInt ≤ 200) (p3 : Int32) (bp3 : (-200) ≤ p3.toInt ∧ p3.toInt ≤ 200) : Met l yX7_slides (.code yX7_slides cX7_slides 10 (some .int) :: pw) ({ frames := 6, cells := 0, slots := 0, locals := 145 }) (sP (dC, dI) cs [.ref p0, .int p1, .int p2, .int p3] sz L K I J Q) (va_Qi (fun (r : Int32) (u : Int32) => u = r ∧ ((0) ≤ r.toInt ∧ r.toInt ≤ 300) ∧ (∀ c : Fx, okF c → rI Q I p0 c → ldA Q J p0 c → p1.toInt.toNat < (c.1 1).toInt.toNat → r.toInt = slN c p1.toInt.toNat p2.toInt p3.toInt)) (fun u t => sB (dC, dI) cs L K Q (fun I1 J1 => Iv L K x0 m0 tx tm I1 ∧ (∀ b, ¬ (K b = 7) → I1 b = I b) ∧ I1 p0 11 = I p0 11 ∧ slR (I ((Q p0 0).getD 0)) p1.toInt.toNat u p2 p3 ∧ (∀ b, K b = 0 ∨ K b = 1 ∨ K b = 3 ∨ K b = 6 → I1 b = I b) ∧ J1 = J) t) (fun q => q ∈ L ∨ sz ≤ q)) 0 0 (fun q => q ∈ L ∨ sz ≤ q) := by
  refine Met.ofW (cc := cX7_slides) (maxL := 10) (ret := (some .int)) (by decide +kernel) rfl ?_
  intro p e s m args below meth c s₁ B hml hv
  obtain ⟨rfl, hsz, hP, hK, hD0, hN⟩ := hv
  have hx := B.exec
  have hb := B.bytes
  have hr := B.returns
  have hts := fun w (h : w ∈ pw) => atoms_spec (ws := Cond.code yX7_slides cX7_slides 10 (some .int) :: pw) B.pre w (List.mem_cons_of_mem _ h)
  have hown : s.vm.findClass RX7 = some m.cls := findClass_of_methodNamed B.named
  have hlocks := B.notSynchronized
  subst hsz
  have hBB : 999 ≤ tm.2 ∧ tm.2 ≤ 6000000 := hI.2.2.2.2.1
  have dn_I : (∀ b, K b = 0 ∨ K b = 1 ∨ K b = 3 ∨ K b = 6 → I b = I b) := fun _ _ => rfl
  have dj_J : J = J := rfl
  have kp0_11_I : I p0 11 = I p0 11 := rfl
  have fr_I : ∀ b, ¬ (K b = 7) → I b = I b := fun _ _ => rfl
  obtain ⟨A, hAe⟩ : ∃ A : Nat → Prop, A = (fun q => q ∈ L ∨ s.heap.size ≤ q) := ⟨_, rfl⟩
  rw [← hAe]
  have hAL : ∀ q, q ∈ L → A q := fun q h => by rw [hAe]; exact Or.inl h
  have hA : ∀ q, s.heap.size ≤ q → A q := fun q h => by rw [hAe]; exact Or.inr h
  have hD : ∀ F, va_D A (va_pl L F) := fun F => (hD0 F).weaken (fun k q hk _ => hAL _ (pl_mem hk))
  obtain ⟨H, hHe⟩ : ∃ H : Heap, H = s.heap := ⟨_, rfl⟩
  have hS : va_S A s.heap H [] := by rw [hHe]; exact va_S.rf
  rw [← hHe] at hP
  have hl := lv_entry ([.ref p0, .int p1, .int p2, .int p3]) (n := 10) (Nat.le_of_ble_eq_true rfl)
  rw [lg_entry_eq]
  generalize (lg_sl ([.ref p0, .int p1, .int p2, .int p3]) ++ List.replicate (10 - (lg_sl ([.ref p0, .int p1, .int p2, .int p3])).length) Slot.unset).toArray = ls at hl ⊢
  have hl : lv_has ls 10 [(0, .ref p0), (1, .int p1), (2, .int p2), (3, .int p3)] := hl
  rw [← hHe]
  refine namedW (fun R Qz hR hQz => ?_)
  refine lv_iload_n hx hb dX7_slides_0 rfl (lv_at hl 2 rfl) ?_
  refine lv_iload_n hx hb dX7_slides_1 rfl (lv_at hl 3 rfl) ?_
  refine ro_i (va_runS (As := [.int p2, .int p3]) (rest := []) ⟨hx, hb, hml, hown, hts⟩ (s_X7_steps l dC dI cs L K G Q hQ x0 m0 tx tm H.size I J hI p2 ⟨by omega, by omega⟩ p3 ⟨by omega, by omega⟩) (va_cwS 2 hts (gS pq1439 pq1440 pq81 pq1441) rfl rfl rfl (by decide +kernel) ⟨(by rw [hR]; exact (Nat.le_of_ble_eq_true rfl)), (by rw [hR]; exact (Nat.le_of_ble_eq_true rfl))⟩) (sP_S hP hD hK hN) rfl rfl hl.1 rfl (lv_room (Nat.le_of_ble_eq_true rfl)) dX7_slides_2 ⟨(by rw [hR]; exact (Nat.le_of_ble_eq_true rfl)), (by rw [hR]; exact (Nat.le_of_ble_eq_true rfl))⟩) hS hP (fun z2 H locs hz2 hP hS => ?_)
  obtain ⟨bz2, fez2⟩ := hz2
  refine lv_istore (lv' := [(4, .int z2), (0, .ref p0), (1, .int p1), (2, .int p2), (3, .int p3)]) hx hb dX7_slides_5 hl (by decide) rfl (fun ls hl => ?_)
  refine lv_aload_n hx hb dX7_slides_7 rfl (lv_at hl 1 rfl) ?_
  refine lv_iload_n hx hb dX7_slides_8 rfl (lv_at hl 2 rfl) ?_
  refine ro_i (va_runV (As := [.int p1]) (rest := []) ⟨hx, hb, hml, hown, hts⟩ (s_X7_touchingOf l dC dI cs L K G Q hQ x0 m0 tx tm H.size I J hI p0 hLp0 hKp0 p1 ⟨by omega, by omega⟩) (cwV 1 hts (gV pq1444 pq1446 pq43 pq81 pq1447) rfl rfl rfl (by decide +kernel) ⟨(by rw [hR]; exact (Nat.le_of_ble_eq_true rfl)), (by rw [hR]; exact (Nat.le_of_ble_eq_true rfl))⟩) (sP_V hP hD hK hN hLp0 hKp0 rfl rfl) rfl rfl hl.1 rfl (lv_room (Nat.le_of_ble_eq_true rfl)) dX7_slides_9 ⟨(by rw [hR]; exact (Nat.le_of_ble_eq_true rfl)), (by rw [hR]; exact (Nat.le_of_ble_eq_true rfl))⟩) hS hP (fun z9 H locs hz9 hP hS => ?_)
  have xpz9 := hz9
  refine lv_istore (lv' := [(5, .int z9), (4, .int z2), (0, .ref p0), (1, .int p1), (2, .int p2), (3, .int p3)]) hx hb dX7_slides_12 hl (by decide) rfl (fun ls hl => ?_)
  refine lv_aload_n hx hb dX7_slides_14 rfl (lv_at hl 2 rfl) ?_
  refine lv_bipush (v := (-2)) hx hb dX7_slides_15 (by decide +kernel) ?_
  refine p_put hx hb hts inX7 tyX7 tyX7_ok nmX7 hown hK hP hD hS hLp0 hKp0 rfl rfl 18 (by decide) (hts _ pq1133) rfl (by decide +kernel) (Nat.le_of_ble_eq_true rfl) (oS_7_18 cs _ _ _ _) dX7_slides_17 (fun H locs hP hS => ?_)
  obtain ⟨Iz17, hP, hIz17, qIz17⟩ : ∃ Iz17, va_P (dC, dI) vwCl (Wd cs L K Iz17 J Q) H ∧ Iv L K x0 m0 tx tm Iz17 ∧ Iz17 = va_up I p0 (upd (I p0) 18 ((-2) : Int32)) := ⟨_, hP, Iv_put hI hKp0 (oP_7_18 (Iv_at hI hLp0 hKp0)) (by decide) (by decide), rfl⟩
  have dn_Iz17 : (∀ b, K b = 0 ∨ K b = 1 ∨ K b = 3 ∨ K b = 6 → Iz17 b = I b) := fun b hc => (congrFun qIz17 b).trans ((va_up_ne _ _ (fun z => by have q := hKp0; rw [← z] at q; omega)).trans (dn_I b hc))
  have kp0_11_Iz17 : Iz17 p0 11 = I p0 11 := (congrFun (congrFun qIz17 p0) 11).trans ((rz_fr _ _ _ _ (by decide)).trans kp0_11_I)
  have fr_Iz17 : ∀ b, ¬ (K b = 7) → Iz17 b = I b := fun b q => (congrFun qIz17 b).trans ((va_up_ne _ _ (fun z => q (by rw [z]; have := hKp0; omega))).trans (fr_I b q))
  have rI17 : ∀ c : Fx, rI Q I p0 c → rI Q Iz17 p0 c := fun c h => rI_fr hQ hLp0 hKp0 (fun b hb => fr_Iz17 b (by omega)) h
  have s2 : z2.toInt = stI p2.toInt p3.toInt := by rw [show z2 = stF p2 p3 from fez2]; exact stF_i ⟨by omega, by omega⟩ ⟨by omega, by omega⟩
  refine lv_iconst (v := 1) hx hb dX7_slides_20 (by decide +kernel) ?_
  refine lv_istore (lv' := [(6, .int 1), (5, .int z9), (4, .int z2), (0, .ref p0), (1, .int p1), (2, .int p2), (3, .int p3)]) hx hb dX7_slides_21 hl (by decide) rfl (fun ls hl => ?_)
  have key23 := blocks (fun n => ∀ (v23_6 : Int32) (H : Heap) (lo : List Loc) (ls : Array Slot), (302 - v23_6.toInt).toNat = n → ((1) ≤ v23_6.toInt ∧ v23_6.toInt ≤ 301) → (∀ r : Int32, r.toInt = v23_6.toInt - 1 → slR (I ((Q p0 0).getD 0)) p1.toInt.toNat r p2 p3) → v23_6.toInt ≤ z2.toInt + 1 → (∀ c : Fx, okF c → rI Q I p0 c → ldA Q J p0 c → p1.toInt.toNat < (c.1 1).toInt.toNat → ∀ j : Int, 1 ≤ j → j < v23_6.toInt → ¬ blkK c p1.toInt.toNat p2.toInt p3.toInt j) → va_P (dC, dI) vwCl (Wd cs L K Iz17 J Q) H → va_S A s.heap H lo → lv_has ls 10 [(0, .ref p0), (1, .int p1), (2, .int p2), (3, .int p3), (4, .int z2), (5, .int z9), (6, .int v23_6)] → W p l e R s m (([.ref p0, .int p1, .int p2, .int p3] : List Value).toArray) below meth c H lo 0 0 Qz (F0 m 23 ls [])) (by
    intro n ih23
    intro v23_6 H lo ls hmu23 bv23_6 hsl hsn h23 hP hS hl
    refine lv_iload hx hb dX7_slides_23 (lv_at hl 6 rfl) ?_
    refine lv_iload hx hb dX7_slides_25 (lv_at hl 4 rfl) ?_
    refine lv_icmp_gt (tgt := 141) hx hb dX7_slides_27 (by decide) (fun c27 => ?_) (fun c27 => ?_)
    · have t27 := tq_lt (k := z2.toInt) (q := v23_6.toInt) c27 rfl rfl
      refine lv_iload hx hb dX7_slides_141 (lv_at hl 4 rfl) ?_
      subst hR; subst hQz
      exact W.iret (v := z2) hx hb hr (fun t ht hW => ⟨⟨z2, z2, rfl, ⟨rfl, ⟨by omega, by omega⟩, (fun c ok h l ha => by refine (slN_of ?_).symm; exact ⟨⟨by omega, by rw [s2]; omega⟩, fun j h1 h2 => h23 c ok h l ha j h1 (by omega), Or.inl s2⟩)⟩, ⟨Iz17, J, ⟨hIz17, fr_Iz17, kp0_11_Iz17, (hsl _ (by omega)), dn_Iz17, dj_J⟩, by rw [ht]; exact hP⟩⟩, hS.F ht⟩) hS.2.2 dX7_slides_143
    · have t27 := tq_nlt (k := z2.toInt) (q := v23_6.toInt) c27 rfl rfl
      refine lv_iload hx hb dX7_slides_30 (lv_at hl 6 rfl) ?_
      refine lv_iload_n hx hb dX7_slides_32 rfl (lv_at hl 2 rfl) ?_
      refine lv_iload hx hb dX7_slides_33 (lv_at hl 4 rfl) ?_
      refine ro_i (va_runS (As := [.int v23_6, .int p2, .int z2]) (rest := []) ⟨hx, hb, hml, hown, hts⟩ (s_X7_by l dC dI cs L K G Q hQ x0 m0 tx tm H.size Iz17 J hIz17 v23_6 p2 z2 ⟨by omega, by omega⟩) (va_cwS 3 hts (gS pq1470 pq1471 pq81 pq1472) rfl rfl rfl (by decide +kernel) ⟨(by rw [hR]; exact (Nat.le_of_ble_eq_true rfl)), (by rw [hR]; exact (Nat.le_of_ble_eq_true rfl))⟩) (sP_S hP hD hK hN) rfl rfl hl.1 rfl (lv_room (Nat.le_of_ble_eq_true rfl)) dX7_slides_35 ⟨(by rw [hR]; exact (Nat.le_of_ble_eq_true rfl)), (by rw [hR]; exact (Nat.le_of_ble_eq_true rfl))⟩) hS hP (fun z35 H locs hz35 hP hS => ?_)
      obtain ⟨bz35, fez35⟩ := hz35
      refine lv_istore (lv' := [(7, .int z35), (0, .ref p0), (1, .int p1), (2, .int p2), (3, .int p3), (4, .int z2), (5, .int z9), (6, .int v23_6)]) hx hb dX7_slides_38 hl (by decide) rfl (fun ls hl => ?_)
      refine lv_iload hx hb dX7_slides_40 (lv_at hl 7 rfl) ?_
      refine lv_iload_n hx hb dX7_slides_42 rfl (lv_at hl 4 rfl) ?_
      refine lv_iload hx hb dX7_slides_43 (lv_at hl 5 rfl) ?_
      refine ro_i (va_runS (As := [.int v23_6, .int p3, .int z2]) (rest := []) ⟨hx, hb, hml, hown, hts⟩ (s_X7_by l dC dI cs L K G Q hQ x0 m0 tx tm H.size Iz17 J hIz17 v23_6 p3 z2 ⟨by omega, by omega⟩) (va_cwS 3 hts (gS pq1470 pq1471 pq81 pq1472) rfl rfl rfl (by decide +kernel) ⟨(by rw [hR]; exact (Nat.le_of_ble_eq_true rfl)), (by rw [hR]; exact (Nat.le_of_ble_eq_true rfl))⟩) (sP_S hP hD hK hN) rfl rfl hl.1 rfl (lv_room (Nat.le_of_ble_eq_true rfl)) dX7_slides_45 ⟨(by rw [hR]; exact (Nat.le_of_ble_eq_true rfl)), (by rw [hR]; exact (Nat.le_of_ble_eq_true rfl))⟩) hS hP (fun z45 H locs hz45 hP hS => ?_)
      obtain ⟨bz45, fez45⟩ := hz45
      refine lv_istore (lv' := [(8, .int z45), (7, .int z35), (0, .ref p0), (1, .int p1), (2, .int p2), (3, .int p3), (4, .int z2), (5, .int z9), (6, .int v23_6)]) hx hb dX7_slides_48 hl (by decide) rfl (fun ls hl => ?_)
      have x35 : z35.toInt = byI v23_6.toInt p2.toInt (stI p2.toInt p3.toInt) := by rw [← s2, show z35 = byF v23_6 p2 z2 from fez35]; exact byF_i ⟨by omega, by omega⟩ ⟨by omega, by omega⟩ ⟨by omega, by omega⟩
      have x45 : z45.toInt = byI v23_6.toInt p3.toInt (stI p2.toInt p3.toInt) := by rw [← s2, show z45 = byF v23_6 p3 z2 from fez45]; exact byF_i ⟨by omega, by omega⟩ ⟨by omega, by omega⟩ ⟨by omega, by omega⟩
      have m35 : min p2.toInt 0 ≤ z35.toInt ∧ z35.toInt ≤ max p2.toInt 0 := by rw [x35]; exact byI_bt2 (by rw [← s2]; omega) (by rw [← s2]; omega)
      have m45 : min p3.toInt 0 ≤ z45.toInt ∧ z45.toInt ≤ max p3.toInt 0 := by rw [x45]; exact byI_bt2 (by rw [← s2]; omega) (by rw [← s2]; omega)
      refine lv_aload_n hx hb dX7_slides_50 rfl (lv_at hl 2 rfl) ?_
      refine lv_aload_n hx hb dX7_slides_51 rfl (lv_at hl 2 rfl) ?_
      refine lv_iload_n hx hb dX7_slides_52 rfl (lv_at hl 3 rfl) ?_
      refine lv_iconst (v := 1) hx hb dX7_slides_53 (by decide +kernel) ?_
      refine ro_i (va_runV (As := [.int p1, .int 1]) (rest := [.ref p0]) ⟨hx, hb, hml, hown, hts⟩ (s_X7_of l dC dI cs L K G Q hQ x0 m0 tx tm H.size Iz17 J hIz17 p0 hLp0 hKp0 p1 ⟨by omega, by omega⟩ 1 ⟨by decide +kernel, by decide +kernel⟩) (cwV 2 hts (gV pq1320 pq1322 pq25 pq81 pq1323) rfl rfl rfl (by decide +kernel) ⟨(by rw [hR]; exact (Nat.le_of_ble_eq_true rfl)), (by rw [hR]; exact (Nat.le_of_ble_eq_true rfl))⟩) (sP_V hP hD hK hN hLp0 hKp0 rfl rfl) rfl rfl hl.1 rfl (lv_room (Nat.le_of_ble_eq_true rfl)) dX7_slides_54 ⟨(by rw [hR]; exact (Nat.le_of_ble_eq_true rfl)), (by rw [hR]; exact (Nat.le_of_ble_eq_true rfl))⟩) hS hP (fun z54 H locs hz54 hP hS => ?_)
      have cst54_1 : (1 : Int32).toInt = 1 := by decide +kernel
      obtain ⟨fez54, xpz54⟩ := hz54
      have bz54 := xpz54.2.1 rfl
      refine lv_iload hx hb dX7_slides_57 (lv_at hl 1 rfl) ?_
      refine lv_iadd hx hb dX7_slides_59 ?_
      refine lv_topi (fun z59 ez59 => ?_)
      have bz59 := tq_add (k := z54.toInt) (q := z35.toInt) ez59 rfl rfl (by omega) (by omega)
      refine lv_aload_n hx hb dX7_slides_60 rfl (lv_at hl 2 rfl) ?_
      refine lv_iload_n hx hb dX7_slides_61 rfl (lv_at hl 3 rfl) ?_
      refine lv_iconst (v := 2) hx hb dX7_slides_62 (by decide +kernel) ?_
      refine ro_i (va_runV (As := [.int p1, .int 2]) (rest := [.int z59, .ref p0]) ⟨hx, hb, hml, hown, hts⟩ (s_X7_of l dC dI cs L K G Q hQ x0 m0 tx tm H.size Iz17 J hIz17 p0 hLp0 hKp0 p1 ⟨by omega, by omega⟩ 2 ⟨by decide +kernel, by decide +kernel⟩) (cwV 2 hts (gV pq1320 pq1322 pq25 pq81 pq1323) rfl rfl rfl (by decide +kernel) ⟨(by rw [hR]; exact (Nat.le_of_ble_eq_true rfl)), (by rw [hR]; exact (Nat.le_of_ble_eq_true rfl))⟩) (sP_V hP hD hK hN hLp0 hKp0 rfl rfl) rfl rfl hl.1 rfl (lv_room (Nat.le_of_ble_eq_true rfl)) dX7_slides_63 ⟨(by rw [hR]; exact (Nat.le_of_ble_eq_true rfl)), (by rw [hR]; exact (Nat.le_of_ble_eq_true rfl))⟩) hS hP (fun z63 H locs hz63 hP hS => ?_)
      have cst63_2 : (2 : Int32).toInt = 2 := by decide +kernel
      obtain ⟨fez63, xpz63⟩ := hz63
      have bz63 := xpz63.2.2.1 rfl
      refine lv_iload hx hb dX7_slides_66 (lv_at hl 0 rfl) ?_
      refine lv_iadd hx hb dX7_slides_68 ?_
      refine lv_topi (fun z68 ez68 => ?_)
      have bz68 := tq_add (k := z63.toInt) (q := z45.toInt) ez68 rfl rfl (by omega) (by omega)
      refine ro_i (va_runV (As := [.int z59, .int z68]) (rest := []) ⟨hx, hb, hml, hown, hts⟩ (s_X7_isPlace l dC dI cs L K G Q hQ x0 m0 tx tm H.size Iz17 J hIz17 p0 hLp0 hKp0 z59 z68) (cwV 2 hts (gV pq1314 pq1316 pq24 pq81 pq1317) rfl rfl rfl (by decide +kernel) ⟨(by rw [hR]; exact (Nat.le_of_ble_eq_true rfl)), (by rw [hR]; exact (Nat.le_of_ble_eq_true rfl))⟩) (sP_V hP hD hK hN hLp0 hKp0 rfl rfl) rfl rfl hl.1 rfl (lv_room (Nat.le_of_ble_eq_true rfl)) dX7_slides_69 ⟨(by rw [hR]; exact (Nat.le_of_ble_eq_true rfl)), (by rw [hR]; exact (Nat.le_of_ble_eq_true rfl))⟩) hS hP (fun z69 H locs hz69 hP hS => ?_)
      obtain ⟨bz69, imz69, xpz69⟩ := hz69
      refine lv_if_ne (tgt := 80) hx hb dX7_slides_72 (by decide) (fun c72 => ?_) (fun c72 => ?_)
      · have t72 := tq_ne (k := z69.toInt) (q := (0)) c72 rfl (by decide +kernel)
        have i72 := imz69 t72
        have hn17 : Iz17 ((Q p0 0).getD 0) = I ((Q p0 0).getD 0) := fr_Iz17 _ (by have := (nw_of hQ hLp0 hKp0).2; omega)
        have hs80 : gB 999 (I ((Q p0 0).getD 0)) p1.toInt.toNat (byF v23_6 p2 (stF p2 p3)) (byF v23_6 p3 (stF p2 p3)) := by
          have e1 : z59 = I ((Q p0 0).getD 0) (19 + 8 * p1.toInt.toNat + 1) + byF v23_6 p2 (stF p2 p3) := by rw [ez59, fez54, fez35, fez2, hn17]; rfl
          have e2 : z68 = I ((Q p0 0).getD 0) (19 + 8 * p1.toInt.toNat + 2) + byF v23_6 p3 (stF p2 p3) := by rw [ez68, fez63, fez45, fez2, hn17]; rfl
          unfold gB inR
          rw [← e1, ← e2]
          omega
        refine lv_iconst (v := 0) hx hb dX7_slides_80 (by decide +kernel) ?_
        refine lv_istore (lv' := [(9, .int 0), (8, .int z45), (7, .int z35), (0, .ref p0), (1, .int p1), (2, .int p2), (3, .int p3), (4, .int z2), (5, .int z9), (6, .int v23_6)]) hx hb dX7_slides_81 hl (by decide) rfl (fun ls hl => ?_)
        have key83 := blocks (fun n => ∀ (v83_9 : Int32) (H : Heap) (lo : List Loc) (ls : Array Slot), (11 - v83_9.toInt).toNat = n → ((0) ≤ v83_9.toInt ∧ v83_9.toInt ≤ 10) → (∀ c : Fx, okF c → rI Q I p0 c → ldA Q J p0 c → p1.toInt.toNat < (c.1 1).toInt.toNat → ¬ farB c p1.toInt.toNat z35.toInt z45.toInt ∧ ∀ o : Nat, o < v83_9.toInt.toNat → o < (c.1 1).toInt.toNat → ¬ stpB c p1.toInt.toNat o z35.toInt z45.toInt) → va_P (dC, dI) vwCl (Wd cs L K Iz17 J Q) H → va_S A s.heap H lo → lv_has ls 10 [(0, .ref p0), (1, .int p1), (2, .int p2), (3, .int p3), (4, .int z2), (5, .int z9), (6, .int v23_6), (7, .int z35), (8, .int z45), (9, .int v83_9)] → W p l e R s m (([.ref p0, .int p1, .int p2, .int p3] : List Value).toArray) below meth c H lo 0 0 Qz (F0 m 83 ls [])) (by
          intro n ih83
          intro v83_9 H lo ls hmu83 bv83_9 h83 hP hS hl
          refine lv_iload hx hb dX7_slides_83 (lv_at hl 9 rfl) ?_
          refine lv_aload_n hx hb dX7_slides_85 rfl (lv_at hl 0 rfl) ?_
          obtain ⟨y86, ey86, hLy86, hKy86⟩ := oQ_7_0 (Sv_at hQ hLp0 hKp0)
          refine p_get (v := .ref y86) hx hb hts inX7 hown hK hP hLp0 hKp0 rfl rfl 0 (by decide) (hts _ pq1115) (congrArg (fun q => some (va_rf q)) ey86) dX7_slides_86 ?_
          refine lv_iconst (v := 1) hx hb dX7_slides_89 (by decide +kernel) ?_
          refine p_iald hx hb hK hP 8 hLy86 hKy86 rfl rfl (in_d (by decide +kernel)) dX7_slides_90 ?_
          refine lv_topi (fun z90 ez90 => ?_)
          have bz90 := rng1 (oR_18 (i := (1 : Int32)) (k := (1)) (by decide +kernel) (Iv_at hIz17 hLy86 hKy86))
          rw [← ez90] at bz90
          refine lv_icmp_ge (tgt := 135) hx hb dX7_slides_91 (by decide) (fun c91 => ?_) (fun c91 => ?_)
          · have t91 := tq_le (k := z90.toInt) (q := v83_9.toInt) c91 rfl rfl
            obtain ⟨z135, ez135⟩ : ∃ y : Int32, y = v23_6 + 1 := ⟨_, rfl⟩
            refine lv_iinc (v := z135) (lv' := [(6, .int z135), (0, .ref p0), (1, .int p1), (2, .int p2), (3, .int p3), (4, .int z2), (5, .int z9), (7, .int z35), (8, .int z45), (9, .int v83_9)]) hx hb dX7_slides_135 hl (k := 6) rfl (by rw [ez135]; rfl) (by decide) rfl (fun ls hl => ?_)
            have bz135 := tq_add (k := v23_6.toInt) (q := 1) ez135 rfl (by decide +kernel) (by omega) (by omega)
            refine lv_goto (tgt := 23) hx hb dX7_slides_138 (by decide) ?_
            exact ih23 _ (by omega) z135 _ _ _ rfl ⟨by omega, by omega⟩ (fun r h => by obtain rfl : v23_6 = r := Int32.toInt_inj.mp (by omega); exact Or.inr hs80) (by omega) (fun c ok h l ha j h1 h2 => by by_cases q : j < v23_6.toInt; (exact h23 c ok h l ha j h1 q); (obtain rfl : j = v23_6.toInt := (by omega); obtain ⟨g1, g2⟩ := h83 c ok h l ha; have n : z90 = c.1 1 := (show z90 = Iz17 (a0 Q p0 0) 1 from by rw [ez90, show a0 Q p0 0 = y86 from gd_of ey86]; rfl).trans (rI17 c h _ (by decide)); unfold blkK; rw [← x35, ← x45]; rintro (w | ⟨o, ho, w⟩); (exact g1 w); (exact g2 o (by rw [← n] at ho; omega) ho w))) hP hS (lv_sub hl [1, 2, 3, 4, 5, 6, 0] rfl)
          · have t91 := tq_nle (k := z90.toInt) (q := v83_9.toInt) c91 rfl rfl
            refine lv_iload hx hb dX7_slides_94 (lv_at hl 5 rfl) ?_
            refine lv_iload hx hb dX7_slides_96 (lv_at hl 9 rfl) ?_
            refine lv_ishr hx hb dX7_slides_98 ?_
            refine lv_topi (fun z98 ez98 => ?_)
            refine lv_iconst (v := 1) hx hb dX7_slides_99 (by decide +kernel) ?_
            refine lv_iand hx hb dX7_slides_100 ?_
            refine lv_topi (fun z100 ez100 => ?_)
            have bz100 := tq_and 1 ez100 (by decide +kernel) (by decide)
            have j129 : ∀ (H : Heap) (lo : List Loc) (ls : Array Slot), (∀ c : Fx, okF c → rI Q I p0 c → ldA Q J p0 c → p1.toInt.toNat < (c.1 1).toInt.toNat → v83_9.toInt.toNat < (c.1 1).toInt.toNat → ¬ stpB c p1.toInt.toNat v83_9.toInt.toNat z35.toInt z45.toInt) → va_P (dC, dI) vwCl (Wd cs L K Iz17 J Q) H → va_S A s.heap H lo → lv_has ls 10 [(0, .ref p0), (1, .int p1), (2, .int p2), (3, .int p3), (4, .int z2), (5, .int z9), (6, .int v23_6), (7, .int z35), (8, .int z45), (9, .int v83_9)] → W p l e R s m (([.ref p0, .int p1, .int p2, .int p3] : List Value).toArray) below meth c H lo 0 0 Qz (F0 m 129 ls []) := by
              intro H lo ls h129 hP hS hl
              obtain ⟨z129, ez129⟩ : ∃ y : Int32, y = v83_9 + 1 := ⟨_, rfl⟩
              refine lv_iinc (v := z129) (lv' := [(9, .int z129), (0, .ref p0), (1, .int p1), (2, .int p2), (3, .int p3), (4, .int z2), (5, .int z9), (6, .int v23_6), (7, .int z35), (8, .int z45)]) hx hb dX7_slides_129 hl (k := 9) rfl (by rw [ez129]; rfl) (by decide) rfl (fun ls hl => ?_)
              have bz129 := tq_add (k := v83_9.toInt) (q := 1) ez129 rfl (by decide +kernel) (by omega) (by omega)
              refine lv_goto (tgt := 83) hx hb dX7_slides_132 (by decide) ?_
              exact ih83 _ (by omega) z129 _ _ _ rfl ⟨by omega, by omega⟩ (fun c ok h l ha => ⟨(h83 c ok h l ha).1, fun o ho hN => by by_cases q : o < v83_9.toInt.toNat; (exact (h83 c ok h l ha).2 o q hN); (obtain rfl : o = v83_9.toInt.toNat := (by omega); exact h129 c ok h l ha hN)⟩) hP hS (lv_sub hl [1, 2, 3, 4, 5, 6, 7, 8, 9, 0] rfl)
            refine lv_if_ne (tgt := 129) hx hb dX7_slides_101 (by decide) (fun c101 => ?_) (fun c101 => ?_)
            · have t101 := tq_ne (k := z100.toInt) (q := (0)) c101 rfl (by decide +kernel)
              exact j129  _ _ _ (fun c ok h l ha hN w => by have b1 : hbt z9 v83_9.toInt.toNat = true := Classical.byContradiction (fun q => t101 ((hb_shr ez98 ez100 ⟨by omega, by omega⟩).2.mpr (eq_false_of_ne_true q))); exact w.2.2.1 (((xpz9 c ok h l ha).1 _ hN).mp b1).2.2) hP hS (lv_sub hl [0, 1, 2, 3, 4, 5, 6, 7, 8, 9] rfl)
            · have t101 := tq_eq (k := z100.toInt) (q := (0)) c101 rfl (by decide +kernel)
              refine lv_aload_n hx hb dX7_slides_104 rfl (lv_at hl 0 rfl) ?_
              refine lv_iload_n hx hb dX7_slides_105 rfl (lv_at hl 1 rfl) ?_
              refine lv_iload hx hb dX7_slides_106 (lv_at hl 9 rfl) ?_
              refine lv_iload hx hb dX7_slides_108 (lv_at hl 7 rfl) ?_
              refine lv_iload hx hb dX7_slides_110 (lv_at hl 8 rfl) ?_
              refine ro_i (va_runV (As := [.int p1, .int v83_9, .int z35, .int z45]) (rest := []) ⟨hx, hb, hml, hown, hts⟩ (s_X7_touches l dC dI cs L K G Q hQ x0 m0 tx tm H.size Iz17 J hIz17 p0 hLp0 hKp0 p1 ⟨by omega, by omega⟩ v83_9 ⟨by omega, by omega⟩ z35 z45 ⟨by omega, by omega⟩) (cwV 4 hts (gV pq1448 pq1450 pq44 pq81 pq1451) rfl rfl rfl (by decide +kernel) ⟨(by rw [hR]; exact (Nat.le_of_ble_eq_true rfl)), (by rw [hR]; exact (Nat.le_of_ble_eq_true rfl))⟩) (sP_V hP hD hK hN hLp0 hKp0 rfl rfl) rfl rfl hl.1 rfl (lv_room (Nat.le_of_ble_eq_true rfl)) dX7_slides_112 ⟨(by rw [hR]; exact (Nat.le_of_ble_eq_true rfl)), (by rw [hR]; exact (Nat.le_of_ble_eq_true rfl))⟩) hS hP (fun z112 H locs hz112 hP hS => ?_)
              obtain ⟨bz112, xpz112⟩ := hz112
              refine lv_if_eq (tgt := 129) hx hb dX7_slides_115 (by decide) (fun c115 => ?_) (fun c115 => ?_)
              · have t115 := tq_eq (k := z112.toInt) (q := (0)) c115 rfl (by decide +kernel)
                exact j129  _ _ _ (fun c ok h l ha hN w => (xpz112 c ok (rI17 c h) l ha hN ⟨by omega, by omega⟩).mpr ⟨fun q => w.1 q.symm, w.2.1, w.2.2.2⟩ t115) hP hS (lv_sub hl [0, 1, 2, 3, 4, 5, 6, 7, 8, 9] rfl)
              · have t115 := tq_ne (k := z112.toInt) (q := (0)) c115 rfl (by decide +kernel)
                refine lv_aload_n hx hb dX7_slides_118 rfl (lv_at hl 0 rfl) ?_
                refine lv_iload hx hb dX7_slides_119 (lv_at hl 9 rfl) ?_
                refine p_put hx hb hts inX7 tyX7 tyX7_ok nmX7 hown hK hP hD hS hLp0 hKp0 rfl rfl 18 (by decide) (hts _ pq1133) rfl (by decide +kernel) (Nat.le_of_ble_eq_true rfl) (oS_7_18 cs _ _ _ _) dX7_slides_121 (fun H locs hP hS => ?_)
                obtain ⟨Iz121, hP, hIz121, qIz121⟩ : ∃ Iz121, va_P (dC, dI) vwCl (Wd cs L K Iz121 J Q) H ∧ Iv L K x0 m0 tx tm Iz121 ∧ Iz121 = va_up Iz17 p0 (upd (Iz17 p0) 18 v83_9) := ⟨_, hP, Iv_put hIz17 hKp0 (oP_7_18 (Iv_at hIz17 hLp0 hKp0)) (by decide) (by decide), rfl⟩
                have dn_Iz121 : (∀ b, K b = 0 ∨ K b = 1 ∨ K b = 3 ∨ K b = 6 → Iz121 b = I b) := fun b hc => (congrFun qIz121 b).trans ((va_up_ne _ _ (fun z => by have q := hKp0; rw [← z] at q; omega)).trans (dn_Iz17 b hc))
                have kp0_11_Iz121 : Iz121 p0 11 = I p0 11 := (congrFun (congrFun qIz121 p0) 11).trans ((rz_fr _ _ _ _ (by decide)).trans kp0_11_Iz17)
                have fr_Iz121 : ∀ b, ¬ (K b = 7) → Iz121 b = I b := fun b q => (congrFun qIz121 b).trans ((va_up_ne _ _ (fun z => q (by rw [z]; have := hKp0; omega))).trans (fr_Iz17 b q))
                refine lv_iload hx hb dX7_slides_124 (lv_at hl 6 rfl) ?_
                refine lv_iconst (v := 1) hx hb dX7_slides_126 (by decide +kernel) ?_
                refine lv_isub hx hb dX7_slides_127 ?_
                refine lv_topi (fun z127 ez127 => ?_)
                have bz127 := tq_sub (k := v23_6.toInt) (q := (1)) ez127 rfl (by decide +kernel) (by omega) (by omega)
                subst hR; subst hQz
                exact W.iret (v := z127) hx hb hr (fun t ht hW => ⟨⟨z127, z127, rfl, ⟨rfl, ⟨by omega, by omega⟩, (fun c ok h l ha => by refine (slN_of ?_).symm; refine ⟨⟨by omega, by rw [← s2]; omega⟩, fun j h1 h2 => h23 c ok h l ha j h1 (by omega), Or.inr ?_⟩; unfold blkK; rw [show z127.toInt + 1 = v23_6.toInt by omega, ← x35, ← x45]; have n : z90 = c.1 1 := (show z90 = Iz17 (a0 Q p0 0) 1 from by rw [ez90, show a0 Q p0 0 = y86 from gd_of ey86]; rfl).trans (rI17 c h _ (by decide)); have hN : v83_9.toInt.toNat < (c.1 1).toInt.toNat := (by rw [← n]; omega); have w := (xpz112 c ok (rI17 c h) l ha hN ⟨by omega, by omega⟩).mp t115; have b0 := (hb_shr ez98 ez100 ⟨by omega, by omega⟩).2.mp t101; exact Or.inr ⟨_, hN, fun q => w.1 q.symm, w.2.1, fun m => (by rw [((xpz9 c ok h l ha).1 _ hN).mpr ⟨w.1, w.2.1, m⟩] at b0; cases b0), w.2.2⟩)⟩, ⟨Iz121, J, ⟨hIz121, fr_Iz121, kp0_11_Iz121, (hsl _ (by omega)), dn_Iz121, dj_J⟩, by rw [ht]; exact hP⟩⟩, hS.F ht⟩) hS.2.2 dX7_slides_128)
        exact key83 _ 0 _ _ _ rfl ⟨by decide +kernel, by decide +kernel⟩ (fun c ok h l ha => ⟨fun w => by have o54 : z54 = c.1 (19 + 8 * p1.toInt.toNat + 1) := (show z54 = Iz17 (a0 Q p0 0) (19 + 8 * p1.toInt.toNat + 1) from fez54).trans (rI17 c h _ (by omega)); have o63 : z63 = c.1 (19 + 8 * p1.toInt.toNat + 2) := (show z63 = Iz17 (a0 Q p0 0) (19 + 8 * p1.toInt.toNat + 2) from fez63).trans (rI17 c h _ (by omega)); unfold farB bX bY at w; rw [← o54, ← o63] at w; exact w ((by have := xpz69.1 t72; omega)), fun o ho => absurd ho (by rw [show (0 : Int32).toInt.toNat = 0 from by decide +kernel]; omega)⟩) hP hS (lv_sub hl [3, 4, 5, 6, 7, 8, 9, 2, 1, 0] rfl)
      · have t72 := tq_eq (k := z69.toInt) (q := (0)) c72 rfl (by decide +kernel)
        refine lv_iload hx hb dX7_slides_75 (lv_at hl 8 rfl) ?_
        refine lv_iconst (v := 1) hx hb dX7_slides_77 (by decide +kernel) ?_
        refine lv_isub hx hb dX7_slides_78 ?_
        refine lv_topi (fun z78 ez78 => ?_)
        have bz78 := tq_sub (k := v23_6.toInt) (q := (1)) ez78 rfl (by decide +kernel) (by omega) (by omega)
        subst hR; subst hQz
        exact W.iret (v := z78) hx hb hr (fun t ht hW => ⟨⟨z78, z78, rfl, ⟨rfl, ⟨by omega, by omega⟩, (fun c ok h l ha => by refine (slN_of ?_).symm; refine ⟨⟨by omega, by rw [← s2]; omega⟩, fun j h1 h2 => h23 c ok h l ha j h1 (by omega), Or.inr ?_⟩; unfold blkK; rw [show z78.toInt + 1 = v23_6.toInt by omega, ← x35, ← x45]; refine Or.inl (fun w => xpz69.2 t72 ?_); have o54 : z54 = c.1 (19 + 8 * p1.toInt.toNat + 1) := (show z54 = Iz17 (a0 Q p0 0) (19 + 8 * p1.toInt.toNat + 1) from fez54).trans (rI17 c h _ (by omega)); have o63 : z63 = c.1 (19 + 8 * p1.toInt.toNat + 2) := (show z63 = Iz17 (a0 Q p0 0) (19 + 8 * p1.toInt.toNat + 2) from fez63).trans (rI17 c h _ (by omega)); unfold bX bY at w; rw [← o54, ← o63] at w; omega)⟩, ⟨Iz17, J, ⟨hIz17, fr_Iz17, kp0_11_Iz17, (hsl _ (by omega)), dn_Iz17, dj_J⟩, by rw [ht]; exact hP⟩⟩, hS.F ht⟩) hS.2.2 dX7_slides_79)
  exact key23 _ 1 _ _ _ rfl ⟨by decide +kernel, by decide +kernel⟩ (fun r h => Or.inl (by rw [show (1 : Int32).toInt = 1 from by decide +kernel] at h; omega)) (by rw [show (1 : Int32).toInt = 1 from by decide +kernel]; omega) (fun c ok h l ha j h1 h2 => absurd h2 (by rw [show (1 : Int32).toInt = 1 from by decide +kernel]; omega)) hP hS (lv_sub hl [3, 4, 5, 6, 2, 1, 0] rfl)

set_option maxHeartbeats 4000000 in
set_option maxRecDepth 100000 in
theorem s_X7_goes (l : Launch) (dC : Nat → ClassId) (dI : Nat → Nat → Nat) (cs : Nat → ClassId) (L : List Nat) (K G : Nat → Nat) (Q : Nat → Nat → Option Nat) (hQ : Sv L K G Q) (x0 m0 : Nat) (tx : GT) (tm : GT × Int) (sz : Nat) (I : Nat → Nat → Int32) (J : Nat → Nat → Int64) (hI : Iv L K x0 m0 tx tm I) (p0 : Nat) (hLp0 : p0 ∈ L) (hKp0 : K p0 = 7) (p1 : Int32) (bp1 : (0) ≤ p1.toInt ∧ p1.toInt ≤ 9) (p2 : Int32) (p3 : Int32) (hgo : gB tm.2 (I ((Q p0 0).getD 0)) p1.toInt.toNat p2 p3) : Met l yX7_goes (.code yX7_goes cX7_goes 4 none :: pw) ({ frames := 1, cells := 0, slots := 0, locals := 23 }) (sP (dC, dI) cs [.ref p0, .int p1, .int p2, .int p3] sz L K I J Q) (va_Qv (fun (_ : Unit) => True) (fun _ t => sB (dC, dI) cs L K Q (fun I1 J1 => Iv L K x0 m0 tx tm I1 ∧ (∀ b, ¬ (K b = 18) → I1 b = I b) ∧ (I1 ((Q p0 0).getD 0) = gU (I ((Q p0 0).getD 0)) p1.toInt.toNat p2 p3) ∧ (∀ b, K b = 0 ∨ K b = 1 ∨ K b = 3 ∨ K b = 6 → I1 b = I b) ∧ (∀ σ : Sx, cmA Q I J p0 σ → cmA Q I1 J1 p0 (gC σ.1 p1.toInt.toNat p2 p3, σ.2)) ∧ J1 = J) t) (fun q => q ∈ L ∨ sz ≤ q)) 0 0 (fun q => q ∈ L ∨ sz ≤ q) := by
  refine Met.ofW (cc := cX7_goes) (maxL := 4) (ret := none) (by decide +kernel) rfl ?_
  intro p e s m args below meth c s₁ B hml hv
  obtain ⟨rfl, hsz, hP, hK, hD0, hN⟩ := hv
  have hx := B.exec
  have hb := B.bytes
  have hr := B.returns
  have hts := fun w (h : w ∈ pw) => atoms_spec (ws := Cond.code yX7_goes cX7_goes 4 none :: pw) B.pre w (List.mem_cons_of_mem _ h)
  have hown : s.vm.findClass RX7 = some m.cls := findClass_of_methodNamed B.named
  have hlocks := B.notSynchronized
  subst hsz
  have hBB : 999 ≤ tm.2 ∧ tm.2 ≤ 6000000 := hI.2.2.2.2.1
  have dn_I : (∀ b, K b = 0 ∨ K b = 1 ∨ K b = 3 ∨ K b = 6 → I b = I b) := fun _ _ => rfl
  have dj_J : J = J := rfl
  have fr_I : ∀ b, ¬ (K b = 18) → I b = I b := fun _ _ => rfl
  obtain ⟨A, hAe⟩ : ∃ A : Nat → Prop, A = (fun q => q ∈ L ∨ s.heap.size ≤ q) := ⟨_, rfl⟩
  rw [← hAe]
  have hAL : ∀ q, q ∈ L → A q := fun q h => by rw [hAe]; exact Or.inl h
  have hA : ∀ q, s.heap.size ≤ q → A q := fun q h => by rw [hAe]; exact Or.inr h
  have hD : ∀ F, va_D A (va_pl L F) := fun F => (hD0 F).weaken (fun k q hk _ => hAL _ (pl_mem hk))
  obtain ⟨H, hHe⟩ : ∃ H : Heap, H = s.heap := ⟨_, rfl⟩
  have hS : va_S A s.heap H [] := by rw [hHe]; exact va_S.rf
  rw [← hHe] at hP
  have hl := lv_entry ([.ref p0, .int p1, .int p2, .int p3]) (n := 4) (Nat.le_of_ble_eq_true rfl)
  rw [lg_entry_eq]
  generalize (lg_sl ([.ref p0, .int p1, .int p2, .int p3]) ++ List.replicate (4 - (lg_sl ([.ref p0, .int p1, .int p2, .int p3])).length) Slot.unset).toArray = ls at hl ⊢
  have hl : lv_has ls 4 [(0, .ref p0), (1, .int p1), (2, .int p2), (3, .int p3)] := hl
  rw [← hHe]
  refine namedW (fun R Qz hR hQz => ?_)
  refine lv_aload_n hx hb dX7_goes_0 rfl (lv_at hl 0 rfl) ?_
  refine lv_iload_n hx hb dX7_goes_1 rfl (lv_at hl 1 rfl) ?_
  refine lv_iconst (v := 1) hx hb dX7_goes_2 (by decide +kernel) ?_
  refine lv_aload_n hx hb dX7_goes_3 rfl (lv_at hl 0 rfl) ?_
  refine lv_iload_n hx hb dX7_goes_4 rfl (lv_at hl 1 rfl) ?_
  refine lv_iconst (v := 1) hx hb dX7_goes_5 (by decide +kernel) ?_
  refine ro_i (va_runV (As := [.int p1, .int 1]) (rest := [.int 1, .int p1, .ref p0]) ⟨hx, hb, hml, hown, hts⟩ (s_X7_of l dC dI cs L K G Q hQ x0 m0 tx tm H.size I J hI p0 hLp0 hKp0 p1 ⟨by omega, by omega⟩ 1 ⟨by decide +kernel, by decide +kernel⟩) (cwV 2 hts (gV pq1320 pq1322 pq25 pq81 pq1323) rfl rfl rfl (by decide +kernel) ⟨(by rw [hR]; exact (Nat.le_of_ble_eq_true rfl)), (by rw [hR]; exact (Nat.le_of_ble_eq_true rfl))⟩) (sP_V hP hD hK hN hLp0 hKp0 rfl rfl) rfl rfl hl.1 rfl (lv_room (Nat.le_of_ble_eq_true rfl)) dX7_goes_6 ⟨(by rw [hR]; exact (Nat.le_of_ble_eq_true rfl)), (by rw [hR]; exact (Nat.le_of_ble_eq_true rfl))⟩) hS hP (fun z6 H locs hz6 hP hS => ?_)
  have cst6_1 : (1 : Int32).toInt = 1 := by decide +kernel
  obtain ⟨fez6, xpz6⟩ := hz6
  have bz6 := xpz6.2.1 rfl
  refine lv_iload_n hx hb dX7_goes_9 rfl (lv_at hl 2 rfl) ?_
  refine lv_iadd hx hb dX7_goes_10 ?_
  refine lv_topi (fun z10 ez10 => ?_)
  have e10 : z10 = I ((Q p0 0).getD 0) (19 + 8 * p1.toInt.toNat + 1) + p2 := by rw [ez10, fez6]; rfl
  have g10 := hgo.1
  rw [← e10] at g10
  unfold inR at g10
  refine sw_v (Z := (fun I1 J1 => Iv L K x0 m0 tx tm I1 ∧ (∀ b, ¬ (K b = 18) → I1 b = I b) ∧ (I1 ((Q p0 0).getD 0) = upd (I ((Q p0 0).getD 0)) (19 + 8 * p1.toInt.toNat + (1 : Int32).toInt.toNat) z10) ∧ (∀ b, K b = 0 ∨ K b = 1 ∨ K b = 3 ∨ K b = 6 → I1 b = I b) ∧ J1 = J)) (va_runV (As := [.int p1, .int 1, .int z10]) (rest := []) ⟨hx, hb, hml, hown, hts⟩ (s_X7_sets l dC dI cs L K G Q hQ x0 m0 tx tm H.size I J hI p0 hLp0 hKp0 p1 ⟨by omega, by omega⟩ 1 ⟨by decide +kernel, by decide +kernel⟩ z10 (rng_1 ⟨by decide +kernel, by decide +kernel⟩ (by omega) ⟨by omega, by omega⟩)) (cwV 3 hts (gV pq1336 pq1338 pq29 pq81 pq1339) rfl rfl rfl (by decide +kernel) ⟨(by rw [hR]; exact (Nat.le_of_ble_eq_true rfl)), (by rw [hR]; exact (Nat.le_of_ble_eq_true rfl))⟩) (sP_V hP hD hK hN hLp0 hKp0 rfl rfl) rfl rfl hl.1 rfl (lv_room (Nat.le_of_ble_eq_true rfl)) dX7_goes_11 ⟨(by rw [hR]; exact (Nat.le_of_ble_eq_true rfl)), (by rw [hR]; exact (Nat.le_of_ble_eq_true rfl))⟩) hS hAL hA (fun Iz11 Jz11 H locs hz11 hIz11 hP hS => ?_)
  obtain ⟨hIz11, frc11, zp11, dnc11, djc11⟩ := hIz11
  obtain rfl : J = Jz11 := djc11.symm
  have dn_Iz11 : (∀ b, K b = 0 ∨ K b = 1 ∨ K b = 3 ∨ K b = 6 → Iz11 b = I b) := fun b hc => (dnc11 b (by omega)).trans (dn_I b hc)
  have fr_Iz11 : ∀ b, ¬ (K b = 18) → Iz11 b = I b := fun b q => (frc11 b (fun z => q (by omega))).trans (fr_I b q)
  refine lv_aload_n hx hb dX7_goes_14 rfl (lv_at hl 0 rfl) ?_
  refine lv_iload_n hx hb dX7_goes_15 rfl (lv_at hl 1 rfl) ?_
  refine lv_iconst (v := 2) hx hb dX7_goes_16 (by decide +kernel) ?_
  refine lv_aload_n hx hb dX7_goes_17 rfl (lv_at hl 0 rfl) ?_
  refine lv_iload_n hx hb dX7_goes_18 rfl (lv_at hl 1 rfl) ?_
  refine lv_iconst (v := 2) hx hb dX7_goes_19 (by decide +kernel) ?_
  refine ro_i (va_runV (As := [.int p1, .int 2]) (rest := [.int 2, .int p1, .ref p0]) ⟨hx, hb, hml, hown, hts⟩ (s_X7_of l dC dI cs L K G Q hQ x0 m0 tx tm H.size Iz11 J hIz11 p0 hLp0 hKp0 p1 ⟨by omega, by omega⟩ 2 ⟨by decide +kernel, by decide +kernel⟩) (cwV 2 hts (gV pq1320 pq1322 pq25 pq81 pq1323) rfl rfl rfl (by decide +kernel) ⟨(by rw [hR]; exact (Nat.le_of_ble_eq_true rfl)), (by rw [hR]; exact (Nat.le_of_ble_eq_true rfl))⟩) (sP_V hP hD hK hN hLp0 hKp0 rfl rfl) rfl rfl hl.1 rfl (lv_room (Nat.le_of_ble_eq_true rfl)) dX7_goes_20 ⟨(by rw [hR]; exact (Nat.le_of_ble_eq_true rfl)), (by rw [hR]; exact (Nat.le_of_ble_eq_true rfl))⟩) hS hP (fun z20 H locs hz20 hP hS => ?_)
  have cst20_2 : (2 : Int32).toInt = 2 := by decide +kernel
  obtain ⟨fez20, xpz20⟩ := hz20
  have bz20 := xpz20.2.2.1 rfl
  refine lv_iload_n hx hb dX7_goes_23 rfl (lv_at hl 3 rfl) ?_
  refine lv_iadd hx hb dX7_goes_24 ?_
  refine lv_topi (fun z24 ez24 => ?_)
  have e20 : z20 = I ((Q p0 0).getD 0) (19 + 8 * p1.toInt.toNat + 2) := by rw [fez20, zp11]; unfold upd; rw [if_neg (by show ¬ 19 + 8 * p1.toInt.toNat + 2 = 19 + 8 * p1.toInt.toNat + 1; omega)]; rfl
  have e24 : z24 = I ((Q p0 0).getD 0) (19 + 8 * p1.toInt.toNat + 2) + p3 := by rw [ez24, e20]
  have g24 := hgo.2
  rw [← e24] at g24
  unfold inR at g24
  refine sw_v (Z := (fun I1 J1 => Iv L K x0 m0 tx tm I1 ∧ (∀ b, ¬ (K b = 18) → I1 b = Iz11 b) ∧ (I1 ((Q p0 0).getD 0) = upd (Iz11 ((Q p0 0).getD 0)) (19 + 8 * p1.toInt.toNat + (2 : Int32).toInt.toNat) z24) ∧ (∀ b, K b = 0 ∨ K b = 1 ∨ K b = 3 ∨ K b = 6 → I1 b = Iz11 b) ∧ J1 = J)) (va_runV (As := [.int p1, .int 2, .int z24]) (rest := []) ⟨hx, hb, hml, hown, hts⟩ (s_X7_sets l dC dI cs L K G Q hQ x0 m0 tx tm H.size Iz11 J hIz11 p0 hLp0 hKp0 p1 ⟨by omega, by omega⟩ 2 ⟨by decide +kernel, by decide +kernel⟩ z24 (rng_1 ⟨by decide +kernel, by decide +kernel⟩ (by omega) ⟨by omega, by omega⟩)) (cwV 3 hts (gV pq1336 pq1338 pq29 pq81 pq1339) rfl rfl rfl (by decide +kernel) ⟨(by rw [hR]; exact (Nat.le_of_ble_eq_true rfl)), (by rw [hR]; exact (Nat.le_of_ble_eq_true rfl))⟩) (sP_V hP hD hK hN hLp0 hKp0 rfl rfl) rfl rfl hl.1 rfl (lv_room (Nat.le_of_ble_eq_true rfl)) dX7_goes_25 ⟨(by rw [hR]; exact (Nat.le_of_ble_eq_true rfl)), (by rw [hR]; exact (Nat.le_of_ble_eq_true rfl))⟩) hS hAL hA (fun Iz25 Jz25 H locs hz25 hIz25 hP hS => ?_)
  obtain ⟨hIz25, frc25, zp25, dnc25, djc25⟩ := hIz25
  obtain rfl : J = Jz25 := djc25.symm
  have dn_Iz25 : (∀ b, K b = 0 ∨ K b = 1 ∨ K b = 3 ∨ K b = 6 → Iz25 b = I b) := fun b hc => (dnc25 b (by omega)).trans (dn_Iz11 b hc)
  have fr_Iz25 : ∀ b, ¬ (K b = 18) → Iz25 b = I b := fun b q => (frc25 b (fun z => q (by omega))).trans (fr_Iz11 b q)
  subst hR; subst hQz
  exact W.vret hx hb hr (fun t ht hW => ⟨⟨(), rfl, trivial, ⟨Iz25, J, ⟨hIz25, fr_Iz25, (by rw [zp25, zp11, e24, e10]; rfl), dn_Iz25, (fun σ A => cmA_go hQ hLp0 hKp0 (by omega) (by show Iz25 ((Q p0 0).getD 0) = _; rw [zp25, zp11, e24, e10]; rfl) (fun b hb => by rw [frc25 b hb, frc11 b hb]) A), dj_J⟩, by rw [ht]; exact hP⟩⟩, hS.F ht⟩) hS.2.2 dX7_goes_28

set_option maxHeartbeats 4000000 in
set_option maxRecDepth 100000 in
theorem s_X7_slidesNowF (l : Launch) (dC : Nat → ClassId) (dI : Nat → Nat → Nat) (cs : Nat → ClassId) (L : List Nat) (K G : Nat → Nat) (Q : Nat → Nat → Option Nat) (hQ : Sv L K G Q) (x0 m0 : Nat) (tx : GT) (tm : GT × Int) (sz : Nat) (I : Nat → Nat → Int32) (J : Nat → Nat → Int64) (hI : Iv L K x0 m0 tx tm I) (p0 : Nat) (hLp0 : p0 ∈ L) (hKp0 : K p0 = 7) (p1 : Int32) (bp1 : (0) ≤ p1.toInt ∧ p1.toInt ≤ 9) (p2 : Int32) (bp2 : (0) ≤ p2.toInt ∧ p2.toInt ≤ 0) (p3 : Int32) (bp3 : (200) ≤ p3.toInt ∧ p3.toInt ≤ 200) : Met l yX7_slidesNow (.code yX7_slidesNow cX7_slidesNow 6 (some .int) :: pw) ({ frames := 7, cells := 0, slots := 0, locals := 174 }) (sP (dC, dI) cs [.ref p0, .int p1, .int p2, .int p3] sz L K I J Q) (va_Qi (fun (r : Int32) (u : Int32) => u = r ∧ ((0) ≤ r.toInt ∧ r.toInt ≤ 300) ∧ (∀ c : Fx, okF c → rI Q I p0 c → ldA Q J p0 c → p1.toInt.toNat < (c.1 1).toInt.toNat → r.toInt = slN c p1.toInt.toNat p2.toInt p3.toInt)) (fun u t => sB (dC, dI) cs L K Q (fun I1 J1 => Iv L K x0 m0 tx tm I1 ∧ (∀ b, ¬ (K b = 7 ∨ K b = 18) → I1 b = I b) ∧ I1 p0 11 = I p0 11 ∧ (fM tm.2 (I1 ((Q p0 0).getD 0)) + u.toInt = fM tm.2 (I ((Q p0 0).getD 0))) ∧ (∀ b, K b = 0 ∨ K b = 1 ∨ K b = 3 ∨ K b = 6 → I1 b = I b) ∧ (∀ σ : Sx, okF σ.1 → cmA Q I J p0 σ → ldA Q J p0 σ.1 → p1.toInt.toNat < (σ.1.1 1).toInt.toNat → cmA Q I1 J1 p0 (slC σ.1 p1.toInt.toNat p2.toInt p3.toInt, σ.2)) ∧ J1 = J) t) (fun q => q ∈ L ∨ sz ≤ q)) 0 0 (fun q => q ∈ L ∨ sz ≤ q) := by
  refine Met.ofW (cc := cX7_slidesNow) (maxL := 6) (ret := (some .int)) (by decide +kernel) rfl ?_
  intro p e s m args below meth c s₁ B hml hv
  obtain ⟨rfl, hsz, hP, hK, hD0, hN⟩ := hv
  have hx := B.exec
  have hb := B.bytes
  have hr := B.returns
  have hts := fun w (h : w ∈ pw) => atoms_spec (ws := Cond.code yX7_slidesNow cX7_slidesNow 6 (some .int) :: pw) B.pre w (List.mem_cons_of_mem _ h)
  have hown : s.vm.findClass RX7 = some m.cls := findClass_of_methodNamed B.named
  have hlocks := B.notSynchronized
  subst hsz
  have hBB : 999 ≤ tm.2 ∧ tm.2 ≤ 6000000 := hI.2.2.2.2.1
  have dn_I : (∀ b, K b = 0 ∨ K b = 1 ∨ K b = 3 ∨ K b = 6 → I b = I b) := fun _ _ => rfl
  have dj_J : J = J := rfl
  have kp0_11_I : I p0 11 = I p0 11 := rfl
  have fr_I : ∀ b, ¬ (K b = 7 ∨ K b = 18) → I b = I b := fun _ _ => rfl
  obtain ⟨A, hAe⟩ : ∃ A : Nat → Prop, A = (fun q => q ∈ L ∨ s.heap.size ≤ q) := ⟨_, rfl⟩
  rw [← hAe]
  have hAL : ∀ q, q ∈ L → A q := fun q h => by rw [hAe]; exact Or.inl h
  have hA : ∀ q, s.heap.size ≤ q → A q := fun q h => by rw [hAe]; exact Or.inr h
  have hD : ∀ F, va_D A (va_pl L F) := fun F => (hD0 F).weaken (fun k q hk _ => hAL _ (pl_mem hk))
  obtain ⟨H, hHe⟩ : ∃ H : Heap, H = s.heap := ⟨_, rfl⟩
  have hS : va_S A s.heap H [] := by rw [hHe]; exact va_S.rf
  rw [← hHe] at hP
  have hl := lv_entry ([.ref p0, .int p1, .int p2, .int p3]) (n := 6) (Nat.le_of_ble_eq_true rfl)
  rw [lg_entry_eq]
  generalize (lg_sl ([.ref p0, .int p1, .int p2, .int p3]) ++ List.replicate (6 - (lg_sl ([.ref p0, .int p1, .int p2, .int p3])).length) Slot.unset).toArray = ls at hl ⊢
  have hl : lv_has ls 6 [(0, .ref p0), (1, .int p1), (2, .int p2), (3, .int p3)] := hl
  rw [← hHe]
  refine namedW (fun R Qz hR hQz => ?_)
  refine lv_aload_n hx hb dX7_slidesNow_0 rfl (lv_at hl 0 rfl) ?_
  refine lv_iload_n hx hb dX7_slidesNow_1 rfl (lv_at hl 1 rfl) ?_
  refine lv_iload_n hx hb dX7_slidesNow_2 rfl (lv_at hl 2 rfl) ?_
  refine lv_iload_n hx hb dX7_slidesNow_3 rfl (lv_at hl 3 rfl) ?_
  refine sw_ir (Z := (fun u => (fun I1 J1 => Iv L K x0 m0 tx tm I1 ∧ (∀ b, ¬ (K b = 7) → I1 b = I b) ∧ I1 p0 11 = I p0 11 ∧ slR (I ((Q p0 0).getD 0)) p1.toInt.toNat u p2 p3 ∧ (∀ b, K b = 0 ∨ K b = 1 ∨ K b = 3 ∨ K b = 6 → I1 b = I b) ∧ J1 = J))) (va_runV (As := [.int p1, .int p2, .int p3]) (rest := []) ⟨hx, hb, hml, hown, hts⟩ (s_X7_slides l dC dI cs L K G Q hQ x0 m0 tx tm H.size I J hI p0 hLp0 hKp0 p1 ⟨by omega, by omega⟩ p2 ⟨by omega, by omega⟩ p3 ⟨by omega, by omega⟩) (cwV 3 hts (gV pq1435 pq1437 pq42 pq81 pq1438) rfl rfl rfl (by decide +kernel) ⟨(by rw [hR]; exact (Nat.le_of_ble_eq_true rfl)), (by rw [hR]; exact (Nat.le_of_ble_eq_true rfl))⟩) (sP_V hP hD hK hN hLp0 hKp0 rfl rfl) rfl rfl hl.1 rfl (lv_room (Nat.le_of_ble_eq_true rfl)) dX7_slidesNow_4 ⟨(by rw [hR]; exact (Nat.le_of_ble_eq_true rfl)), (by rw [hR]; exact (Nat.le_of_ble_eq_true rfl))⟩) hS hAL hA (fun z4 Iz4 Jz4 H locs hz4 hIz4 hP hS => ?_)
  obtain ⟨hIz4, frc4, kc4_0_11, zr4, dnc4, djc4⟩ := hIz4
  obtain rfl : J = Jz4 := djc4.symm
  have dn_Iz4 : (∀ b, K b = 0 ∨ K b = 1 ∨ K b = 3 ∨ K b = 6 → Iz4 b = I b) := fun b hc => (dnc4 b (by omega)).trans (dn_I b hc)
  have kp0_11_Iz4 : Iz4 p0 11 = I p0 11 := kc4_0_11.trans kp0_11_I
  have fr_Iz4 : ∀ b, ¬ (K b = 7 ∨ K b = 18) → Iz4 b = I b := fun b q => (frc4 b (fun z => q (by omega))).trans (fr_I b q)
  obtain ⟨bz4, xpz4⟩ := hz4
  refine lv_istore (lv' := [(4, .int z4), (0, .ref p0), (1, .int p1), (2, .int p2), (3, .int p3)]) hx hb dX7_slidesNow_7 hl (by decide) rfl (fun ls hl => ?_)
  refine lv_iload_n hx hb dX7_slidesNow_9 rfl (lv_at hl 3 rfl) ?_
  refine lv_iload_n hx hb dX7_slidesNow_10 rfl (lv_at hl 4 rfl) ?_
  refine ro_i (va_runS (As := [.int p2, .int p3]) (rest := []) ⟨hx, hb, hml, hown, hts⟩ (s_X7_steps l dC dI cs L K G Q hQ x0 m0 tx tm H.size Iz4 J hIz4 p2 ⟨by omega, by omega⟩ p3 ⟨by omega, by omega⟩) (va_cwS 2 hts (gS pq1439 pq1440 pq81 pq1441) rfl rfl rfl (by decide +kernel) ⟨(by rw [hR]; exact (Nat.le_of_ble_eq_true rfl)), (by rw [hR]; exact (Nat.le_of_ble_eq_true rfl))⟩) (sP_S hP hD hK hN) rfl rfl hl.1 rfl (lv_room (Nat.le_of_ble_eq_true rfl)) dX7_slidesNow_11 ⟨(by rw [hR]; exact (Nat.le_of_ble_eq_true rfl)), (by rw [hR]; exact (Nat.le_of_ble_eq_true rfl))⟩) hS hP (fun z11 H locs hz11 hP hS => ?_)
  obtain ⟨bz11, fez11⟩ := hz11
  refine lv_istore (lv' := [(5, .int z11), (4, .int z4), (0, .ref p0), (1, .int p1), (2, .int p2), (3, .int p3)]) hx hb dX7_slidesNow_14 hl (by decide) rfl (fun ls hl => ?_)
  refine lv_aload_n hx hb dX7_slidesNow_16 rfl (lv_at hl 2 rfl) ?_
  refine lv_iload_n hx hb dX7_slidesNow_17 rfl (lv_at hl 3 rfl) ?_
  refine lv_iload hx hb dX7_slidesNow_18 (lv_at hl 1 rfl) ?_
  refine lv_iload_n hx hb dX7_slidesNow_20 rfl (lv_at hl 4 rfl) ?_
  refine lv_iload hx hb dX7_slidesNow_21 (lv_at hl 0 rfl) ?_
  refine ro_i (va_runS (As := [.int z4, .int p2, .int z11]) (rest := [.int p1, .ref p0]) ⟨hx, hb, hml, hown, hts⟩ (s_X7_by l dC dI cs L K G Q hQ x0 m0 tx tm H.size Iz4 J hIz4 z4 p2 z11 ⟨by omega, by omega⟩) (va_cwS 3 hts (gS pq1470 pq1471 pq81 pq1472) rfl rfl rfl (by decide +kernel) ⟨(by rw [hR]; exact (Nat.le_of_ble_eq_true rfl)), (by rw [hR]; exact (Nat.le_of_ble_eq_true rfl))⟩) (sP_S hP hD hK hN) rfl rfl hl.1 rfl (lv_room (Nat.le_of_ble_eq_true rfl)) dX7_slidesNow_23 ⟨(by rw [hR]; exact (Nat.le_of_ble_eq_true rfl)), (by rw [hR]; exact (Nat.le_of_ble_eq_true rfl))⟩) hS hP (fun z23 H locs hz23 hP hS => ?_)
  obtain ⟨bz23, fez23⟩ := hz23
  refine lv_iload hx hb dX7_slidesNow_26 (lv_at hl 1 rfl) ?_
  refine lv_iload_n hx hb dX7_slidesNow_28 rfl (lv_at hl 5 rfl) ?_
  refine lv_iload hx hb dX7_slidesNow_29 (lv_at hl 0 rfl) ?_
  refine ro_i (va_runS (As := [.int z4, .int p3, .int z11]) (rest := [.int z23, .int p1, .ref p0]) ⟨hx, hb, hml, hown, hts⟩ (s_X7_by l dC dI cs L K G Q hQ x0 m0 tx tm H.size Iz4 J hIz4 z4 p3 z11 ⟨by omega, by omega⟩) (va_cwS 3 hts (gS pq1470 pq1471 pq81 pq1472) rfl rfl rfl (by decide +kernel) ⟨(by rw [hR]; exact (Nat.le_of_ble_eq_true rfl)), (by rw [hR]; exact (Nat.le_of_ble_eq_true rfl))⟩) (sP_S hP hD hK hN) rfl rfl hl.1 rfl (lv_room (Nat.le_of_ble_eq_true rfl)) dX7_slidesNow_31 ⟨(by rw [hR]; exact (Nat.le_of_ble_eq_true rfl)), (by rw [hR]; exact (Nat.le_of_ble_eq_true rfl))⟩) hS hP (fun z31 H locs hz31 hP hS => ?_)
  obtain ⟨bz31, fez31⟩ := hz31
  refine sw_v (Z := (fun I1 J1 => Iv L K x0 m0 tx tm I1 ∧ (∀ b, ¬ (K b = 18) → I1 b = Iz4 b) ∧ (I1 ((Q p0 0).getD 0) = gU (Iz4 ((Q p0 0).getD 0)) p1.toInt.toNat z23 z31) ∧ (∀ b, K b = 0 ∨ K b = 1 ∨ K b = 3 ∨ K b = 6 → I1 b = Iz4 b) ∧ (∀ σ : Sx, cmA Q Iz4 J p0 σ → cmA Q I1 J1 p0 (gC σ.1 p1.toInt.toNat z23 z31, σ.2)) ∧ J1 = J)) (va_runV (As := [.int p1, .int z23, .int z31]) (rest := []) ⟨hx, hb, hml, hown, hts⟩ (s_X7_goes l dC dI cs L K G Q hQ x0 m0 tx tm H.size Iz4 J hIz4 p0 hLp0 hKp0 p1 ⟨by omega, by omega⟩ z23 z31 (by have e1 := fez23; have e2 := fez31; rw [fez11] at e1 e2; rw [e1, e2, frc4 _ (by have := (nw_of hQ hLp0 hKp0).2; omega)]; exact slR_gB zr4 (by rw [← fez11]; omega) (nwB (Iv_at hI (nw_of hQ hLp0 hKp0).1 (nw_of hQ hLp0 hKp0).2)) hBB.1)) (cwV 3 hts (gV pq1474 pq1476 pq48 pq81 pq1477) rfl rfl rfl (by decide +kernel) ⟨(by rw [hR]; exact (Nat.le_of_ble_eq_true rfl)), (by rw [hR]; exact (Nat.le_of_ble_eq_true rfl))⟩) (sP_V hP hD hK hN hLp0 hKp0 rfl rfl) rfl rfl hl.1 rfl (lv_room (Nat.le_of_ble_eq_true rfl)) dX7_slidesNow_34 ⟨(by rw [hR]; exact (Nat.le_of_ble_eq_true rfl)), (by rw [hR]; exact (Nat.le_of_ble_eq_true rfl))⟩) hS hAL hA (fun Iz34 Jz34 H locs hz34 hIz34 hP hS => ?_)
  obtain ⟨hIz34, frc34, zp34, dnc34, jz34, djc34⟩ := hIz34
  obtain rfl : J = Jz34 := djc34.symm
  have dn_Iz34 : (∀ b, K b = 0 ∨ K b = 1 ∨ K b = 3 ∨ K b = 6 → Iz34 b = I b) := fun b hc => (dnc34 b (by omega)).trans (dn_Iz4 b hc)
  have kp0_11_Iz34 : Iz34 p0 11 = I p0 11 := (congrFun (frc34 p0 (by omega)) 11).trans kp0_11_Iz4
  have fr_Iz34 : ∀ b, ¬ (K b = 7 ∨ K b = 18) → Iz34 b = I b := fun b q => (frc34 b (fun z => q (by omega))).trans (fr_Iz4 b q)
  refine lv_iload hx hb dX7_slidesNow_37 (lv_at hl 1 rfl) ?_
  subst hR; subst hQz
  exact W.iret (v := z4) hx hb hr (fun t ht hW => ⟨⟨z4, z4, rfl, ⟨rfl, ⟨by omega, by omega⟩, xpz4⟩, ⟨Iz34, J, ⟨hIz34, fr_Iz34, kp0_11_Iz34, (by have a2 : p2 = 0 := Int32.toInt_inj.mp (by rw [show (0 : Int32).toInt = 0 from by decide +kernel]; omega); have a3 : p3 = 200 := Int32.toInt_inj.mp (by rw [show (200 : Int32).toInt = 200 from by decide +kernel]; omega); have e3 : z31 = z4 := (by rw [fez31, fez11, a2, a3, show stF 0 200 = 200 from by decide +kernel]; exact (byF_200 ⟨by omega, by omega⟩).1); refine fM_go (b := p1.toInt.toNat) (dx := z23) (by omega) ⟨by omega, by omega⟩ hBB.2 (Iv_at hI (nw_of hQ hLp0 hKp0).1 (nw_of hQ hLp0 hKp0).2) ?_; rw [zp34, frc4 _ (by have := (nw_of hQ hLp0 hKp0).2; omega), e3]), dn_Iz34, (fun σ ok A l ha => by have r := xpz4 σ.1 ok (cmA_rI A) l ha; have A4 := cmA_fr (I1 := Iz4) (J1 := J) hQ hLp0 hKp0 (fun b hb => frc4 b (by omega)) (fun _ _ => rfl) kc4_0_11 A; have s11 : z11.toInt = stI p2.toInt p3.toInt := (by rw [show z11 = stF p2 p3 from fez11]; exact stF_i ⟨by omega, by omega⟩ ⟨by omega, by omega⟩); have x23 : slX σ.1 p1.toInt.toNat p2.toInt p3.toInt = z23 := (by unfold slX; rw [← r, ← s11, ← byF_i (k := z4) (d := p2) (n := z11) ⟨by omega, by omega⟩ ⟨by omega, by omega⟩ ⟨by omega, by omega⟩, Int32.ofInt_toInt]; exact fez23.symm); have x31 : slY σ.1 p1.toInt.toNat p2.toInt p3.toInt = z31 := (by unfold slY; rw [← r, ← s11, ← byF_i (k := z4) (d := p3) (n := z11) ⟨by omega, by omega⟩ ⟨by omega, by omega⟩ ⟨by omega, by omega⟩, Int32.ofInt_toInt]; exact fez31.symm); have B := jz34 σ A4; unfold slC; rw [x23, x31]; exact B), dj_J⟩, by rw [ht]; exact hP⟩⟩, hS.F ht⟩) hS.2.2 dX7_slidesNow_39

set_option maxHeartbeats 4000000 in
set_option maxRecDepth 100000 in
theorem s_X7_slidesNow (l : Launch) (dC : Nat → ClassId) (dI : Nat → Nat → Nat) (cs : Nat → ClassId) (L : List Nat) (K G : Nat → Nat) (Q : Nat → Nat → Option Nat) (hQ : Sv L K G Q) (x0 m0 : Nat) (tx : GT) (tm : GT × Int) (sz : Nat) (I : Nat → Nat → Int32) (J : Nat → Nat → Int64) (hI : Iv L K x0 m0 tx tm I) (p0 : Nat) (hLp0 : p0 ∈ L) (hKp0 : K p0 = 7) (p1 : Int32) (bp1 : (0) ≤ p1.toInt ∧ p1.toInt ≤ 9) (p2 : Int32) (bp2 : (-200) ≤ p2.toInt ∧ p2.toInt ≤ 200) (p3 : Int32) (bp3 : (-200) ≤ p3.toInt ∧ p3.toInt ≤ 200) : Met l yX7_slidesNow (.code yX7_slidesNow cX7_slidesNow 6 (some .int) :: pw) ({ frames := 7, cells := 0, slots := 0, locals := 174 }) (sP (dC, dI) cs [.ref p0, .int p1, .int p2, .int p3] sz L K I J Q) (va_Qi (fun (r : Int32) (_ : Unit) => ((0) ≤ r.toInt ∧ r.toInt ≤ 300) ∧ (∀ c : Fx, okF c → rI Q I p0 c → ldA Q J p0 c → p1.toInt.toNat < (c.1 1).toInt.toNat → r.toInt = slN c p1.toInt.toNat p2.toInt p3.toInt)) (fun _ t => sB (dC, dI) cs L K Q (fun I1 J1 => Iv L K x0 m0 tx tm I1 ∧ (∀ b, ¬ (K b = 7 ∨ K b = 18) → I1 b = I b) ∧ I1 p0 11 = I p0 11 ∧ (∀ b, K b = 0 ∨ K b = 1 ∨ K b = 3 ∨ K b = 6 → I1 b = I b) ∧ (∀ σ : Sx, okF σ.1 → cmA Q I J p0 σ → ldA Q J p0 σ.1 → p1.toInt.toNat < (σ.1.1 1).toInt.toNat → cmA Q I1 J1 p0 (slC σ.1 p1.toInt.toNat p2.toInt p3.toInt, σ.2)) ∧ J1 = J) t) (fun q => q ∈ L ∨ sz ≤ q)) 0 0 (fun q => q ∈ L ∨ sz ≤ q) := by
  refine Met.ofW (cc := cX7_slidesNow) (maxL := 6) (ret := (some .int)) (by decide +kernel) rfl ?_
  intro p e s m args below meth c s₁ B hml hv
  obtain ⟨rfl, hsz, hP, hK, hD0, hN⟩ := hv
  have hx := B.exec
  have hb := B.bytes
  have hr := B.returns
  have hts := fun w (h : w ∈ pw) => atoms_spec (ws := Cond.code yX7_slidesNow cX7_slidesNow 6 (some .int) :: pw) B.pre w (List.mem_cons_of_mem _ h)
  have hown : s.vm.findClass RX7 = some m.cls := findClass_of_methodNamed B.named
  have hlocks := B.notSynchronized
  subst hsz
  have hBB : 999 ≤ tm.2 ∧ tm.2 ≤ 6000000 := hI.2.2.2.2.1
  have dn_I : (∀ b, K b = 0 ∨ K b = 1 ∨ K b = 3 ∨ K b = 6 → I b = I b) := fun _ _ => rfl
  have dj_J : J = J := rfl
  have kp0_11_I : I p0 11 = I p0 11 := rfl
  have fr_I : ∀ b, ¬ (K b = 7 ∨ K b = 18) → I b = I b := fun _ _ => rfl
  obtain ⟨A, hAe⟩ : ∃ A : Nat → Prop, A = (fun q => q ∈ L ∨ s.heap.size ≤ q) := ⟨_, rfl⟩
  rw [← hAe]
  have hAL : ∀ q, q ∈ L → A q := fun q h => by rw [hAe]; exact Or.inl h
  have hA : ∀ q, s.heap.size ≤ q → A q := fun q h => by rw [hAe]; exact Or.inr h
  have hD : ∀ F, va_D A (va_pl L F) := fun F => (hD0 F).weaken (fun k q hk _ => hAL _ (pl_mem hk))
  obtain ⟨H, hHe⟩ : ∃ H : Heap, H = s.heap := ⟨_, rfl⟩
  have hS : va_S A s.heap H [] := by rw [hHe]; exact va_S.rf
  rw [← hHe] at hP
  have hl := lv_entry ([.ref p0, .int p1, .int p2, .int p3]) (n := 6) (Nat.le_of_ble_eq_true rfl)
  rw [lg_entry_eq]
  generalize (lg_sl ([.ref p0, .int p1, .int p2, .int p3]) ++ List.replicate (6 - (lg_sl ([.ref p0, .int p1, .int p2, .int p3])).length) Slot.unset).toArray = ls at hl ⊢
  have hl : lv_has ls 6 [(0, .ref p0), (1, .int p1), (2, .int p2), (3, .int p3)] := hl
  rw [← hHe]
  refine namedW (fun R Qz hR hQz => ?_)
  refine lv_aload_n hx hb dX7_slidesNow_0 rfl (lv_at hl 0 rfl) ?_
  refine lv_iload_n hx hb dX7_slidesNow_1 rfl (lv_at hl 1 rfl) ?_
  refine lv_iload_n hx hb dX7_slidesNow_2 rfl (lv_at hl 2 rfl) ?_
  refine lv_iload_n hx hb dX7_slidesNow_3 rfl (lv_at hl 3 rfl) ?_
  refine sw_ir (Z := (fun u => (fun I1 J1 => Iv L K x0 m0 tx tm I1 ∧ (∀ b, ¬ (K b = 7) → I1 b = I b) ∧ I1 p0 11 = I p0 11 ∧ slR (I ((Q p0 0).getD 0)) p1.toInt.toNat u p2 p3 ∧ (∀ b, K b = 0 ∨ K b = 1 ∨ K b = 3 ∨ K b = 6 → I1 b = I b) ∧ J1 = J))) (va_runV (As := [.int p1, .int p2, .int p3]) (rest := []) ⟨hx, hb, hml, hown, hts⟩ (s_X7_slides l dC dI cs L K G Q hQ x0 m0 tx tm H.size I J hI p0 hLp0 hKp0 p1 ⟨by omega, by omega⟩ p2 ⟨by omega, by omega⟩ p3 ⟨by omega, by omega⟩) (cwV 3 hts (gV pq1435 pq1437 pq42 pq81 pq1438) rfl rfl rfl (by decide +kernel) ⟨(by rw [hR]; exact (Nat.le_of_ble_eq_true rfl)), (by rw [hR]; exact (Nat.le_of_ble_eq_true rfl))⟩) (sP_V hP hD hK hN hLp0 hKp0 rfl rfl) rfl rfl hl.1 rfl (lv_room (Nat.le_of_ble_eq_true rfl)) dX7_slidesNow_4 ⟨(by rw [hR]; exact (Nat.le_of_ble_eq_true rfl)), (by rw [hR]; exact (Nat.le_of_ble_eq_true rfl))⟩) hS hAL hA (fun z4 Iz4 Jz4 H locs hz4 hIz4 hP hS => ?_)
  obtain ⟨hIz4, frc4, kc4_0_11, zr4, dnc4, djc4⟩ := hIz4
  obtain rfl : J = Jz4 := djc4.symm
  have dn_Iz4 : (∀ b, K b = 0 ∨ K b = 1 ∨ K b = 3 ∨ K b = 6 → Iz4 b = I b) := fun b hc => (dnc4 b (by omega)).trans (dn_I b hc)
  have kp0_11_Iz4 : Iz4 p0 11 = I p0 11 := kc4_0_11.trans kp0_11_I
  have fr_Iz4 : ∀ b, ¬ (K b = 7 ∨ K b = 18) → Iz4 b = I b := fun b q => (frc4 b (fun z => q (by omega))).trans (fr_I b q)
  obtain ⟨bz4, xpz4⟩ := hz4
  refine lv_istore (lv' := [(4, .int z4), (0, .ref p0), (1, .int p1), (2, .int p2), (3, .int p3)]) hx hb dX7_slidesNow_7 hl (by decide) rfl (fun ls hl => ?_)
  refine lv_iload_n hx hb dX7_slidesNow_9 rfl (lv_at hl 3 rfl) ?_
  refine lv_iload_n hx hb dX7_slidesNow_10 rfl (lv_at hl 4 rfl) ?_
  refine ro_i (va_runS (As := [.int p2, .int p3]) (rest := []) ⟨hx, hb, hml, hown, hts⟩ (s_X7_steps l dC dI cs L K G Q hQ x0 m0 tx tm H.size Iz4 J hIz4 p2 ⟨by omega, by omega⟩ p3 ⟨by omega, by omega⟩) (va_cwS 2 hts (gS pq1439 pq1440 pq81 pq1441) rfl rfl rfl (by decide +kernel) ⟨(by rw [hR]; exact (Nat.le_of_ble_eq_true rfl)), (by rw [hR]; exact (Nat.le_of_ble_eq_true rfl))⟩) (sP_S hP hD hK hN) rfl rfl hl.1 rfl (lv_room (Nat.le_of_ble_eq_true rfl)) dX7_slidesNow_11 ⟨(by rw [hR]; exact (Nat.le_of_ble_eq_true rfl)), (by rw [hR]; exact (Nat.le_of_ble_eq_true rfl))⟩) hS hP (fun z11 H locs hz11 hP hS => ?_)
  obtain ⟨bz11, fez11⟩ := hz11
  refine lv_istore (lv' := [(5, .int z11), (4, .int z4), (0, .ref p0), (1, .int p1), (2, .int p2), (3, .int p3)]) hx hb dX7_slidesNow_14 hl (by decide) rfl (fun ls hl => ?_)
  refine lv_aload_n hx hb dX7_slidesNow_16 rfl (lv_at hl 2 rfl) ?_
  refine lv_iload_n hx hb dX7_slidesNow_17 rfl (lv_at hl 3 rfl) ?_
  refine lv_iload hx hb dX7_slidesNow_18 (lv_at hl 1 rfl) ?_
  refine lv_iload_n hx hb dX7_slidesNow_20 rfl (lv_at hl 4 rfl) ?_
  refine lv_iload hx hb dX7_slidesNow_21 (lv_at hl 0 rfl) ?_
  refine ro_i (va_runS (As := [.int z4, .int p2, .int z11]) (rest := [.int p1, .ref p0]) ⟨hx, hb, hml, hown, hts⟩ (s_X7_by l dC dI cs L K G Q hQ x0 m0 tx tm H.size Iz4 J hIz4 z4 p2 z11 ⟨by omega, by omega⟩) (va_cwS 3 hts (gS pq1470 pq1471 pq81 pq1472) rfl rfl rfl (by decide +kernel) ⟨(by rw [hR]; exact (Nat.le_of_ble_eq_true rfl)), (by rw [hR]; exact (Nat.le_of_ble_eq_true rfl))⟩) (sP_S hP hD hK hN) rfl rfl hl.1 rfl (lv_room (Nat.le_of_ble_eq_true rfl)) dX7_slidesNow_23 ⟨(by rw [hR]; exact (Nat.le_of_ble_eq_true rfl)), (by rw [hR]; exact (Nat.le_of_ble_eq_true rfl))⟩) hS hP (fun z23 H locs hz23 hP hS => ?_)
  obtain ⟨bz23, fez23⟩ := hz23
  refine lv_iload hx hb dX7_slidesNow_26 (lv_at hl 1 rfl) ?_
  refine lv_iload_n hx hb dX7_slidesNow_28 rfl (lv_at hl 5 rfl) ?_
  refine lv_iload hx hb dX7_slidesNow_29 (lv_at hl 0 rfl) ?_
  refine ro_i (va_runS (As := [.int z4, .int p3, .int z11]) (rest := [.int z23, .int p1, .ref p0]) ⟨hx, hb, hml, hown, hts⟩ (s_X7_by l dC dI cs L K G Q hQ x0 m0 tx tm H.size Iz4 J hIz4 z4 p3 z11 ⟨by omega, by omega⟩) (va_cwS 3 hts (gS pq1470 pq1471 pq81 pq1472) rfl rfl rfl (by decide +kernel) ⟨(by rw [hR]; exact (Nat.le_of_ble_eq_true rfl)), (by rw [hR]; exact (Nat.le_of_ble_eq_true rfl))⟩) (sP_S hP hD hK hN) rfl rfl hl.1 rfl (lv_room (Nat.le_of_ble_eq_true rfl)) dX7_slidesNow_31 ⟨(by rw [hR]; exact (Nat.le_of_ble_eq_true rfl)), (by rw [hR]; exact (Nat.le_of_ble_eq_true rfl))⟩) hS hP (fun z31 H locs hz31 hP hS => ?_)
  obtain ⟨bz31, fez31⟩ := hz31
  refine sw_v (Z := (fun I1 J1 => Iv L K x0 m0 tx tm I1 ∧ (∀ b, ¬ (K b = 18) → I1 b = Iz4 b) ∧ (I1 ((Q p0 0).getD 0) = gU (Iz4 ((Q p0 0).getD 0)) p1.toInt.toNat z23 z31) ∧ (∀ b, K b = 0 ∨ K b = 1 ∨ K b = 3 ∨ K b = 6 → I1 b = Iz4 b) ∧ (∀ σ : Sx, cmA Q Iz4 J p0 σ → cmA Q I1 J1 p0 (gC σ.1 p1.toInt.toNat z23 z31, σ.2)) ∧ J1 = J)) (va_runV (As := [.int p1, .int z23, .int z31]) (rest := []) ⟨hx, hb, hml, hown, hts⟩ (s_X7_goes l dC dI cs L K G Q hQ x0 m0 tx tm H.size Iz4 J hIz4 p0 hLp0 hKp0 p1 ⟨by omega, by omega⟩ z23 z31 (by have e1 := fez23; have e2 := fez31; rw [fez11] at e1 e2; rw [e1, e2, frc4 _ (by have := (nw_of hQ hLp0 hKp0).2; omega)]; exact slR_gB zr4 (by rw [← fez11]; omega) (nwB (Iv_at hI (nw_of hQ hLp0 hKp0).1 (nw_of hQ hLp0 hKp0).2)) hBB.1)) (cwV 3 hts (gV pq1474 pq1476 pq48 pq81 pq1477) rfl rfl rfl (by decide +kernel) ⟨(by rw [hR]; exact (Nat.le_of_ble_eq_true rfl)), (by rw [hR]; exact (Nat.le_of_ble_eq_true rfl))⟩) (sP_V hP hD hK hN hLp0 hKp0 rfl rfl) rfl rfl hl.1 rfl (lv_room (Nat.le_of_ble_eq_true rfl)) dX7_slidesNow_34 ⟨(by rw [hR]; exact (Nat.le_of_ble_eq_true rfl)), (by rw [hR]; exact (Nat.le_of_ble_eq_true rfl))⟩) hS hAL hA (fun Iz34 Jz34 H locs hz34 hIz34 hP hS => ?_)
  obtain ⟨hIz34, frc34, zp34, dnc34, jz34, djc34⟩ := hIz34
  obtain rfl : J = Jz34 := djc34.symm
  have dn_Iz34 : (∀ b, K b = 0 ∨ K b = 1 ∨ K b = 3 ∨ K b = 6 → Iz34 b = I b) := fun b hc => (dnc34 b (by omega)).trans (dn_Iz4 b hc)
  have kp0_11_Iz34 : Iz34 p0 11 = I p0 11 := (congrFun (frc34 p0 (by omega)) 11).trans kp0_11_Iz4
  have fr_Iz34 : ∀ b, ¬ (K b = 7 ∨ K b = 18) → Iz34 b = I b := fun b q => (frc34 b (fun z => q (by omega))).trans (fr_Iz4 b q)
  refine lv_iload hx hb dX7_slidesNow_37 (lv_at hl 1 rfl) ?_
  subst hR; subst hQz
  exact W.iret (v := z4) hx hb hr (fun t ht hW => ⟨⟨z4, (), rfl, ⟨⟨by omega, by omega⟩, xpz4⟩, ⟨Iz34, J, ⟨hIz34, fr_Iz34, kp0_11_Iz34, dn_Iz34, (fun σ ok A l ha => by have r := xpz4 σ.1 ok (cmA_rI A) l ha; have A4 := cmA_fr (I1 := Iz4) (J1 := J) hQ hLp0 hKp0 (fun b hb => frc4 b (by omega)) (fun _ _ => rfl) kc4_0_11 A; have s11 : z11.toInt = stI p2.toInt p3.toInt := (by rw [show z11 = stF p2 p3 from fez11]; exact stF_i ⟨by omega, by omega⟩ ⟨by omega, by omega⟩); have x23 : slX σ.1 p1.toInt.toNat p2.toInt p3.toInt = z23 := (by unfold slX; rw [← r, ← s11, ← byF_i (k := z4) (d := p2) (n := z11) ⟨by omega, by omega⟩ ⟨by omega, by omega⟩ ⟨by omega, by omega⟩, Int32.ofInt_toInt]; exact fez23.symm); have x31 : slY σ.1 p1.toInt.toNat p2.toInt p3.toInt = z31 := (by unfold slY; rw [← r, ← s11, ← byF_i (k := z4) (d := p3) (n := z11) ⟨by omega, by omega⟩ ⟨by omega, by omega⟩ ⟨by omega, by omega⟩, Int32.ofInt_toInt]; exact fez31.symm); have B := jz34 σ A4; unfold slC; rw [x23, x31]; exact B), dj_J⟩, by rw [ht]; exact hP⟩⟩, hS.F ht⟩) hS.2.2 dX7_slidesNow_39
