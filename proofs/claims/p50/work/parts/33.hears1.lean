def yX7_puts : MethodName := ⟨RX7, "puts", "(I)V"⟩
def yX7_sign : MethodName := ⟨RX7, "sign", "()I"⟩
def yX7_isRight : MethodName := ⟨RX7, "isRight", "()Z"⟩
abbrev cX7_puts : ByteArray := prog_9_method_8_code
abbrev cX7_sign : ByteArray := prog_9_method_10_code
abbrev cX7_isRight : ByteArray := prog_9_method_12_code
abbrev cX7_end : ByteArray := prog_9_method_9_code
abbrev cX7_fails : ByteArray := prog_9_method_13_code
abbrev cX7_feed : ByteArray := prog_9_method_7_code
abbrev cX7_next : ByteArray := prog_9_method_11_code
def yX7_end : MethodName := ⟨RX7, "end", "(I)I"⟩
def yX7_fails : MethodName := ⟨RX7, "fails", "(II)V"⟩
def yX7_feed : MethodName := ⟨RX7, "feed", "(IIIII)I"⟩
def yX7_next : MethodName := ⟨RX7, "next", "()I"⟩
theorem dX7_end_0 : decode cX7_end 0 = .ok (.iload_n 1, 1) := by decide +kernel
theorem dX7_end_1 : decode cX7_end 1 = .ok (.ifCond .lt 11, 3) := by decide +kernel
theorem dX7_end_4 : decode cX7_end 4 = .ok (.iload_n 1, 1) := by decide +kernel
theorem dX7_end_5 : decode cX7_end 5 = .ok (.aload_n 0, 1) := by decide +kernel
theorem dX7_end_6 : decode cX7_end 6 = .ok (.getfield 67, 3) := by decide +kernel
theorem dX7_end_9 : decode cX7_end 9 = .ok (.if_icmp .le 5, 3) := by decide +kernel
theorem dX7_end_12 : decode cX7_end 12 = .ok (.iconst (-1), 1) := by decide +kernel
theorem dX7_end_13 : decode cX7_end 13 = .ok (.ireturn, 1) := by decide +kernel
theorem dX7_end_14 : decode cX7_end 14 = .ok (.aload_n 0, 1) := by decide +kernel
theorem dX7_end_15 : decode cX7_end 15 = .ok (.iload_n 1, 1) := by decide +kernel
theorem dX7_end_16 : decode cX7_end 16 = .ok (.putfield 67, 3) := by decide +kernel
theorem dX7_end_19 : decode cX7_end 19 = .ok (.iload_n 1, 1) := by decide +kernel
theorem dX7_end_20 : decode cX7_end 20 = .ok (.ireturn, 1) := by decide +kernel
theorem dX7_fails_0 : decode cX7_fails 0 = .ok (.aload_n 0, 1) := by decide +kernel
theorem dX7_fails_1 : decode cX7_fails 1 = .ok (.invokevirtual 85, 3) := by decide +kernel
theorem dX7_fails_4 : decode cX7_fails 4 = .ok (.ifCond .eq 13, 3) := by decide +kernel
theorem dX7_fails_7 : decode cX7_fails 7 = .ok (.aload_n 0, 1) := by decide +kernel
theorem dX7_fails_8 : decode cX7_fails 8 = .ok (.bipush 8, 2) := by decide +kernel
theorem dX7_fails_10 : decode cX7_fails 10 = .ok (.iload_n 2, 1) := by decide +kernel
theorem dX7_fails_11 : decode cX7_fails 11 = .ok (.imul, 1) := by decide +kernel
theorem dX7_fails_12 : decode cX7_fails 12 = .ok (.iload_n 1, 1) := by decide +kernel
theorem dX7_fails_13 : decode cX7_fails 13 = .ok (.iadd, 1) := by decide +kernel
theorem dX7_fails_14 : decode cX7_fails 14 = .ok (.putfield 82, 3) := by decide +kernel
theorem dX7_fails_17 : decode cX7_fails 17 = .ok (.return_, 1) := by decide +kernel
theorem dX7_feed_0 : decode cX7_feed 0 = .ok (.aload_n 0, 1) := by decide +kernel
theorem dX7_feed_1 : decode cX7_feed 1 = .ok (.getfield 67, 3) := by decide +kernel
theorem dX7_feed_4 : decode cX7_feed 4 = .ok (.bipush 20, 2) := by decide +kernel
theorem dX7_feed_6 : decode cX7_feed 6 = .ok (.iadd, 1) := by decide +kernel
theorem dX7_feed_7 : decode cX7_feed 7 = .ok (.sipush 400, 3) := by decide +kernel
theorem dX7_feed_10 : decode cX7_feed 10 = .ok (.if_icmp .le 5, 3) := by decide +kernel
theorem dX7_feed_13 : decode cX7_feed 13 = .ok (.iconst (-1), 1) := by decide +kernel
theorem dX7_feed_14 : decode cX7_feed 14 = .ok (.ireturn, 1) := by decide +kernel
theorem dX7_feed_15 : decode cX7_feed 15 = .ok (.aload_n 0, 1) := by decide +kernel
theorem dX7_feed_16 : decode cX7_feed 16 = .ok (.iload_n 1, 1) := by decide +kernel
theorem dX7_feed_17 : decode cX7_feed 17 = .ok (.invokevirtual 71, 3) := by decide +kernel
theorem dX7_feed_20 : decode cX7_feed 20 = .ok (.aload_n 0, 1) := by decide +kernel
theorem dX7_feed_21 : decode cX7_feed 21 = .ok (.iload_n 2, 1) := by decide +kernel
theorem dX7_feed_22 : decode cX7_feed 22 = .ok (.invokevirtual 71, 3) := by decide +kernel
theorem dX7_feed_25 : decode cX7_feed 25 = .ok (.aload_n 0, 1) := by decide +kernel
theorem dX7_feed_26 : decode cX7_feed 26 = .ok (.iload_n 3, 1) := by decide +kernel
theorem dX7_feed_27 : decode cX7_feed 27 = .ok (.invokevirtual 71, 3) := by decide +kernel
theorem dX7_feed_30 : decode cX7_feed 30 = .ok (.aload_n 0, 1) := by decide +kernel
theorem dX7_feed_31 : decode cX7_feed 31 = .ok (.iload 4, 2) := by decide +kernel
theorem dX7_feed_33 : decode cX7_feed 33 = .ok (.invokevirtual 71, 3) := by decide +kernel
theorem dX7_feed_36 : decode cX7_feed 36 = .ok (.aload_n 0, 1) := by decide +kernel
theorem dX7_feed_37 : decode cX7_feed 37 = .ok (.iload 5, 2) := by decide +kernel
theorem dX7_feed_39 : decode cX7_feed 39 = .ok (.invokevirtual 71, 3) := by decide +kernel
theorem dX7_feed_42 : decode cX7_feed 42 = .ok (.aload_n 0, 1) := by decide +kernel
theorem dX7_feed_43 : decode cX7_feed 43 = .ok (.getfield 67, 3) := by decide +kernel
theorem dX7_feed_46 : decode cX7_feed 46 = .ok (.ireturn, 1) := by decide +kernel
theorem dX7_isRight_0 : decode cX7_isRight 0 = .ok (.aload_n 0, 1) := by decide +kernel
theorem dX7_isRight_1 : decode cX7_isRight 1 = .ok (.getfield 82, 3) := by decide +kernel
theorem dX7_isRight_4 : decode cX7_isRight 4 = .ok (.iconst (-1), 1) := by decide +kernel
theorem dX7_isRight_5 : decode cX7_isRight 5 = .ok (.if_icmp .ne 7, 3) := by decide +kernel
theorem dX7_isRight_8 : decode cX7_isRight 8 = .ok (.iconst 1, 1) := by decide +kernel
theorem dX7_isRight_9 : decode cX7_isRight 9 = .ok (.goto 4, 3) := by decide +kernel
theorem dX7_isRight_12 : decode cX7_isRight 12 = .ok (.iconst 0, 1) := by decide +kernel
theorem dX7_isRight_13 : decode cX7_isRight 13 = .ok (.ireturn, 1) := by decide +kernel
theorem dX7_next_0 : decode cX7_next 0 = .ok (.aload_n 0, 1) := by decide +kernel
theorem dX7_next_1 : decode cX7_next 1 = .ok (.invokevirtual 78, 3) := by decide +kernel
theorem dX7_next_4 : decode cX7_next 4 = .ok (.bipush 32, 2) := by decide +kernel
theorem dX7_next_6 : decode cX7_next 6 = .ok (.if_icmp .ne 16, 3) := by decide +kernel
theorem dX7_next_9 : decode cX7_next 9 = .ok (.aload_n 0, 1) := by decide +kernel
theorem dX7_next_10 : decode cX7_next 10 = .ok (.dup, 1) := by decide +kernel
theorem dX7_next_11 : decode cX7_next 11 = .ok (.getfield 75, 3) := by decide +kernel
theorem dX7_next_14 : decode cX7_next 14 = .ok (.iconst 1, 1) := by decide +kernel
theorem dX7_next_15 : decode cX7_next 15 = .ok (.iadd, 1) := by decide +kernel
theorem dX7_next_16 : decode cX7_next 16 = .ok (.putfield 75, 3) := by decide +kernel
theorem dX7_next_19 : decode cX7_next 19 = .ok (.goto (-19), 3) := by decide +kernel
theorem dX7_next_22 : decode cX7_next 22 = .ok (.aload_n 0, 1) := by decide +kernel
theorem dX7_next_23 : decode cX7_next 23 = .ok (.invokevirtual 78, 3) := by decide +kernel
theorem dX7_next_26 : decode cX7_next 26 = .ok (.ireturn, 1) := by decide +kernel
theorem dX7_puts_0 : decode cX7_puts 0 = .ok (.bipush 24, 2) := by decide +kernel
theorem dX7_puts_2 : decode cX7_puts 2 = .ok (.istore_n 2, 1) := by decide +kernel
theorem dX7_puts_3 : decode cX7_puts 3 = .ok (.iload_n 2, 1) := by decide +kernel
theorem dX7_puts_4 : decode cX7_puts 4 = .ok (.ifCond .lt 32, 3) := by decide +kernel
theorem dX7_puts_7 : decode cX7_puts 7 = .ok (.aload_n 0, 1) := by decide +kernel
theorem dX7_puts_8 : decode cX7_puts 8 = .ok (.getfield 45, 3) := by decide +kernel
theorem dX7_puts_11 : decode cX7_puts 11 = .ok (.aload_n 0, 1) := by decide +kernel
theorem dX7_puts_12 : decode cX7_puts 12 = .ok (.getfield 67, 3) := by decide +kernel
theorem dX7_puts_15 : decode cX7_puts 15 = .ok (.iload_n 1, 1) := by decide +kernel
theorem dX7_puts_16 : decode cX7_puts 16 = .ok (.iload_n 2, 1) := by decide +kernel
theorem dX7_puts_17 : decode cX7_puts 17 = .ok (.ishr, 1) := by decide +kernel
theorem dX7_puts_18 : decode cX7_puts 18 = .ok (.i2b, 1) := by decide +kernel
theorem dX7_puts_19 : decode cX7_puts 19 = .ok (.bastore, 1) := by decide +kernel
theorem dX7_puts_20 : decode cX7_puts 20 = .ok (.aload_n 0, 1) := by decide +kernel
theorem dX7_puts_21 : decode cX7_puts 21 = .ok (.dup, 1) := by decide +kernel
theorem dX7_puts_22 : decode cX7_puts 22 = .ok (.getfield 67, 3) := by decide +kernel
theorem dX7_puts_25 : decode cX7_puts 25 = .ok (.iconst 1, 1) := by decide +kernel
theorem dX7_puts_26 : decode cX7_puts 26 = .ok (.iadd, 1) := by decide +kernel
theorem dX7_puts_27 : decode cX7_puts 27 = .ok (.putfield 67, 3) := by decide +kernel
theorem dX7_puts_30 : decode cX7_puts 30 = .ok (.iinc 2 (-8), 3) := by decide +kernel
theorem dX7_puts_33 : decode cX7_puts 33 = .ok (.goto (-30), 3) := by decide +kernel
theorem dX7_puts_36 : decode cX7_puts 36 = .ok (.return_, 1) := by decide +kernel
theorem dX7_sign_0 : decode cX7_sign 0 = .ok (.aload_n 0, 1) := by decide +kernel
theorem dX7_sign_1 : decode cX7_sign 1 = .ok (.getfield 75, 3) := by decide +kernel
theorem dX7_sign_4 : decode cX7_sign 4 = .ok (.aload_n 0, 1) := by decide +kernel
theorem dX7_sign_5 : decode cX7_sign 5 = .ok (.getfield 67, 3) := by decide +kernel
theorem dX7_sign_8 : decode cX7_sign 8 = .ok (.if_icmp .ge 19, 3) := by decide +kernel
theorem dX7_sign_11 : decode cX7_sign 11 = .ok (.aload_n 0, 1) := by decide +kernel
theorem dX7_sign_12 : decode cX7_sign 12 = .ok (.getfield 45, 3) := by decide +kernel
theorem dX7_sign_15 : decode cX7_sign 15 = .ok (.aload_n 0, 1) := by decide +kernel
theorem dX7_sign_16 : decode cX7_sign 16 = .ok (.getfield 75, 3) := by decide +kernel
theorem dX7_sign_19 : decode cX7_sign 19 = .ok (.baload, 1) := by decide +kernel
theorem dX7_sign_20 : decode cX7_sign 20 = .ok (.sipush 255, 3) := by decide +kernel
theorem dX7_sign_23 : decode cX7_sign 23 = .ok (.iand, 1) := by decide +kernel
theorem dX7_sign_24 : decode cX7_sign 24 = .ok (.goto 4, 3) := by decide +kernel
theorem dX7_sign_27 : decode cX7_sign 27 = .ok (.iconst (-1), 1) := by decide +kernel
theorem dX7_sign_28 : decode cX7_sign 28 = .ok (.ireturn, 1) := by decide +kernel
set_option maxRecDepth 100000 in
theorem pq9 : Cond.selects RX7 yX7_puts yX7_puts ∈ pw := pw_mem (i := 9) (by decide +kernel) rfl
set_option maxRecDepth 100000 in
theorem pq11 : Cond.selects RX7 yX7_sign yX7_sign ∈ pw := pw_mem (i := 11) (by decide +kernel) rfl
set_option maxRecDepth 100000 in
theorem pq12 : Cond.selects RX7 yX7_isRight yX7_isRight ∈ pw := pw_mem (i := 12) (by decide +kernel) rfl
set_option maxRecDepth 100000 in
theorem pq1127 : Cond.fieldLink RX7 45 "MaskTouchModel" "tape" "[B" ∈ pw := pw_mem (i := 1127) (by decide +kernel) rfl
set_option maxRecDepth 100000 in
theorem pq1129 : Cond.fieldLink RX7 75 "MaskTouchModel" "at" "I" ∈ pw := pw_mem (i := 1129) (by decide +kernel) rfl
set_option maxRecDepth 100000 in
theorem pq1130 : Cond.fieldLink RX7 82 "MaskTouchModel" "fault" "I" ∈ pw := pw_mem (i := 1130) (by decide +kernel) rfl
set_option maxRecDepth 100000 in
theorem pq1199 : Cond.methodLink RX7 71 yX7_puts ∈ pw := pw_mem (i := 1199) (by decide +kernel) rfl
set_option maxRecDepth 100000 in
theorem pq1201 : Cond.instanceMethod yX7_puts ∈ pw := pw_mem (i := 1201) (by decide +kernel) rfl
set_option maxRecDepth 100000 in
theorem pq1202 : Cond.code yX7_puts cX7_puts 3 none ∈ pw := pw_mem (i := 1202) (by rfl) rfl
set_option maxRecDepth 100000 in
theorem pq1215 : Cond.methodLink RX7 78 yX7_sign ∈ pw := pw_mem (i := 1215) (by decide +kernel) rfl
set_option maxRecDepth 100000 in
theorem pq1217 : Cond.instanceMethod yX7_sign ∈ pw := pw_mem (i := 1217) (by decide +kernel) rfl
set_option maxRecDepth 100000 in
theorem pq1218 : Cond.code yX7_sign cX7_sign 1 (some .int) ∈ pw := pw_mem (i := 1218) (by rfl) rfl
set_option maxRecDepth 100000 in
theorem pq1219 : Cond.methodLink RX7 85 yX7_isRight ∈ pw := pw_mem (i := 1219) (by decide +kernel) rfl
set_option maxRecDepth 100000 in
theorem pq1221 : Cond.instanceMethod yX7_isRight ∈ pw := pw_mem (i := 1221) (by decide +kernel) rfl
set_option maxRecDepth 100000 in
theorem pq1222 : Cond.code yX7_isRight cX7_isRight 1 (some .boolean) ∈ pw := pw_mem (i := 1222) (by rfl) rfl
/-- all that is heard may be laid: numbers in their ranges -/
def hrd (Q : Nat → Nat → Option Nat) (I : Nat → Nat → Int32) (p0 : Nat) : Prop := ∀ yh, Q p0 1 = some yh → ∀ i, i < 99 → rng 999 i (I yh i).toInt
def hOK (Q : Nat → Nat → Option Nat) (I : Nat → Nat → Int32) (p0 : Nat) : Prop := (I p0 15).toInt = -1 → hrd Q I p0
def hJ (Q : Nat → Nat → Option Nat) (I0 I : Nat → Nat → Int32) (p0 : Nat) : Prop := (I0 p0 14).toInt ≤ (I p0 14).toInt ∧ hOK Q I p0
def hHK (Q : Nat → Nat → Option Nat) (I0 I : Nat → Nat → Int32) (p0 : Nat) : Prop := (I0 p0 14).toInt ≤ (I p0 14).toInt ∧ hOK Q I p0 ∧ (∀ yh, Q p0 1 = some yh → I yh 0 = I0 yh 0 ∧ I yh 1 = I0 yh 1) ∧ ((I p0 15).toInt = -1 → (I0 p0 15).toInt = -1)
theorem hK_refl {Q : Nat → Nat → Option Nat} {I : Nat → Nat → Int32} {p0 : Nat} (h : hOK Q I p0) : hHK Q I I p0 := ⟨Int.le_refl _, h, fun _ _ => ⟨rfl, rfl⟩, fun h => h⟩
theorem hK_tr {Q : Nat → Nat → Option Nat} {I0 I I1 : Nat → Nat → Int32} {p0 : Nat} (h : hHK Q I0 I p0) (h2 : hHK Q I I1 p0) : hHK Q I0 I1 p0 := ⟨Int.le_trans h.1 h2.1, h2.2.1, fun yh e => ⟨(h2.2.2.1 yh e).1.trans (h.2.2.1 yh e).1, (h2.2.2.1 yh e).2.trans (h.2.2.1 yh e).2⟩, fun q => h.2.2.2 (h2.2.2.2 q)⟩
theorem hh_ne {L : List Nat} {K G : Nat → Nat} {Q : Nat → Nat → Option Nat} {p0 yh : Nat} (hQ : Sv L K G Q) (hL : p0 ∈ L) (hK : K p0 = 7) (e : Q p0 1 = some yh) : ¬ yh = p0 ∧ yh ∈ L ∧ K yh = 28 := by
  obtain ⟨y, f1, l1, k1⟩ := oQ_7_1 (Sv_at hQ hL hK)
  obtain rfl : yh = y := Option.some.inj (e.symm.trans f1)
  exact ⟨ne_k k1 hK (by decide), l1, k1⟩
theorem hK_call {L : List Nat} {K G : Nat → Nat} {Q : Nat → Nat → Option Nat} {I0 I I1 : Nat → Nat → Int32} {p0 : Nat} (hQ : Sv L K G Q) (hL : p0 ∈ L) (hK7 : K p0 = 7) (fr : ∀ b, ¬ (b = p0) → I1 b = I b) (ha : (I p0 14).toInt ≤ (I1 p0 14).toInt) (hf : (I1 p0 15).toInt = -1 → (I p0 15).toInt = -1) (h : hHK Q I0 I p0) : hHK Q I0 I1 p0 := by
  refine ⟨Int.le_trans h.1 ha, fun q yh e i hi => ?_, fun yh e => ?_, fun q => h.2.2.2 (hf q)⟩
  · rw [fr yh (hh_ne hQ hL hK7 e).1]; exact h.2.1 (hf q) yh e i hi
  · rw [fr yh (hh_ne hQ hL hK7 e).1]; exact h.2.2.1 yh e
theorem hK_at {L : List Nat} {K G : Nat → Nat} {Q : Nat → Nat → Option Nat} {I0 I I1 : Nat → Nat → Int32} {p0 : Nat} {v : Int32} (hQ : Sv L K G Q) (hL : p0 ∈ L) (hK7 : K p0 = 7) (e1 : I1 = va_up I p0 (upd (I p0) 14 v)) (hv : (I p0 14).toInt ≤ v.toInt) (h : hHK Q I0 I p0) : hHK Q I0 I1 p0 := by
  refine hK_call hQ hL hK7 (fun b q => by rw [e1, va_up_ne _ _ q]) ?_ (fun q => ?_) h
  · rw [e1, rz_at]; exact hv
  · rw [e1, rz_fr _ _ _ _ (by decide)] at q; exact q
theorem hrd_put {Q : Nat → Nat → Option Nat} {I I1 : Nat → Nat → Int32} {p0 y j : Nat} {v : Int32} (e : Q p0 1 = some y) (e1 : I1 = va_up I y (upd (I y) j v)) (hv : rng 999 j v.toInt) (h : hrd Q I p0) : hrd Q I1 p0 := by
  intro yh e2 i hi
  obtain rfl : y = yh := Option.some.inj (e.symm.trans e2)
  rw [e1, va_up_self]
  unfold upd
  split
  · next q => rw [q]; exact hv
  · exact h y e i hi
theorem hK_put {L : List Nat} {K G : Nat → Nat} {Q : Nat → Nat → Option Nat} {I0 I I1 : Nat → Nat → Int32} {p0 y : Nat} {j v : Int32} (hQ : Sv L K G Q) (hL : p0 ∈ L) (hK7 : K p0 = 7) (e : Q p0 1 = some y) (e1 : I1 = va_up I y (upd (I y) j.toNatClampNeg v)) (hv : 3 ≤ j.toInt ∧ ((I p0 15).toInt = -1 → rng 999 j.toInt.toNat v.toInt)) (h : hHK Q I0 I p0) : hHK Q I0 I1 p0 := by
  have np := (hh_ne hQ hL hK7 e).1
  have f : I1 p0 = I p0 := by rw [e1, va_up_ne _ _ (fun z => np z.symm)]
  refine ⟨by rw [f]; exact h.1, fun q => ?_, fun yh e2 => ?_, fun q => h.2.2.2 (by rw [f] at q; exact q)⟩
  · rw [f] at q
    exact hrd_put e e1 (hv.2 q) (h.2.1 q)
  · obtain rfl : y = yh := Option.some.inj (e.symm.trans e2)
    have h3 := h.2.2.1 y e
    have n : 3 ≤ j.toNatClampNeg := by show 3 ≤ j.toInt.toNat; omega
    rw [e1, va_up_self]
    refine ⟨?_, ?_⟩
    · rw [← h3.1]; unfold upd; rw [if_neg (by omega)]
    · rw [← h3.2]; unfold upd; rw [if_neg (by omega)]
theorem hJ_put {L : List Nat} {K G : Nat → Nat} {Q : Nat → Nat → Option Nat} {I0 I I1 : Nat → Nat → Int32} {p0 y : Nat} {j v : Int32} (hQ : Sv L K G Q) (hL : p0 ∈ L) (hK7 : K p0 = 7) (e : Q p0 1 = some y) (e1 : I1 = va_up I y (upd (I y) j.toNatClampNeg v)) (hv : (I p0 15).toInt = -1 → rng 999 j.toInt.toNat v.toInt) (h : hHK Q I0 I p0) : hJ Q I0 I1 p0 := by
  have np := (hh_ne hQ hL hK7 e).1
  have f : I1 p0 = I p0 := by rw [e1, va_up_ne _ _ (fun z => np z.symm)]
  refine ⟨by rw [f]; exact h.1, fun q => ?_⟩
  rw [f] at q
  exact hrd_put e e1 (hv q) (h.2.1 q)
theorem z_upd {f : Nat → Int32} {v : Int32} {i : Nat} (h : i < v.toInt.toNat → f i = 0) (hi : i < (v.toInt + 1).toNat) : upd f v.toNatClampNeg 0 i = 0 := by
  unfold upd
  split
  · rfl
  · next q =>
    have e : ¬ i = v.toInt.toNat := q
    exact h (by omega)
theorem hJ_tr {Q : Nat → Nat → Option Nat} {I0 I I1 : Nat → Nat → Int32} {p0 : Nat} (h : hHK Q I0 I p0) (h2 : hJ Q I I1 p0) : hJ Q I0 I1 p0 := ⟨Int.le_trans h.1 h2.1, h2.2⟩
theorem hO_fr {L : List Nat} {K G : Nat → Nat} {Q : Nat → Nat → Option Nat} {I I1 : Nat → Nat → Int32} {p0 : Nat} (hQ : Sv L K G Q) (hL : p0 ∈ L) (hK7 : K p0 = 7) (fr : ∀ b, ¬ (b = p0) → I1 b = I b) (hf : (I1 p0 15).toInt = -1 → (I p0 15).toInt = -1) (h : hOK Q I p0) : hOK Q I1 p0 := by
  intro q yh e i hi
  rw [fr yh (hh_ne hQ hL hK7 e).1]; exact h (hf q) yh e i hi
theorem hJ_of {Q : Nat → Nat → Option Nat} {I0 I : Nat → Nat → Int32} {p0 : Nat} (h : hHK Q I0 I p0) : hJ Q I0 I p0 := ⟨h.1, h.2.1⟩

set_option maxHeartbeats 4000000 in
set_option maxRecDepth 100000 in
theorem s_X7_puts (l : Launch) (dC : Nat → ClassId) (dI : Nat → Nat → Nat) (cs : Nat → ClassId) (L : List Nat) (K G : Nat → Nat) (Q : Nat → Nat → Option Nat) (hQ : Sv L K G Q) (x0 m0 : Nat) (tx : GT) (tm : GT × Int) (sz : Nat) (I : Nat → Nat → Int32) (J : Nat → Nat → Int64) (hI : Iv L K x0 m0 tx ((I m0 13, tm.1.2.1, I tm.1.2.1), tm.2) I) (p0 : Nat) (hLp0 : p0 ∈ L) (hKp0 : K p0 = 7) (p1 : Int32) (ht : (I p0 13).toInt + 4 ≤ 400) : Met l yX7_puts (.code yX7_puts cX7_puts 3 none :: pw) ({ frames := 0, cells := 0, slots := 0, locals := 0 }) (sP (dC, dI) cs [.ref p0, .int p1] sz L K I J Q) (va_Qv (fun (_ : Unit) => True) (fun _ t => sB (dC, dI) cs L K Q (fun I1 J1 => Iv L K x0 m0 tx ((I1 m0 13, tm.1.2.1, I1 tm.1.2.1), tm.2) I1 ∧ ((I1 p0 13).toInt = (I p0 13).toInt + 4) ∧ I1 tm.1.2.1 = w4 (I tm.1.2.1) (I p0 13).toInt.toNat p1 4 ∧ (∀ b, K b = 0 ∨ K b = 1 ∨ K b = 3 ∨ K b = 6 → I1 b = I b) ∧ (∀ σ : Sx, cmA Q I J p0 σ → cmA Q I1 J1 p0 σ) ∧ J1 = J) t) (fun q => q ∈ L ∨ sz ≤ q)) 0 0 (fun q => q ∈ L ∨ sz ≤ q) := by
  refine Met.ofW (cc := cX7_puts) (maxL := 3) (ret := none) (by decide +kernel) rfl ?_
  intro p e s m args below meth c s₁ B hml hv
  obtain ⟨rfl, hsz, hP, hK, hD0, hN⟩ := hv
  have hx := B.exec
  have hb := B.bytes
  have hr := B.returns
  have hts := fun w (h : w ∈ pw) => atoms_spec (ws := Cond.code yX7_puts cX7_puts 3 none :: pw) B.pre w (List.mem_cons_of_mem _ h)
  have hown : s.vm.findClass RX7 = some m.cls := findClass_of_methodNamed B.named
  have hlocks := B.notSynchronized
  subst hsz
  have hBB : 999 ≤ tm.2 ∧ tm.2 ≤ 6000000 := hI.2.2.2.2.1
  have dn_I : (∀ b, K b = 0 ∨ K b = 1 ∨ K b = 3 ∨ K b = 6 → I b = I b) := fun _ _ => rfl
  have dj_J : J = J := rfl
  obtain ⟨A, hAe⟩ : ∃ A : Nat → Prop, A = (fun q => q ∈ L ∨ s.heap.size ≤ q) := ⟨_, rfl⟩
  rw [← hAe]
  have hAL : ∀ q, q ∈ L → A q := fun q h => by rw [hAe]; exact Or.inl h
  have hA : ∀ q, s.heap.size ≤ q → A q := fun q h => by rw [hAe]; exact Or.inr h
  have hD : ∀ F, va_D A (va_pl L F) := fun F => (hD0 F).weaken (fun k q hk _ => hAL _ (pl_mem hk))
  obtain ⟨H, hHe⟩ : ∃ H : Heap, H = s.heap := ⟨_, rfl⟩
  have hS : va_S A s.heap H [] := by rw [hHe]; exact va_S.rf
  rw [← hHe] at hP
  have hl := lv_entry ([.ref p0, .int p1]) (n := 3) (Nat.le_of_ble_eq_true rfl)
  rw [lg_entry_eq]
  generalize (lg_sl ([.ref p0, .int p1]) ++ List.replicate (3 - (lg_sl ([.ref p0, .int p1])).length) Slot.unset).toArray = ls at hl ⊢
  have hl : lv_has ls 3 [(0, .ref p0), (1, .int p1)] := hl
  rw [← hHe]
  refine namedW (fun R Qz hR hQz => ?_)
  have b1i := oI_7_13 (Iv_at hI hLp0 hKp0)
  refine lv_bipush (v := 24) hx hb dX7_puts_0 (by decide +kernel) ?_
  refine lv_istore_n (lv' := [(2, .int 24), (0, .ref p0), (1, .int p1)]) hx hb dX7_puts_2 rfl hl (by decide) rfl (fun ls hl => ?_)
  have key3 := blocks (fun n => ∀ (v3_2 : Int32) (I3 : Nat → Nat → Int32) (H : Heap) (lo : List Loc) (ls : Array Slot), (v3_2.toInt - (-9)).toNat = n → ((-8) ≤ v3_2.toInt ∧ v3_2.toInt ≤ 24) → Iv L K x0 m0 tx ((I3 m0 13, tm.1.2.1, I3 tm.1.2.1), tm.2) I3 → (∀ b, K b = 0 ∨ K b = 1 ∨ K b = 3 ∨ K b = 6 → I3 b = I b) → 8 * ((I3 p0 13).toInt - (I p0 13).toInt) = 24 - v3_2.toInt → I3 tm.1.2.1 = w4 (I tm.1.2.1) (I p0 13).toInt.toNat p1 ((I3 p0 13).toInt - (I p0 13).toInt).toNat → (∀ σ : Sx, cmA Q I J p0 σ → cmA Q I3 J p0 σ) → va_P (dC, dI) vwCl (Wd cs L K I3 J Q) H → va_S A s.heap H lo → lv_has ls 3 [(0, .ref p0), (1, .int p1), (2, .int v3_2)] → W p l e R s m (([.ref p0, .int p1] : List Value).toArray) below meth c H lo 0 0 Qz (F0 m 3 ls [])) (by
    intro n ih3
    intro v3_2 I3 H lo ls hmu3 bv3_2 hI3 dn_I3 hw hw4 hw5 hP hS hl
    refine lv_iload_n hx hb dX7_puts_3 rfl (lv_at hl 2 rfl) ?_
    refine lv_if_lt (tgt := 36) hx hb dX7_puts_4 (by decide) (fun c4 => ?_) (fun c4 => ?_)
    · have t4 := tq_lt (k := v3_2.toInt) (q := (0)) c4 rfl (by decide +kernel)
      subst hR; subst hQz
      exact W.vret hx hb hr (fun t ht hW => ⟨⟨(), rfl, trivial, ⟨I3, J, ⟨hI3, (by omega), (by rw [hw4, show ((I3 p0 13).toInt - (I p0 13).toInt).toNat = 4 by omega]), dn_I3, hw5, dj_J⟩, by rw [ht]; exact hP⟩⟩, hS.F ht⟩) hS.2.2 dX7_puts_36
    · have t4 := tq_nlt (k := v3_2.toInt) (q := (0)) c4 rfl (by decide +kernel)
      refine lv_aload_n hx hb dX7_puts_7 rfl (lv_at hl 0 rfl) ?_
      obtain ⟨y8, ey8, hLy8, hKy8⟩ := oQ_7_12 (Sv_at hQ hLp0 hKp0)
      refine p_get (v := .ref y8) hx hb hts inX7 hown hK hP hLp0 hKp0 rfl rfl 12 (by decide) (hts _ pq1127) (congrArg (fun q => some (va_rf q)) ey8) dX7_puts_8 ?_
      have ety : y8 = tm.1.2.1 := (hI3.2.2.2.2.2.2 y8 hLy8 hKy8).1
      have hne0 := tpMn hQ hI3 hLp0 hKp0
      have hne : ¬ tm.1.2.1 = p0 := hne0
      refine lv_aload_n hx hb dX7_puts_11 rfl (lv_at hl 0 rfl) ?_
      refine p_get hx hb hts inX7 hown hK hP hLp0 hKp0 rfl rfl 13 (by decide) (hts _ pq1128) rfl dX7_puts_12 ?_
      refine lv_topi (fun z12 ez12 => ?_)
      have cgz12 := congrArg Int32.toInt ez12
      have bz12 := oI_7_13 (Iv_at hI3 hLp0 hKp0)
      rw [← ez12] at bz12
      refine lv_iload_n hx hb dX7_puts_15 rfl (lv_at hl 1 rfl) ?_
      refine lv_iload_n hx hb dX7_puts_16 rfl (lv_at hl 2 rfl) ?_
      refine lv_ishr hx hb dX7_puts_17 ?_
      refine lv_topi (fun z17 ez17 => ?_)
      refine lv_i2b hx hb dX7_puts_18 rfl ?_
      refine lv_topi (fun z18 ez18 => ?_)
      refine p_bast hx hb hK hP hD hS 21 hLy8 hKy8 rfl (fun _ => rfl) rfl (in_of (by omega) (by omega)) dX7_puts_19 (fun H locs hP hS => ?_)
      obtain ⟨Iz19, hP, hIz19, qIz19⟩ : ∃ Iz19, va_P (dC, dI) vwCl (Wd cs L K Iz19 J Q) H ∧ Iv L K x0 m0 tx ((Iz19 m0 13, tm.1.2.1, Iz19 tm.1.2.1), tm.2) Iz19 ∧ Iz19 = va_up I3 y8 (upd (I3 y8) z12.toNatClampNeg (vp_nar .byte z18)) := ⟨_, hP, Iv_putm hI3 hKy8 (show okI _ 31 _ from trivial) (Or.inl (by decide)) trivial (by decide) (fun _ => narB _), rfl⟩
      have dn_Iz19 : (∀ b, K b = 0 ∨ K b = 1 ∨ K b = 3 ∨ K b = 6 → Iz19 b = I b) := fun b hc => (congrFun qIz19 b).trans ((va_up_ne _ _ (fun z => by have q := hKy8; rw [← z] at q; omega)).trans (dn_I3 b hc))
      refine lv_aload_n hx hb dX7_puts_20 rfl (lv_at hl 0 rfl) ?_
      refine lv_dup hx hb dX7_puts_21 rfl ?_
      refine p_get hx hb hts inX7 hown hK hP hLp0 hKp0 rfl rfl 13 (by decide) (hts _ pq1128) rfl dX7_puts_22 ?_
      refine lv_topi (fun z22 ez22 => ?_)
      obtain rfl : z12 = z22 := by rw [ez22, qIz19, va_up_ne _ _ (ne_k hKp0 hKy8 (by decide))]; exact ez12
      have ez12x22 := ez22
      refine lv_iconst (v := 1) hx hb dX7_puts_25 (by decide +kernel) ?_
      refine lv_iadd hx hb dX7_puts_26 ?_
      refine lv_topi (fun z26 ez26 => ?_)
      have bz26 := tq_add (k := z12.toInt) (q := (1)) ez26 rfl (by decide +kernel) (by omega) (by omega)
      refine p_put hx hb hts inX7 tyX7 tyX7_ok nmX7 hown hK hP hD hS hLp0 hKp0 rfl rfl 13 (by decide) (hts _ pq1128) rfl (by decide +kernel) (Nat.le_of_ble_eq_true rfl) (oS_7_13 cs _ _ _ _) dX7_puts_27 (fun H locs hP hS => ?_)
      obtain ⟨Iz27, hP, hIz27, qIz27⟩ : ∃ Iz27, va_P (dC, dI) vwCl (Wd cs L K Iz27 J Q) H ∧ Iv L K x0 m0 tx ((Iz27 m0 13, tm.1.2.1, Iz27 tm.1.2.1), tm.2) Iz27 ∧ Iz27 = va_up Iz19 p0 (upd (Iz19 p0) 13 z26) := ⟨_, hP, Iv_putm hIz19 hKp0 (oP_7_13 (Iv_at hIz19 hLp0 hKp0) ⟨by omega, by omega⟩) (by decide) (by decide), rfl⟩
      have dn_Iz27 : (∀ b, K b = 0 ∨ K b = 1 ∨ K b = 3 ∨ K b = 6 → Iz27 b = I b) := fun b hc => (congrFun qIz27 b).trans ((va_up_ne _ _ (fun z => by have q := hKp0; rw [← z] at q; omega)).trans (dn_Iz19 b hc))
      obtain ⟨z30, ez30⟩ : ∃ y : Int32, y = v3_2 + (-8) := ⟨_, rfl⟩
      refine lv_iinc (v := z30) (lv' := [(2, .int z30), (0, .ref p0), (1, .int p1)]) hx hb dX7_puts_30 hl (k := 2) rfl (by rw [ez30]; rfl) (by decide) rfl (fun ls hl => ?_)
      have bz30 := tq_add (k := v3_2.toInt) (q := (-8)) ez30 rfl (by decide +kernel) (by omega) (by omega)
      refine lv_goto (tgt := 3) hx hb dX7_puts_33 (by decide) ?_
      exact ih3 _ (by omega) z30 Iz27 _ _ _ rfl ⟨by omega, by omega⟩ hIz27 dn_Iz27 (by rw [qIz27, rz_at]; omega) (by rw [show Iz27 tm.1.2.1 = upd (I3 tm.1.2.1) z12.toNatClampNeg (vp_nar .byte z18) by rw [qIz27, va_up_ne _ _ hne, qIz19, ety, va_up_self]]; exact w4_step (s := v3_2) hw4 (by omega) (by rw [ez18, ez17]) (by show z12.toInt.toNat = _; omega) (by rw [qIz27, rz_at]; omega)) (fun σ h => cmA_tp hQ hLp0 hKp0 qIz27 (by decide) (cmA_ta hQ hLp0 hKp0 hKy8 qIz19 (hw5 σ h))) hP hS (lv_sub hl [1, 2, 0] rfl))
  exact key3 _ 24 I _ _ _ rfl ⟨by decide +kernel, by decide +kernel⟩ hI dn_I (by rw [show (24 : Int32).toInt = 24 from by decide +kernel]; omega) (by rw [Int.sub_self]; rfl) (fun _ h => h) hP hS (lv_sub hl [1, 2, 0] rfl)

set_option maxHeartbeats 4000000 in
set_option maxRecDepth 100000 in
theorem s_X7_feed (l : Launch) (dC : Nat → ClassId) (dI : Nat → Nat → Nat) (cs : Nat → ClassId) (L : List Nat) (K G : Nat → Nat) (Q : Nat → Nat → Option Nat) (hQ : Sv L K G Q) (x0 m0 : Nat) (tx : GT) (tm : GT × Int) (sz : Nat) (I : Nat → Nat → Int32) (J : Nat → Nat → Int64) (hI : Iv L K x0 m0 tx ((I m0 13, tm.1.2.1, I tm.1.2.1), tm.2) I) (p0 : Nat) (hLp0 : p0 ∈ L) (hKp0 : K p0 = 7) (p1 : Int32) (p2 : Int32) (p3 : Int32) (p4 : Int32) (p5 : Int32) : Met l yX7_feed (.code yX7_feed cX7_feed 6 (some .int) :: pw) ({ frames := 1, cells := 0, slots := 0, locals := 22 }) (sP (dC, dI) cs [.ref p0, .int p1, .int p2, .int p3, .int p4, .int p5] sz L K I J Q) (va_Qi (fun (r : Int32) (u : Int32) => u = r ∧ True) (fun u t => sB (dC, dI) cs L K Q (fun I1 J1 => Iv L K x0 m0 tx ((I1 m0 13, tm.1.2.1, I1 tm.1.2.1), tm.2) I1 ∧ ((400 < (I p0 13).toInt + 20 → u.toInt = -1 ∧ (I1 p0 13).toInt = (I p0 13).toInt) ∧ ((I p0 13).toInt + 20 ≤ 400 → u.toInt = (I p0 13).toInt + 20 ∧ (I1 p0 13).toInt = (I p0 13).toInt + 20)) ∧ ((400 < (I p0 13).toInt + 20 → I1 tm.1.2.1 = I tm.1.2.1) ∧ ((I p0 13).toInt + 20 ≤ 400 → I1 tm.1.2.1 = fd5 (I tm.1.2.1) (I p0 13).toInt.toNat p1 p2 p3 p4 p5)) ∧ (∀ b, K b = 0 ∨ K b = 1 ∨ K b = 3 ∨ K b = 6 → I1 b = I b) ∧ (∀ σ : Sx, cmA Q I J p0 σ → cmA Q I1 J1 p0 σ) ∧ J1 = J) t) (fun q => q ∈ L ∨ sz ≤ q)) 0 0 (fun q => q ∈ L ∨ sz ≤ q) := by
  refine Met.ofW (cc := cX7_feed) (maxL := 6) (ret := (some .int)) (by decide +kernel) rfl ?_
  intro p e s m args below meth c s₁ B hml hv
  obtain ⟨rfl, hsz, hP, hK, hD0, hN⟩ := hv
  have hx := B.exec
  have hb := B.bytes
  have hr := B.returns
  have hts := fun w (h : w ∈ pw) => atoms_spec (ws := Cond.code yX7_feed cX7_feed 6 (some .int) :: pw) B.pre w (List.mem_cons_of_mem _ h)
  have hown : s.vm.findClass RX7 = some m.cls := findClass_of_methodNamed B.named
  have hlocks := B.notSynchronized
  subst hsz
  have hBB : 999 ≤ tm.2 ∧ tm.2 ≤ 6000000 := hI.2.2.2.2.1
  have dn_I : (∀ b, K b = 0 ∨ K b = 1 ∨ K b = 3 ∨ K b = 6 → I b = I b) := fun _ _ => rfl
  have dj_J : J = J := rfl
  obtain ⟨A, hAe⟩ : ∃ A : Nat → Prop, A = (fun q => q ∈ L ∨ s.heap.size ≤ q) := ⟨_, rfl⟩
  rw [← hAe]
  have hAL : ∀ q, q ∈ L → A q := fun q h => by rw [hAe]; exact Or.inl h
  have hA : ∀ q, s.heap.size ≤ q → A q := fun q h => by rw [hAe]; exact Or.inr h
  have hD : ∀ F, va_D A (va_pl L F) := fun F => (hD0 F).weaken (fun k q hk _ => hAL _ (pl_mem hk))
  obtain ⟨H, hHe⟩ : ∃ H : Heap, H = s.heap := ⟨_, rfl⟩
  have hS : va_S A s.heap H [] := by rw [hHe]; exact va_S.rf
  rw [← hHe] at hP
  have hl := lv_entry ([.ref p0, .int p1, .int p2, .int p3, .int p4, .int p5]) (n := 6) (Nat.le_of_ble_eq_true rfl)
  rw [lg_entry_eq]
  generalize (lg_sl ([.ref p0, .int p1, .int p2, .int p3, .int p4, .int p5]) ++ List.replicate (6 - (lg_sl ([.ref p0, .int p1, .int p2, .int p3, .int p4, .int p5])).length) Slot.unset).toArray = ls at hl ⊢
  have hl : lv_has ls 6 [(0, .ref p0), (1, .int p1), (2, .int p2), (3, .int p3), (4, .int p4), (5, .int p5)] := hl
  rw [← hHe]
  refine namedW (fun R Qz hR hQz => ?_)
  refine lv_aload_n hx hb dX7_feed_0 rfl (lv_at hl 0 rfl) ?_
  refine p_get hx hb hts inX7 hown hK hP hLp0 hKp0 rfl rfl 13 (by decide) (hts _ pq1128) rfl dX7_feed_1 ?_
  refine lv_topi (fun z1 ez1 => ?_)
  have cgz1 := congrArg Int32.toInt ez1
  have bz1 := oI_7_13 (Iv_at hI hLp0 hKp0)
  rw [← ez1] at bz1
  refine lv_bipush (v := 20) hx hb dX7_feed_4 (by decide +kernel) ?_
  refine lv_iadd hx hb dX7_feed_6 ?_
  refine lv_topi (fun z6 ez6 => ?_)
  have bz6 := tq_add (k := z1.toInt) (q := (20)) ez6 rfl (by decide +kernel) (by omega) (by omega)
  refine lv_sipush (v := 400) hx hb dX7_feed_7 (by decide +kernel) ?_
  refine lv_icmp_le (tgt := 15) hx hb dX7_feed_10 (by decide) (fun c10 => ?_) (fun c10 => ?_)
  · have t10 := tq_le (k := z6.toInt) (q := (400)) c10 rfl (by decide +kernel)
    refine lv_aload_n hx hb dX7_feed_15 rfl (lv_at hl 0 rfl) ?_
    refine lv_iload_n hx hb dX7_feed_16 rfl (lv_at hl 1 rfl) ?_
    refine sw_v (Z := (fun I1 J1 => Iv L K x0 m0 tx ((I1 m0 13, tm.1.2.1, I1 tm.1.2.1), tm.2) I1 ∧ ((I1 p0 13).toInt = (I p0 13).toInt + 4) ∧ I1 tm.1.2.1 = w4 (I tm.1.2.1) (I p0 13).toInt.toNat p1 4 ∧ (∀ b, K b = 0 ∨ K b = 1 ∨ K b = 3 ∨ K b = 6 → I1 b = I b) ∧ (∀ σ : Sx, cmA Q I J p0 σ → cmA Q I1 J1 p0 σ) ∧ J1 = J)) (va_runV (As := [.int p1]) (rest := []) ⟨hx, hb, hml, hown, hts⟩ (s_X7_puts l dC dI cs L K G Q hQ x0 m0 tx tm H.size I J hI p0 hLp0 hKp0 p1 (by omega)) (cwV 1 hts (gV pq1199 pq1201 pq9 pq81 pq1202) rfl rfl rfl (by decide +kernel) ⟨(by rw [hR]; exact (Nat.le_of_ble_eq_true rfl)), (by rw [hR]; exact (Nat.le_of_ble_eq_true rfl))⟩) (sP_V hP hD hK hN hLp0 hKp0 rfl rfl) rfl rfl hl.1 rfl (lv_room (Nat.le_of_ble_eq_true rfl)) dX7_feed_17 ⟨(by rw [hR]; exact (Nat.le_of_ble_eq_true rfl)), (by rw [hR]; exact (Nat.le_of_ble_eq_true rfl))⟩) hS hAL hA (fun Iz17 Jz17 H locs hz17 hIz17 hP hS => ?_)
    obtain ⟨hIz17, zp17, fz17, dnc17, jz17, djc17⟩ := hIz17
    obtain rfl : J = Jz17 := djc17.symm
    have dn_Iz17 : (∀ b, K b = 0 ∨ K b = 1 ∨ K b = 3 ∨ K b = 6 → Iz17 b = I b) := fun b hc => (dnc17 b (by omega)).trans (dn_I b hc)
    refine lv_aload_n hx hb dX7_feed_20 rfl (lv_at hl 0 rfl) ?_
    refine lv_iload_n hx hb dX7_feed_21 rfl (lv_at hl 2 rfl) ?_
    refine sw_v (Z := (fun I1 J1 => Iv L K x0 m0 tx ((I1 m0 13, tm.1.2.1, I1 tm.1.2.1), tm.2) I1 ∧ ((I1 p0 13).toInt = (Iz17 p0 13).toInt + 4) ∧ I1 tm.1.2.1 = w4 (Iz17 tm.1.2.1) (Iz17 p0 13).toInt.toNat p2 4 ∧ (∀ b, K b = 0 ∨ K b = 1 ∨ K b = 3 ∨ K b = 6 → I1 b = Iz17 b) ∧ (∀ σ : Sx, cmA Q Iz17 J p0 σ → cmA Q I1 J1 p0 σ) ∧ J1 = J)) (va_runV (As := [.int p2]) (rest := []) ⟨hx, hb, hml, hown, hts⟩ (s_X7_puts l dC dI cs L K G Q hQ x0 m0 tx tm H.size Iz17 J hIz17 p0 hLp0 hKp0 p2 (by omega)) (cwV 1 hts (gV pq1199 pq1201 pq9 pq81 pq1202) rfl rfl rfl (by decide +kernel) ⟨(by rw [hR]; exact (Nat.le_of_ble_eq_true rfl)), (by rw [hR]; exact (Nat.le_of_ble_eq_true rfl))⟩) (sP_V hP hD hK hN hLp0 hKp0 rfl rfl) rfl rfl hl.1 rfl (lv_room (Nat.le_of_ble_eq_true rfl)) dX7_feed_22 ⟨(by rw [hR]; exact (Nat.le_of_ble_eq_true rfl)), (by rw [hR]; exact (Nat.le_of_ble_eq_true rfl))⟩) hS hAL hA (fun Iz22 Jz22 H locs hz22 hIz22 hP hS => ?_)
    obtain ⟨hIz22, zp22, fz22, dnc22, jz22, djc22⟩ := hIz22
    obtain rfl : J = Jz22 := djc22.symm
    have dn_Iz22 : (∀ b, K b = 0 ∨ K b = 1 ∨ K b = 3 ∨ K b = 6 → Iz22 b = I b) := fun b hc => (dnc22 b (by omega)).trans (dn_Iz17 b hc)
    refine lv_aload_n hx hb dX7_feed_25 rfl (lv_at hl 0 rfl) ?_
    refine lv_iload_n hx hb dX7_feed_26 rfl (lv_at hl 3 rfl) ?_
    refine sw_v (Z := (fun I1 J1 => Iv L K x0 m0 tx ((I1 m0 13, tm.1.2.1, I1 tm.1.2.1), tm.2) I1 ∧ ((I1 p0 13).toInt = (Iz22 p0 13).toInt + 4) ∧ I1 tm.1.2.1 = w4 (Iz22 tm.1.2.1) (Iz22 p0 13).toInt.toNat p3 4 ∧ (∀ b, K b = 0 ∨ K b = 1 ∨ K b = 3 ∨ K b = 6 → I1 b = Iz22 b) ∧ (∀ σ : Sx, cmA Q Iz22 J p0 σ → cmA Q I1 J1 p0 σ) ∧ J1 = J)) (va_runV (As := [.int p3]) (rest := []) ⟨hx, hb, hml, hown, hts⟩ (s_X7_puts l dC dI cs L K G Q hQ x0 m0 tx tm H.size Iz22 J hIz22 p0 hLp0 hKp0 p3 (by omega)) (cwV 1 hts (gV pq1199 pq1201 pq9 pq81 pq1202) rfl rfl rfl (by decide +kernel) ⟨(by rw [hR]; exact (Nat.le_of_ble_eq_true rfl)), (by rw [hR]; exact (Nat.le_of_ble_eq_true rfl))⟩) (sP_V hP hD hK hN hLp0 hKp0 rfl rfl) rfl rfl hl.1 rfl (lv_room (Nat.le_of_ble_eq_true rfl)) dX7_feed_27 ⟨(by rw [hR]; exact (Nat.le_of_ble_eq_true rfl)), (by rw [hR]; exact (Nat.le_of_ble_eq_true rfl))⟩) hS hAL hA (fun Iz27 Jz27 H locs hz27 hIz27 hP hS => ?_)
    obtain ⟨hIz27, zp27, fz27, dnc27, jz27, djc27⟩ := hIz27
    obtain rfl : J = Jz27 := djc27.symm
    have dn_Iz27 : (∀ b, K b = 0 ∨ K b = 1 ∨ K b = 3 ∨ K b = 6 → Iz27 b = I b) := fun b hc => (dnc27 b (by omega)).trans (dn_Iz22 b hc)
    refine lv_aload_n hx hb dX7_feed_30 rfl (lv_at hl 0 rfl) ?_
    refine lv_iload hx hb dX7_feed_31 (lv_at hl 4 rfl) ?_
    refine sw_v (Z := (fun I1 J1 => Iv L K x0 m0 tx ((I1 m0 13, tm.1.2.1, I1 tm.1.2.1), tm.2) I1 ∧ ((I1 p0 13).toInt = (Iz27 p0 13).toInt + 4) ∧ I1 tm.1.2.1 = w4 (Iz27 tm.1.2.1) (Iz27 p0 13).toInt.toNat p4 4 ∧ (∀ b, K b = 0 ∨ K b = 1 ∨ K b = 3 ∨ K b = 6 → I1 b = Iz27 b) ∧ (∀ σ : Sx, cmA Q Iz27 J p0 σ → cmA Q I1 J1 p0 σ) ∧ J1 = J)) (va_runV (As := [.int p4]) (rest := []) ⟨hx, hb, hml, hown, hts⟩ (s_X7_puts l dC dI cs L K G Q hQ x0 m0 tx tm H.size Iz27 J hIz27 p0 hLp0 hKp0 p4 (by omega)) (cwV 1 hts (gV pq1199 pq1201 pq9 pq81 pq1202) rfl rfl rfl (by decide +kernel) ⟨(by rw [hR]; exact (Nat.le_of_ble_eq_true rfl)), (by rw [hR]; exact (Nat.le_of_ble_eq_true rfl))⟩) (sP_V hP hD hK hN hLp0 hKp0 rfl rfl) rfl rfl hl.1 rfl (lv_room (Nat.le_of_ble_eq_true rfl)) dX7_feed_33 ⟨(by rw [hR]; exact (Nat.le_of_ble_eq_true rfl)), (by rw [hR]; exact (Nat.le_of_ble_eq_true rfl))⟩) hS hAL hA (fun Iz33 Jz33 H locs hz33 hIz33 hP hS => ?_)
    obtain ⟨hIz33, zp33, fz33, dnc33, jz33, djc33⟩ := hIz33
    obtain rfl : J = Jz33 := djc33.symm
    have dn_Iz33 : (∀ b, K b = 0 ∨ K b = 1 ∨ K b = 3 ∨ K b = 6 → Iz33 b = I b) := fun b hc => (dnc33 b (by omega)).trans (dn_Iz27 b hc)
    refine lv_aload_n hx hb dX7_feed_36 rfl (lv_at hl 0 rfl) ?_
    refine lv_iload hx hb dX7_feed_37 (lv_at hl 5 rfl) ?_
    refine sw_v (Z := (fun I1 J1 => Iv L K x0 m0 tx ((I1 m0 13, tm.1.2.1, I1 tm.1.2.1), tm.2) I1 ∧ ((I1 p0 13).toInt = (Iz33 p0 13).toInt + 4) ∧ I1 tm.1.2.1 = w4 (Iz33 tm.1.2.1) (Iz33 p0 13).toInt.toNat p5 4 ∧ (∀ b, K b = 0 ∨ K b = 1 ∨ K b = 3 ∨ K b = 6 → I1 b = Iz33 b) ∧ (∀ σ : Sx, cmA Q Iz33 J p0 σ → cmA Q I1 J1 p0 σ) ∧ J1 = J)) (va_runV (As := [.int p5]) (rest := []) ⟨hx, hb, hml, hown, hts⟩ (s_X7_puts l dC dI cs L K G Q hQ x0 m0 tx tm H.size Iz33 J hIz33 p0 hLp0 hKp0 p5 (by omega)) (cwV 1 hts (gV pq1199 pq1201 pq9 pq81 pq1202) rfl rfl rfl (by decide +kernel) ⟨(by rw [hR]; exact (Nat.le_of_ble_eq_true rfl)), (by rw [hR]; exact (Nat.le_of_ble_eq_true rfl))⟩) (sP_V hP hD hK hN hLp0 hKp0 rfl rfl) rfl rfl hl.1 rfl (lv_room (Nat.le_of_ble_eq_true rfl)) dX7_feed_39 ⟨(by rw [hR]; exact (Nat.le_of_ble_eq_true rfl)), (by rw [hR]; exact (Nat.le_of_ble_eq_true rfl))⟩) hS hAL hA (fun Iz39 Jz39 H locs hz39 hIz39 hP hS => ?_)
    obtain ⟨hIz39, zp39, fz39, dnc39, jz39, djc39⟩ := hIz39
    obtain rfl : J = Jz39 := djc39.symm
    have dn_Iz39 : (∀ b, K b = 0 ∨ K b = 1 ∨ K b = 3 ∨ K b = 6 → Iz39 b = I b) := fun b hc => (dnc39 b (by omega)).trans (dn_Iz33 b hc)
    refine lv_aload_n hx hb dX7_feed_42 rfl (lv_at hl 0 rfl) ?_
    refine p_get hx hb hts inX7 hown hK hP hLp0 hKp0 rfl rfl 13 (by decide) (hts _ pq1128) rfl dX7_feed_43 ?_
    refine lv_topi (fun z43 ez43 => ?_)
    have cgz43 := congrArg Int32.toInt ez43
    have bz43 := oI_7_13 (Iv_at hIz39 hLp0 hKp0)
    rw [← ez43] at bz43
    subst hR; subst hQz
    exact W.iret (v := z43) hx hb hr (fun t ht hW => ⟨⟨z43, z43, rfl, ⟨rfl, trivial⟩, ⟨Iz39, J, ⟨hIz39, ⟨fun h => absurd h (by omega), fun h => ⟨by omega, by omega⟩⟩, ⟨fun h => absurd h (by omega), fun _ => by rw [fz39, fz33, fz27, fz22, fz17]; rw [show (Iz17 p0 13).toInt.toNat = (I p0 13).toInt.toNat + 4 by omega]; rw [show (Iz22 p0 13).toInt.toNat = (I p0 13).toInt.toNat + 8 by omega]; rw [show (Iz27 p0 13).toInt.toNat = (I p0 13).toInt.toNat + 12 by omega]; rw [show (Iz33 p0 13).toInt.toNat = (I p0 13).toInt.toNat + 16 by omega]; unfold fd5; rfl⟩, dn_Iz39, (fun σ h => jz39 σ (jz33 σ (jz27 σ (jz22 σ (jz17 σ h))))), dj_J⟩, by rw [ht]; exact hP⟩⟩, hS.F ht⟩) hS.2.2 dX7_feed_46
  · have t10 := tq_nle (k := z6.toInt) (q := (400)) c10 rfl (by decide +kernel)
    refine lv_iconst (v := (-1)) hx hb dX7_feed_13 (by decide +kernel) ?_
    subst hR; subst hQz
    exact W.iret (v := (-1)) hx hb hr (fun t ht hW => ⟨⟨(-1), (-1), rfl, ⟨rfl, trivial⟩, ⟨I, J, ⟨hI, ⟨fun h => ⟨by decide +kernel, rfl⟩, fun h => absurd h (by omega)⟩, ⟨fun _ => rfl, fun h => absurd h (by omega)⟩, dn_I, (fun _ h => h), dj_J⟩, by rw [ht]; exact hP⟩⟩, hS.F ht⟩) hS.2.2 dX7_feed_14

set_option maxHeartbeats 4000000 in
set_option maxRecDepth 100000 in
theorem s_X7_end (l : Launch) (dC : Nat → ClassId) (dI : Nat → Nat → Nat) (cs : Nat → ClassId) (L : List Nat) (K G : Nat → Nat) (Q : Nat → Nat → Option Nat) (hQ : Sv L K G Q) (x0 m0 : Nat) (tx : GT) (tm : GT × Int) (sz : Nat) (I : Nat → Nat → Int32) (J : Nat → Nat → Int64) (hI : Iv L K x0 m0 tx ((I m0 13, tm.1.2.1, I tm.1.2.1), tm.2) I) (p0 : Nat) (hLp0 : p0 ∈ L) (hKp0 : K p0 = 7) (p1 : Int32) : Met l yX7_end (.code yX7_end cX7_end 2 (some .int) :: pw) ({ frames := 0, cells := 0, slots := 0, locals := 0 }) (sP (dC, dI) cs [.ref p0, .int p1] sz L K I J Q) (va_Qi (fun (r : Int32) (u : Int32) => u = r ∧ True) (fun u t => sB (dC, dI) cs L K Q (fun I1 J1 => Iv L K x0 m0 tx ((I1 m0 13, tm.1.2.1, I1 tm.1.2.1), tm.2) I1 ∧ ((0 ≤ p1.toInt ∧ p1.toInt ≤ (I p0 13).toInt → u = p1 ∧ I1 p0 13 = p1) ∧ (¬ (0 ≤ p1.toInt ∧ p1.toInt ≤ (I p0 13).toInt) → u.toInt = -1 ∧ I1 p0 13 = I p0 13)) ∧ I1 tm.1.2.1 = I tm.1.2.1 ∧ (∀ b, K b = 0 ∨ K b = 1 ∨ K b = 3 ∨ K b = 6 → I1 b = I b) ∧ (∀ σ : Sx, cmA Q I J p0 σ → cmA Q I1 J1 p0 σ) ∧ J1 = J) t) (fun q => q ∈ L ∨ sz ≤ q)) 0 0 (fun q => q ∈ L ∨ sz ≤ q) := by
  refine Met.ofW (cc := cX7_end) (maxL := 2) (ret := (some .int)) (by decide +kernel) rfl ?_
  intro p e s m args below meth c s₁ B hml hv
  obtain ⟨rfl, hsz, hP, hK, hD0, hN⟩ := hv
  have hx := B.exec
  have hb := B.bytes
  have hr := B.returns
  have hts := fun w (h : w ∈ pw) => atoms_spec (ws := Cond.code yX7_end cX7_end 2 (some .int) :: pw) B.pre w (List.mem_cons_of_mem _ h)
  have hown : s.vm.findClass RX7 = some m.cls := findClass_of_methodNamed B.named
  have hlocks := B.notSynchronized
  subst hsz
  have hBB : 999 ≤ tm.2 ∧ tm.2 ≤ 6000000 := hI.2.2.2.2.1
  have dn_I : (∀ b, K b = 0 ∨ K b = 1 ∨ K b = 3 ∨ K b = 6 → I b = I b) := fun _ _ => rfl
  have dj_J : J = J := rfl
  obtain ⟨A, hAe⟩ : ∃ A : Nat → Prop, A = (fun q => q ∈ L ∨ s.heap.size ≤ q) := ⟨_, rfl⟩
  rw [← hAe]
  have hAL : ∀ q, q ∈ L → A q := fun q h => by rw [hAe]; exact Or.inl h
  have hA : ∀ q, s.heap.size ≤ q → A q := fun q h => by rw [hAe]; exact Or.inr h
  have hD : ∀ F, va_D A (va_pl L F) := fun F => (hD0 F).weaken (fun k q hk _ => hAL _ (pl_mem hk))
  obtain ⟨H, hHe⟩ : ∃ H : Heap, H = s.heap := ⟨_, rfl⟩
  have hS : va_S A s.heap H [] := by rw [hHe]; exact va_S.rf
  rw [← hHe] at hP
  have hl := lv_entry ([.ref p0, .int p1]) (n := 2) (Nat.le_of_ble_eq_true rfl)
  rw [lg_entry_eq]
  generalize (lg_sl ([.ref p0, .int p1]) ++ List.replicate (2 - (lg_sl ([.ref p0, .int p1])).length) Slot.unset).toArray = ls at hl ⊢
  have hl : lv_has ls 2 [(0, .ref p0), (1, .int p1)] := hl
  rw [← hHe]
  refine namedW (fun R Qz hR hQz => ?_)
  refine lv_iload_n hx hb dX7_end_0 rfl (lv_at hl 1 rfl) ?_
  refine lv_if_lt (tgt := 12) hx hb dX7_end_1 (by decide) (fun c1 => ?_) (fun c1 => ?_)
  · have t1 := tq_lt (k := p1.toInt) (q := (0)) c1 rfl (by decide +kernel)
    have rg1p1 := fb_rng p1
    refine lv_iconst (v := (-1)) hx hb dX7_end_12 (by decide +kernel) ?_
    subst hR; subst hQz
    exact W.iret (v := (-1)) hx hb hr (fun t ht hW => ⟨⟨(-1), (-1), rfl, ⟨rfl, trivial⟩, ⟨I, J, ⟨hI, ⟨fun h => absurd h (by omega), fun _ => ⟨by decide +kernel, rfl⟩⟩, rfl, dn_I, (fun _ h => h), dj_J⟩, by rw [ht]; exact hP⟩⟩, hS.F ht⟩) hS.2.2 dX7_end_13
  · have t1 := tq_nlt (k := p1.toInt) (q := (0)) c1 rfl (by decide +kernel)
    refine lv_iload_n hx hb dX7_end_4 rfl (lv_at hl 1 rfl) ?_
    refine lv_aload_n hx hb dX7_end_5 rfl (lv_at hl 0 rfl) ?_
    refine p_get hx hb hts inX7 hown hK hP hLp0 hKp0 rfl rfl 13 (by decide) (hts _ pq1128) rfl dX7_end_6 ?_
    refine lv_topi (fun z6 ez6 => ?_)
    have cgz6 := congrArg Int32.toInt ez6
    have bz6 := oI_7_13 (Iv_at hI hLp0 hKp0)
    rw [← ez6] at bz6
    refine lv_icmp_le (tgt := 14) hx hb dX7_end_9 (by decide) (fun c9 => ?_) (fun c9 => ?_)
    · have t9 := tq_le (k := p1.toInt) (q := z6.toInt) c9 rfl rfl
      refine lv_aload_n hx hb dX7_end_14 rfl (lv_at hl 0 rfl) ?_
      refine lv_iload_n hx hb dX7_end_15 rfl (lv_at hl 1 rfl) ?_
      refine p_put hx hb hts inX7 tyX7 tyX7_ok nmX7 hown hK hP hD hS hLp0 hKp0 rfl rfl 13 (by decide) (hts _ pq1128) rfl (by decide +kernel) (Nat.le_of_ble_eq_true rfl) (oS_7_13 cs _ _ _ _) dX7_end_16 (fun H locs hP hS => ?_)
      obtain ⟨Iz16, hP, hIz16, qIz16⟩ : ∃ Iz16, va_P (dC, dI) vwCl (Wd cs L K Iz16 J Q) H ∧ Iv L K x0 m0 tx ((Iz16 m0 13, tm.1.2.1, Iz16 tm.1.2.1), tm.2) Iz16 ∧ Iz16 = va_up I p0 (upd (I p0) 13 p1) := ⟨_, hP, Iv_putm hI hKp0 (oP_7_13 (Iv_at hI hLp0 hKp0) ⟨by omega, by omega⟩) (by decide) (by decide), rfl⟩
      have dn_Iz16 : (∀ b, K b = 0 ∨ K b = 1 ∨ K b = 3 ∨ K b = 6 → Iz16 b = I b) := fun b hc => (congrFun qIz16 b).trans ((va_up_ne _ _ (fun z => by have q := hKp0; rw [← z] at q; omega)).trans (dn_I b hc))
      refine lv_iload_n hx hb dX7_end_19 rfl (lv_at hl 1 rfl) ?_
      subst hR; subst hQz
      exact W.iret (v := p1) hx hb hr (fun t ht hW => ⟨⟨p1, p1, rfl, ⟨rfl, trivial⟩, ⟨Iz16, J, ⟨hIz16, ⟨fun _ => ⟨rfl, by rw [qIz16, rz_at]⟩, fun h => absurd ⟨by omega, by omega⟩ h⟩, (by rw [qIz16, va_up_ne _ _ (tpMn hQ hI hLp0 hKp0)]), dn_Iz16, (fun σ h => cmA_tp hQ hLp0 hKp0 qIz16 (by decide) h), dj_J⟩, by rw [ht]; exact hP⟩⟩, hS.F ht⟩) hS.2.2 dX7_end_20
    · have t9 := tq_nle (k := p1.toInt) (q := z6.toInt) c9 rfl rfl
      have rg9p1 := fb_rng p1
      refine lv_iconst (v := (-1)) hx hb dX7_end_12 (by decide +kernel) ?_
      subst hR; subst hQz
      exact W.iret (v := (-1)) hx hb hr (fun t ht hW => ⟨⟨(-1), (-1), rfl, ⟨rfl, trivial⟩, ⟨I, J, ⟨hI, ⟨fun h => absurd h (by omega), fun _ => ⟨by decide +kernel, rfl⟩⟩, rfl, dn_I, (fun _ h => h), dj_J⟩, by rw [ht]; exact hP⟩⟩, hS.F ht⟩) hS.2.2 dX7_end_13

set_option maxHeartbeats 4000000 in
set_option maxRecDepth 100000 in
theorem s_X7_isRight (l : Launch) (dC : Nat → ClassId) (dI : Nat → Nat → Nat) (cs : Nat → ClassId) (L : List Nat) (K G : Nat → Nat) (Q : Nat → Nat → Option Nat) (hQ : Sv L K G Q) (x0 m0 : Nat) (tx : GT) (tm : GT × Int) (sz : Nat) (I : Nat → Nat → Int32) (J : Nat → Nat → Int64) (hI : Iv L K x0 m0 tx tm I) (p0 : Nat) (hLp0 : p0 ∈ L) (hKp0 : K p0 = 7) : Met l yX7_isRight (.code yX7_isRight cX7_isRight 1 (some .boolean) :: pw) ({ frames := 0, cells := 0, slots := 0, locals := 0 }) (sP (dC, dI) cs [.ref p0] sz L K I J Q) (va_Qi (fun (r : Int32) (_ : Unit) => ((0) ≤ r.toInt ∧ r.toInt ≤ 1) ∧ ((¬ r.toInt = 0 → (I p0 15).toInt = -1) ∧ (r.toInt = 0 → ¬ (I p0 15).toInt = -1))) (fun _ _ => True) (fun _ => False)) 0 0 (fun _ => False) := by
  refine Met.ofW (cc := cX7_isRight) (maxL := 1) (ret := (some .boolean)) (by decide +kernel) rfl ?_
  intro p e s m args below meth c s₁ B hml hv
  obtain ⟨rfl, hsz, hP, hK, hD0, hN⟩ := hv
  have hx := B.exec
  have hb := B.bytes
  have hr := B.returns
  have hts := fun w (h : w ∈ pw) => atoms_spec (ws := Cond.code yX7_isRight cX7_isRight 1 (some .boolean) :: pw) B.pre w (List.mem_cons_of_mem _ h)
  have hown : s.vm.findClass RX7 = some m.cls := findClass_of_methodNamed B.named
  have hlocks := B.notSynchronized
  subst hsz
  have hBB : 999 ≤ tm.2 ∧ tm.2 ≤ 6000000 := hI.2.2.2.2.1
  have hD := hD0
  obtain ⟨H, hHe⟩ : ∃ H : Heap, H = s.heap := ⟨_, rfl⟩
  have hS : va_S (fun _ => False) s.heap H [] := by rw [hHe]; exact va_S.rf
  rw [← hHe] at hP
  have hl := lv_entry ([.ref p0]) (n := 1) (Nat.le_of_ble_eq_true rfl)
  rw [lg_entry_eq]
  generalize (lg_sl ([.ref p0]) ++ List.replicate (1 - (lg_sl ([.ref p0])).length) Slot.unset).toArray = ls at hl ⊢
  have hl : lv_has ls 1 [(0, .ref p0)] := hl
  rw [← hHe]
  refine namedW (fun R Qz hR hQz => ?_)
  refine lv_aload_n hx hb dX7_isRight_0 rfl (lv_at hl 0 rfl) ?_
  refine p_get hx hb hts inX7 hown hK hP hLp0 hKp0 rfl rfl 15 (by decide) (hts _ pq1130) rfl dX7_isRight_1 ?_
  refine lv_topi (fun z1 ez1 => ?_)
  have cgz1 := congrArg Int32.toInt ez1
  have bz1 := oI_7_15 (Iv_at hI hLp0 hKp0)
  rw [← ez1] at bz1
  refine lv_iconst (v := (-1)) hx hb dX7_isRight_4 (by decide +kernel) ?_
  refine lv_icmp_ne (tgt := 12) hx hb dX7_isRight_5 (by decide) (fun c5 => ?_) (fun c5 => ?_)
  · have t5 := tq_ne (k := z1.toInt) (q := (-1)) c5 rfl (by decide +kernel)
    refine lv_iconst (v := 0) hx hb dX7_isRight_12 (by decide +kernel) ?_
    subst hR; subst hQz
    exact W.zret (v := 0) hx hb hr (by decide +kernel) (fun t ht hW => ⟨⟨0, (), rfl, ⟨⟨by decide +kernel, by decide +kernel⟩, ⟨fun h => absurd (by decide +kernel) h, fun _ => by rw [← ez1]; omega⟩⟩, trivial⟩, hS.F ht⟩) hS.2.2 dX7_isRight_13
  · have t5 := tq_eq (k := z1.toInt) (q := (-1)) c5 rfl (by decide +kernel)
    refine lv_iconst (v := 1) hx hb dX7_isRight_8 (by decide +kernel) ?_
    refine lv_goto (tgt := 13) hx hb dX7_isRight_9 (by decide) ?_
    subst hR; subst hQz
    exact W.zret (v := 1) hx hb hr (by decide +kernel) (fun t ht hW => ⟨⟨1, (), rfl, ⟨⟨by decide +kernel, by decide +kernel⟩, ⟨fun _ => by rw [← ez1]; omega, fun h => absurd h (by decide +kernel)⟩⟩, trivial⟩, hS.F ht⟩) hS.2.2 dX7_isRight_13

set_option maxHeartbeats 4000000 in
set_option maxRecDepth 100000 in
theorem s_X7_sign (l : Launch) (dC : Nat → ClassId) (dI : Nat → Nat → Nat) (cs : Nat → ClassId) (L : List Nat) (K G : Nat → Nat) (Q : Nat → Nat → Option Nat) (hQ : Sv L K G Q) (x0 m0 : Nat) (tx : GT) (tm : GT × Int) (sz : Nat) (I : Nat → Nat → Int32) (J : Nat → Nat → Int64) (hI : Iv L K x0 m0 tx tm I) (p0 : Nat) (hLp0 : p0 ∈ L) (hKp0 : K p0 = 7) : Met l yX7_sign (.code yX7_sign cX7_sign 1 (some .int) :: pw) ({ frames := 0, cells := 0, slots := 0, locals := 0 }) (sP (dC, dI) cs [.ref p0] sz L K I J Q) (va_Qi (fun (r : Int32) (_ : Unit) => ((-1) ≤ r.toInt ∧ r.toInt ≤ 255) ∧ (r = if (I p0 14).toInt < (I p0 13).toInt then I ((Q p0 12).getD 0) (I p0 14).toInt.toNat &&& 255 else -1) ∧ ((¬ r.toInt = -1 → (I p0 14).toInt < (I p0 13).toInt) ∧ r.toInt = sgB ((tb tm.1.2.2 (I p0 13).toInt) (I p0 14).toInt))) (fun _ _ => True) (fun _ => False)) 0 0 (fun _ => False) := by
  refine Met.ofW (cc := cX7_sign) (maxL := 1) (ret := (some .int)) (by decide +kernel) rfl ?_
  intro p e s m args below meth c s₁ B hml hv
  obtain ⟨rfl, hsz, hP, hK, hD0, hN⟩ := hv
  have hx := B.exec
  have hb := B.bytes
  have hr := B.returns
  have hts := fun w (h : w ∈ pw) => atoms_spec (ws := Cond.code yX7_sign cX7_sign 1 (some .int) :: pw) B.pre w (List.mem_cons_of_mem _ h)
  have hown : s.vm.findClass RX7 = some m.cls := findClass_of_methodNamed B.named
  have hlocks := B.notSynchronized
  subst hsz
  have hBB : 999 ≤ tm.2 ∧ tm.2 ≤ 6000000 := hI.2.2.2.2.1
  have hD := hD0
  obtain ⟨H, hHe⟩ : ∃ H : Heap, H = s.heap := ⟨_, rfl⟩
  have hS : va_S (fun _ => False) s.heap H [] := by rw [hHe]; exact va_S.rf
  rw [← hHe] at hP
  have hl := lv_entry ([.ref p0]) (n := 1) (Nat.le_of_ble_eq_true rfl)
  rw [lg_entry_eq]
  generalize (lg_sl ([.ref p0]) ++ List.replicate (1 - (lg_sl ([.ref p0])).length) Slot.unset).toArray = ls at hl ⊢
  have hl : lv_has ls 1 [(0, .ref p0)] := hl
  rw [← hHe]
  refine namedW (fun R Qz hR hQz => ?_)
  refine lv_aload_n hx hb dX7_sign_0 rfl (lv_at hl 0 rfl) ?_
  refine p_get hx hb hts inX7 hown hK hP hLp0 hKp0 rfl rfl 14 (by decide) (hts _ pq1129) rfl dX7_sign_1 ?_
  refine lv_topi (fun z1 ez1 => ?_)
  have cgz1 := congrArg Int32.toInt ez1
  have bz1 := oI_7_14 (Iv_at hI hLp0 hKp0)
  rw [← ez1] at bz1
  refine lv_aload_n hx hb dX7_sign_4 rfl (lv_at hl 0 rfl) ?_
  refine p_get hx hb hts inX7 hown hK hP hLp0 hKp0 rfl rfl 13 (by decide) (hts _ pq1128) rfl dX7_sign_5 ?_
  refine lv_topi (fun z5 ez5 => ?_)
  have cgz5 := congrArg Int32.toInt ez5
  have bz5 := oI_7_13 (Iv_at hI hLp0 hKp0)
  rw [← ez5] at bz5
  refine lv_icmp_ge (tgt := 27) hx hb dX7_sign_8 (by decide) (fun c8 => ?_) (fun c8 => ?_)
  · have t8 := tq_le (k := z5.toInt) (q := z1.toInt) c8 rfl rfl
    refine lv_iconst (v := (-1)) hx hb dX7_sign_27 (by decide +kernel) ?_
    subst hR; subst hQz
    exact W.iret (v := (-1)) hx hb hr (fun t ht hW => ⟨⟨(-1), (), rfl, ⟨⟨by decide +kernel, by decide +kernel⟩, (by rw [if_neg (by rw [← ez1, ← ez5]; omega)]), ⟨(fun h => absurd (by decide +kernel) h), by rw [tb_end (by rw [← ez1, ← ez5]; omega)]; decide +kernel⟩⟩, trivial⟩, hS.F ht⟩) hS.2.2 dX7_sign_28
  · have t8 := tq_nle (k := z5.toInt) (q := z1.toInt) c8 rfl rfl
    refine lv_aload_n hx hb dX7_sign_11 rfl (lv_at hl 0 rfl) ?_
    obtain ⟨y12, ey12, hLy12, hKy12⟩ := oQ_7_12 (Sv_at hQ hLp0 hKp0)
    refine p_get (v := .ref y12) hx hb hts inX7 hown hK hP hLp0 hKp0 rfl rfl 12 (by decide) (hts _ pq1127) (congrArg (fun q => some (va_rf q)) ey12) dX7_sign_12 ?_
    refine lv_aload_n hx hb dX7_sign_15 rfl (lv_at hl 0 rfl) ?_
    refine p_get hx hb hts inX7 hown hK hP hLp0 hKp0 rfl rfl 14 (by decide) (hts _ pq1129) rfl dX7_sign_16 ?_
    refine lv_topi (fun z16 ez16 => ?_)
    obtain rfl : z1 = z16 := ez1.trans ez16.symm
    refine p_bald hx hb hK hP 21 hLy12 hKy12 rfl rfl (in_of (by omega) (by omega)) dX7_sign_19 ?_
    refine lv_topi (fun z19 ez19 => ?_)
    have tz19 : z19 = tm.1.2.2 (z1).toInt.toNat := ez19.trans (congrFun (hI.2.2.2.2.2.2 y12 hLy12 hKy12).2.1 _)
    refine lv_sipush (v := 255) hx hb dX7_sign_20 (by decide +kernel) ?_
    refine lv_iand hx hb dX7_sign_23 ?_
    refine lv_topi (fun z23 ez23 => ?_)
    have bz23 := tq_and 8 ez23 (by decide +kernel) (by decide)
    refine lv_goto (tgt := 28) hx hb dX7_sign_24 (by decide) ?_
    subst hR; subst hQz
    exact W.iret (v := z23) hx hb hr (fun t ht hW => ⟨⟨z23, (), rfl, ⟨⟨by omega, by omega⟩, (by rw [if_pos (by rw [← ez1, ← ez5]; omega), ey12, ez23, ez19, ez1]; rfl), ⟨(fun _ => by rw [← ez1, ← ez5]; omega), by rw [tb_at (z := z19) (by rw [← ez1]; omega) (by rw [← ez1, ← ez5]; omega) (by rw [← ez1]; exact tz19)]; exact and255 ez23 (by rw [tz19]; exact tpB hQ hI hLp0 hKp0 _)⟩⟩, trivial⟩, hS.F ht⟩) hS.2.2 dX7_sign_28

set_option maxHeartbeats 4000000 in
set_option maxRecDepth 100000 in
theorem s_X7_next (l : Launch) (dC : Nat → ClassId) (dI : Nat → Nat → Nat) (cs : Nat → ClassId) (L : List Nat) (K G : Nat → Nat) (Q : Nat → Nat → Option Nat) (hQ : Sv L K G Q) (x0 m0 : Nat) (tx : GT) (tm : GT × Int) (sz : Nat) (I : Nat → Nat → Int32) (J : Nat → Nat → Int64) (hI : Iv L K x0 m0 tx tm I) (p0 : Nat) (hLp0 : p0 ∈ L) (hKp0 : K p0 = 7) : Met l yX7_next (.code yX7_next cX7_next 1 (some .int) :: pw) ({ frames := 1, cells := 0, slots := 0, locals := 20 }) (sP (dC, dI) cs [.ref p0] sz L K I J Q) (va_Qi (fun (r : Int32) (u : Int32) => u = r ∧ ((-1) ≤ r.toInt ∧ r.toInt ≤ 255)) (fun u t => sB (dC, dI) cs L K Q (fun I1 J1 => Iv L K x0 m0 tx tm I1 ∧ (∀ b, ¬ (b = p0) → I1 b = I b) ∧ I1 p0 11 = I p0 11 ∧ ((I p0 14).toInt ≤ (I1 p0 14).toInt ∧ ((I1 p0 15).toInt = -1 → (I p0 15).toInt = -1) ∧ (∀ k, ¬ k = 14 → I1 p0 k = I p0 k) ∧ (¬ u.toInt = -1 → (I1 p0 14).toInt < (I1 p0 13).toInt)) ∧ (u.toInt = sgB ((tb tm.1.2.2 (I p0 13).toInt) (sk (tb tm.1.2.2 (I p0 13).toInt) (I p0 14).toInt)) ∧ (I1 p0 14).toInt = (sk (tb tm.1.2.2 (I p0 13).toInt) (I p0 14).toInt)) ∧ (∀ b, K b = 0 ∨ K b = 1 ∨ K b = 3 ∨ K b = 6 → I1 b = I b) ∧ J1 = J) t) (fun q => q ∈ L ∨ sz ≤ q)) 0 0 (fun q => q ∈ L ∨ sz ≤ q) := by
  refine Met.ofW (cc := cX7_next) (maxL := 1) (ret := (some .int)) (by decide +kernel) rfl ?_
  intro p e s m args below meth c s₁ B hml hv
  obtain ⟨rfl, hsz, hP, hK, hD0, hN⟩ := hv
  have hx := B.exec
  have hb := B.bytes
  have hr := B.returns
  have hts := fun w (h : w ∈ pw) => atoms_spec (ws := Cond.code yX7_next cX7_next 1 (some .int) :: pw) B.pre w (List.mem_cons_of_mem _ h)
  have hown : s.vm.findClass RX7 = some m.cls := findClass_of_methodNamed B.named
  have hlocks := B.notSynchronized
  subst hsz
  have hBB : 999 ≤ tm.2 ∧ tm.2 ≤ 6000000 := hI.2.2.2.2.1
  have dn_I : (∀ b, K b = 0 ∨ K b = 1 ∨ K b = 3 ∨ K b = 6 → I b = I b) := fun _ _ => rfl
  have dj_J : J = J := rfl
  have kp0_11_I : I p0 11 = I p0 11 := rfl
  have fr_I : ∀ b, ¬ (b = p0) → I b = I b := fun _ _ => rfl
  obtain ⟨A, hAe⟩ : ∃ A : Nat → Prop, A = (fun q => q ∈ L ∨ s.heap.size ≤ q) := ⟨_, rfl⟩
  rw [← hAe]
  have hAL : ∀ q, q ∈ L → A q := fun q h => by rw [hAe]; exact Or.inl h
  have hA : ∀ q, s.heap.size ≤ q → A q := fun q h => by rw [hAe]; exact Or.inr h
  have hD : ∀ F, va_D A (va_pl L F) := fun F => (hD0 F).weaken (fun k q hk _ => hAL _ (pl_mem hk))
  obtain ⟨H, hHe⟩ : ∃ H : Heap, H = s.heap := ⟨_, rfl⟩
  have hS : va_S A s.heap H [] := by rw [hHe]; exact va_S.rf
  rw [← hHe] at hP
  have hl := lv_entry ([.ref p0]) (n := 1) (Nat.le_of_ble_eq_true rfl)
  rw [lg_entry_eq]
  generalize (lg_sl ([.ref p0]) ++ List.replicate (1 - (lg_sl ([.ref p0])).length) Slot.unset).toArray = ls at hl ⊢
  have hl : lv_has ls 1 [(0, .ref p0)] := hl
  rw [← hHe]
  refine namedW (fun R Qz hR hQz => ?_)
  have key0 := blocks (fun n => ∀ (I0 : Nat → Nat → Int32) (H : Heap) (lo : List Loc) (ls : Array Slot), (401 - (I0 p0 14).toInt).toNat = n → Iv L K x0 m0 tx tm I0 → I0 p0 11 = I p0 11 → (∀ b, ¬ (b = p0) → I0 b = I b) → (∀ b, K b = 0 ∨ K b = 1 ∨ K b = 3 ∨ K b = 6 → I0 b = I b) → ((∀ k, ¬ k = 14 → I0 p0 k = I p0 k) ∧ (I p0 14).toInt ≤ (I0 p0 14).toInt) → (∀ k, (I p0 14).toInt ≤ k → k < (I0 p0 14).toInt → pB ((tb tm.1.2.2 (I p0 13).toInt) k) = true) → va_P (dC, dI) vwCl (Wd cs L K I0 J Q) H → va_S A s.heap H lo → lv_has ls 1 [(0, .ref p0)] → W p l e R s m (([.ref p0] : List Value).toArray) below meth c H lo 0 0 Qz (F0 m 0 ls [])) (by
    intro n ih0
    intro I0 H lo ls hmu0 hI0 kp0_11_I0 fr_I0 dn_I0 hnx hny hP hS hl
    have b13 := oI_7_13 (Iv_at hI0 hLp0 hKp0)
    have b14 := oI_7_14 (Iv_at hI0 hLp0 hKp0)
    have b14i := oI_7_14 (Iv_at hI hLp0 hKp0)
    have hby := tpB hQ hI hLp0 hKp0
    refine lv_aload_n hx hb dX7_next_0 rfl (lv_at hl 0 rfl) ?_
    refine ro_i (va_runV (As := []) (rest := []) ⟨hx, hb, hml, hown, hts⟩ (s_X7_sign l dC dI cs L K G Q hQ x0 m0 tx tm H.size I0 J hI0 p0 hLp0 hKp0) (cwV 0 hts (gV pq1215 pq1217 pq11 pq81 pq1218) rfl rfl rfl (by decide +kernel) ⟨(by rw [hR]; exact (Nat.le_of_ble_eq_true rfl)), (by rw [hR]; exact (Nat.le_of_ble_eq_true rfl))⟩) (sP_V hP hD hK hN hLp0 hKp0 rfl rfl) rfl rfl hl.1 rfl (lv_room (Nat.le_of_ble_eq_true rfl)) dX7_next_1 ⟨(by rw [hR]; exact (Nat.le_of_ble_eq_true rfl)), (by rw [hR]; exact (Nat.le_of_ble_eq_true rfl))⟩) hS hP (fun z1 H locs hz1 hP hS => ?_)
    obtain ⟨bz1, fez1, xpz1⟩ := hz1
    refine lv_bipush (v := 32) hx hb dX7_next_4 (by decide +kernel) ?_
    refine lv_icmp_ne (tgt := 22) hx hb dX7_next_6 (by decide) (fun c6 => ?_) (fun c6 => ?_)
    · have t6 := tq_ne (k := z1.toInt) (q := (32)) c6 rfl (by decide +kernel)
      refine lv_aload_n hx hb dX7_next_22 rfl (lv_at hl 0 rfl) ?_
      refine ro_i (va_runV (As := []) (rest := []) ⟨hx, hb, hml, hown, hts⟩ (s_X7_sign l dC dI cs L K G Q hQ x0 m0 tx tm H.size I0 J hI0 p0 hLp0 hKp0) (cwV 0 hts (gV pq1215 pq1217 pq11 pq81 pq1218) rfl rfl rfl (by decide +kernel) ⟨(by rw [hR]; exact (Nat.le_of_ble_eq_true rfl)), (by rw [hR]; exact (Nat.le_of_ble_eq_true rfl))⟩) (sP_V hP hD hK hN hLp0 hKp0 rfl rfl) rfl rfl hl.1 rfl (lv_room (Nat.le_of_ble_eq_true rfl)) dX7_next_23 ⟨(by rw [hR]; exact (Nat.le_of_ble_eq_true rfl)), (by rw [hR]; exact (Nat.le_of_ble_eq_true rfl))⟩) hS hP (fun z23 H locs hz23 hP hS => ?_)
      obtain ⟨bz23, fez23, xpz23⟩ := hz23
      obtain rfl : z1 = z23 := fez1.trans fez23.symm
      subst hR; subst hQz
      exact W.iret (v := z1) hx hb hr (fun t ht hW => ⟨⟨z1, z1, rfl, ⟨rfl, ⟨by omega, by omega⟩⟩, ⟨I0, J, ⟨hI0, fr_I0, kp0_11_I0, ⟨hnx.2, fun h => by rw [← hnx.1 15 (by decide)]; exact h, hnx.1, xpz23.1⟩, ⟨(by have e : (I0 p0 14).toInt = (sk (tb tm.1.2.2 (I p0 13).toInt) (I p0 14).toInt) := (rn_eq hnx.2 (by omega) hny (decide_eq_false (fun h => t6 (xpz1.2.trans (by rw [hnx.1 13 (by decide), h]; rfl))))); rw [← e, ← hnx.1 13 (by decide)]; exact xpz23.2), (rn_eq hnx.2 (by omega) hny (decide_eq_false (fun h => t6 (xpz1.2.trans (by rw [hnx.1 13 (by decide), h]; rfl)))))⟩, dn_I0, dj_J⟩, by rw [ht]; exact hP⟩⟩, hS.F ht⟩) hS.2.2 dX7_next_26
    · have t6 := tq_eq (k := z1.toInt) (q := (32)) c6 rfl (by decide +kernel)
      refine lv_aload_n hx hb dX7_next_9 rfl (lv_at hl 0 rfl) ?_
      refine lv_dup hx hb dX7_next_10 rfl ?_
      refine p_get hx hb hts inX7 hown hK hP hLp0 hKp0 rfl rfl 14 (by decide) (hts _ pq1129) rfl dX7_next_11 ?_
      refine lv_topi (fun z11 ez11 => ?_)
      have cgz11 := congrArg Int32.toInt ez11
      have bz11 := oI_7_14 (Iv_at hI0 hLp0 hKp0)
      rw [← ez11] at bz11
      refine lv_iconst (v := 1) hx hb dX7_next_14 (by decide +kernel) ?_
      refine lv_iadd hx hb dX7_next_15 ?_
      refine lv_topi (fun z15 ez15 => ?_)
      have bz15 := tq_add (k := z11.toInt) (q := (1)) ez15 rfl (by decide +kernel) (by omega) (by omega)
      refine p_put hx hb hts inX7 tyX7 tyX7_ok nmX7 hown hK hP hD hS hLp0 hKp0 rfl rfl 14 (by decide) (hts _ pq1129) rfl (by decide +kernel) (Nat.le_of_ble_eq_true rfl) (oS_7_14 cs _ _ _ _) dX7_next_16 (fun H locs hP hS => ?_)
      obtain ⟨Iz16, hP, hIz16, qIz16⟩ : ∃ Iz16, va_P (dC, dI) vwCl (Wd cs L K Iz16 J Q) H ∧ Iv L K x0 m0 tx tm Iz16 ∧ Iz16 = va_up I0 p0 (upd (I0 p0) 14 z15) := ⟨_, hP, Iv_put hI0 hKp0 (oP_7_14 (Iv_at hI0 hLp0 hKp0) ⟨by omega, by omega⟩) (by decide) (by decide), rfl⟩
      have dn_Iz16 : (∀ b, K b = 0 ∨ K b = 1 ∨ K b = 3 ∨ K b = 6 → Iz16 b = I b) := fun b hc => (congrFun qIz16 b).trans ((va_up_ne _ _ (fun z => by have q := hKp0; rw [← z] at q; omega)).trans (dn_I0 b hc))
      have kp0_11_Iz16 : Iz16 p0 11 = I p0 11 := (congrFun (congrFun qIz16 p0) 11).trans ((rz_fr _ _ _ _ (by decide)).trans kp0_11_I0)
      have fr_Iz16 : ∀ b, ¬ (b = p0) → Iz16 b = I b := fun b q => (congrFun qIz16 b).trans ((va_up_ne _ _ (fun z => q z)).trans (fr_I0 b q))
      refine lv_goto (tgt := 0) hx hb dX7_next_19 (by decide) ?_
      exact ih0 _ (by rw [qIz16, rz_at]; omega) Iz16 _ _ _ rfl hIz16 kp0_11_Iz16 fr_Iz16 dn_Iz16 ⟨fun k hk => by rw [qIz16, rz_fr _ _ _ _ hk]; exact hnx.1 k hk, by rw [qIz16, rz_at]; omega⟩ (fun k a b => by rw [qIz16, rz_at, bz15, cgz11] at b; rcases Int.lt_or_le k (I0 p0 14).toInt with q | q; exact hny k a q; obtain rfl : k = (I0 p0 14).toInt := (by omega); have w := sg_t (tb_rng hby) (by decide) (xpz1.2.symm.trans t6); rw [hnx.1 13 (by decide)] at w; exact decide_eq_true w) hP hS (lv_sub hl [0] rfl))
  exact key0 _ I _ _ _ rfl hI kp0_11_I fr_I dn_I ⟨fun _ _ => rfl, Int.le_refl _⟩ (rn_nil (Int.le_refl _)) hP hS (lv_sub hl [0] rfl)

set_option maxHeartbeats 4000000 in
set_option maxRecDepth 100000 in
theorem s_X7_fails (l : Launch) (dC : Nat → ClassId) (dI : Nat → Nat → Nat) (cs : Nat → ClassId) (L : List Nat) (K G : Nat → Nat) (Q : Nat → Nat → Option Nat) (hQ : Sv L K G Q) (x0 m0 : Nat) (tx : GT) (tm : GT × Int) (sz : Nat) (I : Nat → Nat → Int32) (J : Nat → Nat → Int64) (hI : Iv L K x0 m0 tx tm I) (p0 : Nat) (hLp0 : p0 ∈ L) (hKp0 : K p0 = 7) (p1 : Int32) (bp1 : (1) ≤ p1.toInt ∧ p1.toInt ≤ 4) (p2 : Int32) (bp2 : (0) ≤ p2.toInt ∧ p2.toInt ≤ 1000) : Met l yX7_fails (.code yX7_fails cX7_fails 3 none :: pw) ({ frames := 1, cells := 0, slots := 0, locals := 20 }) (sP (dC, dI) cs [.ref p0, .int p1, .int p2] sz L K I J Q) (va_Qv (fun (_ : Unit) => True) (fun _ t => sB (dC, dI) cs L K Q (fun I1 J1 => Iv L K x0 m0 tx tm I1 ∧ (∀ b, ¬ (b = p0) → I1 b = I b) ∧ I1 p0 11 = I p0 11 ∧ (((I p0 14).toInt ≤ (I1 p0 14).toInt ∧ ((I1 p0 15).toInt = -1 → (I p0 15).toInt = -1) ∧ (∀ k, ¬ k = 15 → I1 p0 k = I p0 k) ∧ ¬ (I1 p0 15).toInt = -1)) ∧ (((I p0 15).toInt = -1 → (I1 p0 15).toInt = 8 * p2.toInt + p1.toInt) ∧ (¬ (I p0 15).toInt = -1 → I1 p0 15 = I p0 15)) ∧ (∀ b, K b = 0 ∨ K b = 1 ∨ K b = 3 ∨ K b = 6 → I1 b = I b) ∧ J1 = J) t) (fun q => q ∈ L ∨ sz ≤ q)) 0 0 (fun q => q ∈ L ∨ sz ≤ q) := by
  refine Met.ofW (cc := cX7_fails) (maxL := 3) (ret := none) (by decide +kernel) rfl ?_
  intro p e s m args below meth c s₁ B hml hv
  obtain ⟨rfl, hsz, hP, hK, hD0, hN⟩ := hv
  have hx := B.exec
  have hb := B.bytes
  have hr := B.returns
  have hts := fun w (h : w ∈ pw) => atoms_spec (ws := Cond.code yX7_fails cX7_fails 3 none :: pw) B.pre w (List.mem_cons_of_mem _ h)
  have hown : s.vm.findClass RX7 = some m.cls := findClass_of_methodNamed B.named
  have hlocks := B.notSynchronized
  subst hsz
  have hBB : 999 ≤ tm.2 ∧ tm.2 ≤ 6000000 := hI.2.2.2.2.1
  have dn_I : (∀ b, K b = 0 ∨ K b = 1 ∨ K b = 3 ∨ K b = 6 → I b = I b) := fun _ _ => rfl
  have dj_J : J = J := rfl
  have kp0_11_I : I p0 11 = I p0 11 := rfl
  have fr_I : ∀ b, ¬ (b = p0) → I b = I b := fun _ _ => rfl
  obtain ⟨A, hAe⟩ : ∃ A : Nat → Prop, A = (fun q => q ∈ L ∨ s.heap.size ≤ q) := ⟨_, rfl⟩
  rw [← hAe]
  have hAL : ∀ q, q ∈ L → A q := fun q h => by rw [hAe]; exact Or.inl h
  have hA : ∀ q, s.heap.size ≤ q → A q := fun q h => by rw [hAe]; exact Or.inr h
  have hD : ∀ F, va_D A (va_pl L F) := fun F => (hD0 F).weaken (fun k q hk _ => hAL _ (pl_mem hk))
  obtain ⟨H, hHe⟩ : ∃ H : Heap, H = s.heap := ⟨_, rfl⟩
  have hS : va_S A s.heap H [] := by rw [hHe]; exact va_S.rf
  rw [← hHe] at hP
  have hl := lv_entry ([.ref p0, .int p1, .int p2]) (n := 3) (Nat.le_of_ble_eq_true rfl)
  rw [lg_entry_eq]
  generalize (lg_sl ([.ref p0, .int p1, .int p2]) ++ List.replicate (3 - (lg_sl ([.ref p0, .int p1, .int p2])).length) Slot.unset).toArray = ls at hl ⊢
  have hl : lv_has ls 3 [(0, .ref p0), (1, .int p1), (2, .int p2)] := hl
  rw [← hHe]
  refine namedW (fun R Qz hR hQz => ?_)
  refine lv_aload_n hx hb dX7_fails_0 rfl (lv_at hl 0 rfl) ?_
  refine ro_i (va_runV (As := []) (rest := []) ⟨hx, hb, hml, hown, hts⟩ (s_X7_isRight l dC dI cs L K G Q hQ x0 m0 tx tm H.size I J hI p0 hLp0 hKp0) (cwV 0 hts (gV pq1219 pq1221 pq12 pq81 pq1222) rfl rfl rfl (by decide +kernel) ⟨(by rw [hR]; exact (Nat.le_of_ble_eq_true rfl)), (by rw [hR]; exact (Nat.le_of_ble_eq_true rfl))⟩) (sP_V hP hD hK hN hLp0 hKp0 rfl rfl) rfl rfl hl.1 rfl (lv_room (Nat.le_of_ble_eq_true rfl)) dX7_fails_1 ⟨(by rw [hR]; exact (Nat.le_of_ble_eq_true rfl)), (by rw [hR]; exact (Nat.le_of_ble_eq_true rfl))⟩) hS hP (fun z1 H locs hz1 hP hS => ?_)
  obtain ⟨bz1, xpz1⟩ := hz1
  refine lv_if_eq (tgt := 17) hx hb dX7_fails_4 (by decide) (fun c4 => ?_) (fun c4 => ?_)
  · have t4 := tq_eq (k := z1.toInt) (q := (0)) c4 rfl (by decide +kernel)
    subst hR; subst hQz
    exact W.vret hx hb hr (fun t ht hW => ⟨⟨(), rfl, trivial, ⟨I, J, ⟨hI, fr_I, kp0_11_I, ⟨Int.le_refl _, fun h => h, fun _ _ => rfl, xpz1.2 t4⟩, ⟨fun h => absurd h (xpz1.2 t4), fun _ => rfl⟩, dn_I, dj_J⟩, by rw [ht]; exact hP⟩⟩, hS.F ht⟩) hS.2.2 dX7_fails_17
  · have t4 := tq_ne (k := z1.toInt) (q := (0)) c4 rfl (by decide +kernel)
    refine lv_aload_n hx hb dX7_fails_7 rfl (lv_at hl 0 rfl) ?_
    refine lv_bipush (v := 8) hx hb dX7_fails_8 (by decide +kernel) ?_
    refine lv_iload_n hx hb dX7_fails_10 rfl (lv_at hl 2 rfl) ?_
    refine lv_imul hx hb dX7_fails_11 ?_
    refine lv_topi (fun z11 ez11 => ?_)
    have bz11 := tq_mul (k := (8)) (q := p2.toInt) ez11 (by decide +kernel) rfl (by omega) (by omega)
    refine lv_iload_n hx hb dX7_fails_12 rfl (lv_at hl 1 rfl) ?_
    refine lv_iadd hx hb dX7_fails_13 ?_
    refine lv_topi (fun z13 ez13 => ?_)
    have bz13 := tq_add (k := z11.toInt) (q := p1.toInt) ez13 rfl rfl (by omega) (by omega)
    refine p_put hx hb hts inX7 tyX7 tyX7_ok nmX7 hown hK hP hD hS hLp0 hKp0 rfl rfl 15 (by decide) (hts _ pq1130) rfl (by decide +kernel) (Nat.le_of_ble_eq_true rfl) (oS_7_15 cs _ _ _ _) dX7_fails_14 (fun H locs hP hS => ?_)
    obtain ⟨Iz14, hP, hIz14, qIz14⟩ : ∃ Iz14, va_P (dC, dI) vwCl (Wd cs L K Iz14 J Q) H ∧ Iv L K x0 m0 tx tm Iz14 ∧ Iz14 = va_up I p0 (upd (I p0) 15 z13) := ⟨_, hP, Iv_put hI hKp0 (oP_7_15 (Iv_at hI hLp0 hKp0) ⟨by omega, by omega⟩) (by decide) (by decide), rfl⟩
    have dn_Iz14 : (∀ b, K b = 0 ∨ K b = 1 ∨ K b = 3 ∨ K b = 6 → Iz14 b = I b) := fun b hc => (congrFun qIz14 b).trans ((va_up_ne _ _ (fun z => by have q := hKp0; rw [← z] at q; omega)).trans (dn_I b hc))
    have kp0_11_Iz14 : Iz14 p0 11 = I p0 11 := (congrFun (congrFun qIz14 p0) 11).trans ((rz_fr _ _ _ _ (by decide)).trans kp0_11_I)
    have fr_Iz14 : ∀ b, ¬ (b = p0) → Iz14 b = I b := fun b q => (congrFun qIz14 b).trans ((va_up_ne _ _ (fun z => q z)).trans (fr_I b q))
    subst hR; subst hQz
    exact W.vret hx hb hr (fun t ht hW => ⟨⟨(), rfl, trivial, ⟨Iz14, J, ⟨hIz14, fr_Iz14, kp0_11_Iz14, ⟨by rw [qIz14, rz_fr _ _ _ _ (by decide)]; exact Int.le_refl _, fun h => absurd h (by rw [qIz14, rz_at]; omega), fun k hk => by rw [qIz14, rz_fr _ _ _ _ hk], by rw [qIz14, rz_at]; omega⟩, ⟨fun _ => by rw [qIz14, rz_at]; omega, fun h => absurd (xpz1.1 t4) h⟩, dn_Iz14, dj_J⟩, by rw [ht]; exact hP⟩⟩, hS.F ht⟩) hS.2.2 dX7_fails_17
