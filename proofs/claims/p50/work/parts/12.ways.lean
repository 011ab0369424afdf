def yJ9_floorDiv_7cf53 : MethodName := ⟨RJ9, "floorDiv", "(II)I"⟩
abbrev cJ9_floorDiv_7cf53 : ByteArray := prog_13_method_47_code
abbrev cX6_isFrom0To : ByteArray := prog_1_method_63_code
abbrev cX6_isWithin : ByteArray := prog_1_method_64_code
abbrev cX6_wayLength : ByteArray := prog_1_method_65_code
abbrev cX6_wayPart : ByteArray := prog_1_method_66_code
def yX6_isFrom0To : MethodName := ⟨RX6, "isFrom0To", "(II)Z"⟩
theorem dJ9_floorDiv_7cf53_0 : decode cJ9_floorDiv_7cf53 0 = .ok (.iload_n 0, 1) := by decide +kernel
theorem dJ9_floorDiv_7cf53_1 : decode cJ9_floorDiv_7cf53 1 = .ok (.iload_n 1, 1) := by decide +kernel
theorem dJ9_floorDiv_7cf53_2 : decode cJ9_floorDiv_7cf53 2 = .ok (.idiv, 1) := by decide +kernel
theorem dJ9_floorDiv_7cf53_3 : decode cJ9_floorDiv_7cf53 3 = .ok (.istore_n 2, 1) := by decide +kernel
theorem dJ9_floorDiv_7cf53_4 : decode cJ9_floorDiv_7cf53 4 = .ok (.iload_n 0, 1) := by decide +kernel
theorem dJ9_floorDiv_7cf53_5 : decode cJ9_floorDiv_7cf53 5 = .ok (.iload_n 1, 1) := by decide +kernel
theorem dJ9_floorDiv_7cf53_6 : decode cJ9_floorDiv_7cf53 6 = .ok (.ixor, 1) := by decide +kernel
theorem dJ9_floorDiv_7cf53_7 : decode cJ9_floorDiv_7cf53 7 = .ok (.ifCond .ge 14, 3) := by decide +kernel
theorem dJ9_floorDiv_7cf53_10 : decode cJ9_floorDiv_7cf53 10 = .ok (.iload_n 2, 1) := by decide +kernel
theorem dJ9_floorDiv_7cf53_11 : decode cJ9_floorDiv_7cf53 11 = .ok (.iload_n 1, 1) := by decide +kernel
theorem dJ9_floorDiv_7cf53_12 : decode cJ9_floorDiv_7cf53 12 = .ok (.imul, 1) := by decide +kernel
theorem dJ9_floorDiv_7cf53_13 : decode cJ9_floorDiv_7cf53 13 = .ok (.iload_n 0, 1) := by decide +kernel
theorem dJ9_floorDiv_7cf53_14 : decode cJ9_floorDiv_7cf53 14 = .ok (.if_icmp .eq 7, 3) := by decide +kernel
theorem dJ9_floorDiv_7cf53_17 : decode cJ9_floorDiv_7cf53 17 = .ok (.iload_n 2, 1) := by decide +kernel
theorem dJ9_floorDiv_7cf53_18 : decode cJ9_floorDiv_7cf53 18 = .ok (.iconst 1, 1) := by decide +kernel
theorem dJ9_floorDiv_7cf53_19 : decode cJ9_floorDiv_7cf53 19 = .ok (.isub, 1) := by decide +kernel
theorem dJ9_floorDiv_7cf53_20 : decode cJ9_floorDiv_7cf53 20 = .ok (.ireturn, 1) := by decide +kernel
theorem dJ9_floorDiv_7cf53_21 : decode cJ9_floorDiv_7cf53 21 = .ok (.iload_n 2, 1) := by decide +kernel
theorem dJ9_floorDiv_7cf53_22 : decode cJ9_floorDiv_7cf53 22 = .ok (.ireturn, 1) := by decide +kernel
theorem dX6_isFrom0To_0 : decode cX6_isFrom0To 0 = .ok (.iload_n 0, 1) := by decide +kernel
theorem dX6_isFrom0To_1 : decode cX6_isFrom0To 1 = .ok (.ifCond .lt 12, 3) := by decide +kernel
theorem dX6_isFrom0To_4 : decode cX6_isFrom0To 4 = .ok (.iload_n 0, 1) := by decide +kernel
theorem dX6_isFrom0To_5 : decode cX6_isFrom0To 5 = .ok (.iload_n 1, 1) := by decide +kernel
theorem dX6_isFrom0To_6 : decode cX6_isFrom0To 6 = .ok (.if_icmp .gt 7, 3) := by decide +kernel
theorem dX6_isFrom0To_9 : decode cX6_isFrom0To 9 = .ok (.iconst 1, 1) := by decide +kernel
theorem dX6_isFrom0To_10 : decode cX6_isFrom0To 10 = .ok (.goto 4, 3) := by decide +kernel
theorem dX6_isFrom0To_13 : decode cX6_isFrom0To 13 = .ok (.iconst 0, 1) := by decide +kernel
theorem dX6_isFrom0To_14 : decode cX6_isFrom0To 14 = .ok (.ireturn, 1) := by decide +kernel
theorem dX6_isWithin_0 : decode cX6_isWithin 0 = .ok (.iload_n 0, 1) := by decide +kernel
theorem dX6_isWithin_1 : decode cX6_isWithin 1 = .ok (.iload_n 1, 1) := by decide +kernel
theorem dX6_isWithin_2 : decode cX6_isWithin 2 = .ok (.ineg, 1) := by decide +kernel
theorem dX6_isWithin_3 : decode cX6_isWithin 3 = .ok (.if_icmp .lt 12, 3) := by decide +kernel
theorem dX6_isWithin_6 : decode cX6_isWithin 6 = .ok (.iload_n 0, 1) := by decide +kernel
theorem dX6_isWithin_7 : decode cX6_isWithin 7 = .ok (.iload_n 1, 1) := by decide +kernel
theorem dX6_isWithin_8 : decode cX6_isWithin 8 = .ok (.if_icmp .gt 7, 3) := by decide +kernel
theorem dX6_isWithin_11 : decode cX6_isWithin 11 = .ok (.iconst 1, 1) := by decide +kernel
theorem dX6_isWithin_12 : decode cX6_isWithin 12 = .ok (.goto 4, 3) := by decide +kernel
theorem dX6_isWithin_15 : decode cX6_isWithin 15 = .ok (.iconst 0, 1) := by decide +kernel
theorem dX6_isWithin_16 : decode cX6_isWithin 16 = .ok (.ireturn, 1) := by decide +kernel
theorem dX6_wayLength_0 : decode cX6_wayLength 0 = .ok (.iload_n 0, 1) := by decide +kernel
theorem dX6_wayLength_1 : decode cX6_wayLength 1 = .ok (.invokestatic 373, 3) := by decide +kernel
theorem dX6_wayLength_4 : decode cX6_wayLength 4 = .ok (.iload_n 1, 1) := by decide +kernel
theorem dX6_wayLength_5 : decode cX6_wayLength 5 = .ok (.invokestatic 373, 3) := by decide +kernel
theorem dX6_wayLength_8 : decode cX6_wayLength 8 = .ok (.invokestatic 378, 3) := by decide +kernel
theorem dX6_wayLength_11 : decode cX6_wayLength 11 = .ok (.ireturn, 1) := by decide +kernel
theorem dX6_wayPart_0 : decode cX6_wayPart 0 = .ok (.iload_n 2, 1) := by decide +kernel
theorem dX6_wayPart_1 : decode cX6_wayPart 1 = .ok (.ifCond .gt 7, 3) := by decide +kernel
theorem dX6_wayPart_4 : decode cX6_wayPart 4 = .ok (.iconst 0, 1) := by decide +kernel
theorem dX6_wayPart_5 : decode cX6_wayPart 5 = .ok (.goto 16, 3) := by decide +kernel
theorem dX6_wayPart_8 : decode cX6_wayPart 8 = .ok (.iconst 2, 1) := by decide +kernel
theorem dX6_wayPart_9 : decode cX6_wayPart 9 = .ok (.iload_n 0, 1) := by decide +kernel
theorem dX6_wayPart_10 : decode cX6_wayPart 10 = .ok (.imul, 1) := by decide +kernel
theorem dX6_wayPart_11 : decode cX6_wayPart 11 = .ok (.iload_n 1, 1) := by decide +kernel
theorem dX6_wayPart_12 : decode cX6_wayPart 12 = .ok (.imul, 1) := by decide +kernel
theorem dX6_wayPart_13 : decode cX6_wayPart 13 = .ok (.iload_n 2, 1) := by decide +kernel
theorem dX6_wayPart_14 : decode cX6_wayPart 14 = .ok (.iadd, 1) := by decide +kernel
theorem dX6_wayPart_15 : decode cX6_wayPart 15 = .ok (.iconst 2, 1) := by decide +kernel
theorem dX6_wayPart_16 : decode cX6_wayPart 16 = .ok (.iload_n 2, 1) := by decide +kernel
theorem dX6_wayPart_17 : decode cX6_wayPart 17 = .ok (.imul, 1) := by decide +kernel
theorem dX6_wayPart_18 : decode cX6_wayPart 18 = .ok (.invokestatic 381, 3) := by decide +kernel
theorem dX6_wayPart_21 : decode cX6_wayPart 21 = .ok (.ireturn, 1) := by decide +kernel
set_option maxRecDepth 100000 in
theorem pq746 : Cond.methodLink RX6 373 Lib.Math.abs.name ∈ pw := pw_mem (i := 746) (by decide +kernel) rfl
set_option maxRecDepth 100000 in
theorem pq747 : Cond.static Lib.Math.abs.name ∈ pw := pw_mem (i := 747) (by decide +kernel) rfl
set_option maxRecDepth 100000 in
theorem pq748 : Cond.code Lib.Math.abs.name Lib.Math.abs.code 1 (some .int) ∈ pw := pw_mem (i := 748) (by rfl) rfl
set_option maxRecDepth 100000 in
theorem pq749 : Cond.methodLink RX6 378 Lib.Math.max.name ∈ pw := pw_mem (i := 749) (by decide +kernel) rfl
set_option maxRecDepth 100000 in
theorem pq781 : Cond.methodLink RX6 381 yJ9_floorDiv_7cf53 ∈ pw := pw_mem (i := 781) (by decide +kernel) rfl
set_option maxRecDepth 100000 in
theorem pq782 : Cond.static yJ9_floorDiv_7cf53 ∈ pw := pw_mem (i := 782) (by decide +kernel) rfl
set_option maxRecDepth 100000 in
theorem pq783 : Cond.code yJ9_floorDiv_7cf53 cJ9_floorDiv_7cf53 3 (some .int) ∈ pw := pw_mem (i := 783) (by rfl) rfl
set_option maxHeartbeats 4000000 in
set_option maxRecDepth 100000 in
theorem s_X6_isFrom0To (l : Launch) (dC : Nat → ClassId) (dI : Nat → Nat → Nat) (cs : Nat → ClassId) (L : List Nat) (K G : Nat → Nat) (Q : Nat → Nat → Option Nat) (hQ : Sv L K G Q) (x0 m0 : Nat) (tx : GT) (tm : GT × Int) (sz : Nat) (I : Nat → Nat → Int32) (J : Nat → Nat → Int64) (hI : Iv L K x0 m0 tx tm I) (p0 : Int32) (p1 : Int32) : Met l yX6_isFrom0To (.code yX6_isFrom0To cX6_isFrom0To 2 (some .boolean) :: pw) ({ frames := 0, cells := 0, slots := 0, locals := 0 }) (sP (dC, dI) cs [.int p0, .int p1] sz L K I J Q) (va_Qi (fun (r : Int32) (_ : Unit) => ((0) ≤ r.toInt ∧ r.toInt ≤ 1) ∧ (¬ r.toInt = 0 → ((0) ≤ p0.toInt ∧ p0.toInt ≤ (p1.toInt))) ∧ (r.toInt = 0 → ¬ (0 ≤ p0.toInt ∧ p0.toInt ≤ p1.toInt))) (fun _ _ => True) (fun _ => False)) 0 0 (fun _ => False) := by
  refine Met.ofW (cc := cX6_isFrom0To) (maxL := 2) (ret := (some .boolean)) (by decide +kernel) rfl ?_
  intro p e s m args below meth c s₁ B hml hv
  obtain ⟨rfl, hsz, hP, hK, hD0, hN⟩ := hv
  have hx := B.exec
  have hb := B.bytes
  have hr := B.returns
  have hts := fun w (h : w ∈ pw) => atoms_spec (ws := Cond.code yX6_isFrom0To cX6_isFrom0To 2 (some .boolean) :: pw) B.pre w (List.mem_cons_of_mem _ h)
  have hown : s.vm.findClass RX6 = some m.cls := findClass_of_methodNamed B.named
  have hlocks := B.notSynchronized
  subst hsz
  have hBB : 999 ≤ tm.2 ∧ tm.2 ≤ 6000000 := hI.2.2.2.2.1
  have hD := hD0
  obtain ⟨H, hHe⟩ : ∃ H : Heap, H = s.heap := ⟨_, rfl⟩
  have hS : va_S (fun _ => False) s.heap H [] := by rw [hHe]; exact va_S.rf
  rw [← hHe] at hP
  have hl := lv_entry ([.int p0, .int p1]) (n := 2) (Nat.le_of_ble_eq_true rfl)
  rw [lg_entry_eq]
  generalize (lg_sl ([.int p0, .int p1]) ++ List.replicate (2 - (lg_sl ([.int p0, .int p1])).length) Slot.unset).toArray = ls at hl ⊢
  have hl : lv_has ls 2 [(0, .int p0), (1, .int p1)] := hl
  rw [← hHe]
  refine namedW (fun R Qz hR hQz => ?_)
  refine lv_iload_n hx hb dX6_isFrom0To_0 rfl (lv_at hl 0 rfl) ?_
  refine lv_if_lt (tgt := 13) hx hb dX6_isFrom0To_1 (by decide) (fun c1 => ?_) (fun c1 => ?_)
  · have t1 := tq_lt (k := p0.toInt) (q := (0)) c1 rfl (by decide +kernel)
    refine lv_iconst (v := 0) hx hb dX6_isFrom0To_13 (by decide +kernel) ?_
    subst hR; subst hQz
    exact W.zret (v := 0) hx hb hr (by decide +kernel) (fun t ht hW => ⟨⟨0, (), rfl, ⟨⟨by decide +kernel, by decide +kernel⟩, fun h => absurd (by decide +kernel) h, (fun _ h => by omega)⟩, trivial⟩, hS.F ht⟩) hS.2.2 dX6_isFrom0To_14
  · have t1 := tq_nlt (k := p0.toInt) (q := (0)) c1 rfl (by decide +kernel)
    refine lv_iload_n hx hb dX6_isFrom0To_4 rfl (lv_at hl 0 rfl) ?_
    refine lv_iload_n hx hb dX6_isFrom0To_5 rfl (lv_at hl 1 rfl) ?_
    refine lv_icmp_gt (tgt := 13) hx hb dX6_isFrom0To_6 (by decide) (fun c6 => ?_) (fun c6 => ?_)
    · have t6 := tq_lt (k := p1.toInt) (q := p0.toInt) c6 rfl rfl
      refine lv_iconst (v := 0) hx hb dX6_isFrom0To_13 (by decide +kernel) ?_
      subst hR; subst hQz
      exact W.zret (v := 0) hx hb hr (by decide +kernel) (fun t ht hW => ⟨⟨0, (), rfl, ⟨⟨by decide +kernel, by decide +kernel⟩, fun h => absurd (by decide +kernel) h, (fun _ h => by omega)⟩, trivial⟩, hS.F ht⟩) hS.2.2 dX6_isFrom0To_14
    · have t6 := tq_nlt (k := p1.toInt) (q := p0.toInt) c6 rfl rfl
      refine lv_iconst (v := 1) hx hb dX6_isFrom0To_9 (by decide +kernel) ?_
      refine lv_goto (tgt := 14) hx hb dX6_isFrom0To_10 (by decide) ?_
      subst hR; subst hQz
      exact W.zret (v := 1) hx hb hr (by decide +kernel) (fun t ht hW => ⟨⟨1, (), rfl, ⟨⟨by decide +kernel, by decide +kernel⟩, fun _ => ⟨by omega, by omega⟩, (fun h => absurd h (by decide +kernel))⟩, trivial⟩, hS.F ht⟩) hS.2.2 dX6_isFrom0To_14

set_option maxHeartbeats 4000000 in
set_option maxRecDepth 100000 in
theorem s_X6_isWithin (l : Launch) (dC : Nat → ClassId) (dI : Nat → Nat → Nat) (cs : Nat → ClassId) (L : List Nat) (K G : Nat → Nat) (Q : Nat → Nat → Option Nat) (hQ : Sv L K G Q) (x0 m0 : Nat) (tx : GT) (tm : GT × Int) (sz : Nat) (I : Nat → Nat → Int32) (J : Nat → Nat → Int64) (hI : Iv L K x0 m0 tx tm I) (p0 : Int32) (p1 : Int32) (bp1 : (-10000) ≤ p1.toInt ∧ p1.toInt ≤ 10000) : Met l yX6_isWithin (.code yX6_isWithin cX6_isWithin 2 (some .boolean) :: pw) ({ frames := 0, cells := 0, slots := 0, locals := 0 }) (sP (dC, dI) cs [.int p0, .int p1] sz L K I J Q) (va_Qi (fun (r : Int32) (_ : Unit) => ((0) ≤ r.toInt ∧ r.toInt ≤ 1) ∧ (¬ r.toInt = 0 → ((-p1.toInt) ≤ p0.toInt ∧ p0.toInt ≤ (p1.toInt))) ∧ (r.toInt = 0 → ¬ (-p1.toInt ≤ p0.toInt ∧ p0.toInt ≤ p1.toInt))) (fun _ _ => True) (fun _ => False)) 0 0 (fun _ => False) := by
  refine Met.ofW (cc := cX6_isWithin) (maxL := 2) (ret := (some .boolean)) (by decide +kernel) rfl ?_
  intro p e s m args below meth c s₁ B hml hv
  obtain ⟨rfl, hsz, hP, hK, hD0, hN⟩ := hv
  have hx := B.exec
  have hb := B.bytes
  have hr := B.returns
  have hts := fun w (h : w ∈ pw) => atoms_spec (ws := Cond.code yX6_isWithin cX6_isWithin 2 (some .boolean) :: pw) B.pre w (List.mem_cons_of_mem _ h)
  have hown : s.vm.findClass RX6 = some m.cls := findClass_of_methodNamed B.named
  have hlocks := B.notSynchronized
  subst hsz
  have hBB : 999 ≤ tm.2 ∧ tm.2 ≤ 6000000 := hI.2.2.2.2.1
  have hD := hD0
  obtain ⟨H, hHe⟩ : ∃ H : Heap, H = s.heap := ⟨_, rfl⟩
  have hS : va_S (fun _ => False) s.heap H [] := by rw [hHe]; exact va_S.rf
  rw [← hHe] at hP
  have hl := lv_entry ([.int p0, .int p1]) (n := 2) (Nat.le_of_ble_eq_true rfl)
  rw [lg_entry_eq]
  generalize (lg_sl ([.int p0, .int p1]) ++ List.replicate (2 - (lg_sl ([.int p0, .int p1])).length) Slot.unset).toArray = ls at hl ⊢
  have hl : lv_has ls 2 [(0, .int p0), (1, .int p1)] := hl
  rw [← hHe]
  refine namedW (fun R Qz hR hQz => ?_)
  refine lv_iload_n hx hb dX6_isWithin_0 rfl (lv_at hl 0 rfl) ?_
  refine lv_iload_n hx hb dX6_isWithin_1 rfl (lv_at hl 1 rfl) ?_
  refine lv_ineg hx hb dX6_isWithin_2 ?_
  refine lv_topi (fun z2 ez2 => ?_)
  have bz2 := tq_neg (k := p1.toInt) ez2 rfl (by omega) (by omega)
  refine lv_icmp_lt (tgt := 15) hx hb dX6_isWithin_3 (by decide) (fun c3 => ?_) (fun c3 => ?_)
  · have t3 := tq_lt (k := p0.toInt) (q := z2.toInt) c3 rfl rfl
    refine lv_iconst (v := 0) hx hb dX6_isWithin_15 (by decide +kernel) ?_
    subst hR; subst hQz
    exact W.zret (v := 0) hx hb hr (by decide +kernel) (fun t ht hW => ⟨⟨0, (), rfl, ⟨⟨by decide +kernel, by decide +kernel⟩, fun h => absurd (by decide +kernel) h, (fun _ h => by omega)⟩, trivial⟩, hS.F ht⟩) hS.2.2 dX6_isWithin_16
  · have t3 := tq_nlt (k := p0.toInt) (q := z2.toInt) c3 rfl rfl
    refine lv_iload_n hx hb dX6_isWithin_6 rfl (lv_at hl 0 rfl) ?_
    refine lv_iload_n hx hb dX6_isWithin_7 rfl (lv_at hl 1 rfl) ?_
    refine lv_icmp_gt (tgt := 15) hx hb dX6_isWithin_8 (by decide) (fun c8 => ?_) (fun c8 => ?_)
    · have t8 := tq_lt (k := p1.toInt) (q := p0.toInt) c8 rfl rfl
      refine lv_iconst (v := 0) hx hb dX6_isWithin_15 (by decide +kernel) ?_
      subst hR; subst hQz
      exact W.zret (v := 0) hx hb hr (by decide +kernel) (fun t ht hW => ⟨⟨0, (), rfl, ⟨⟨by decide +kernel, by decide +kernel⟩, fun h => absurd (by decide +kernel) h, (fun _ h => by omega)⟩, trivial⟩, hS.F ht⟩) hS.2.2 dX6_isWithin_16
    · have t8 := tq_nlt (k := p1.toInt) (q := p0.toInt) c8 rfl rfl
      refine lv_iconst (v := 1) hx hb dX6_isWithin_11 (by decide +kernel) ?_
      refine lv_goto (tgt := 16) hx hb dX6_isWithin_12 (by decide) ?_
      subst hR; subst hQz
      exact W.zret (v := 1) hx hb hr (by decide +kernel) (fun t ht hW => ⟨⟨1, (), rfl, ⟨⟨by decide +kernel, by decide +kernel⟩, fun _ => ⟨by omega, by omega⟩, (fun h => absurd h (by decide +kernel))⟩, trivial⟩, hS.F ht⟩) hS.2.2 dX6_isWithin_16

set_option maxHeartbeats 4000000 in
set_option maxRecDepth 100000 in
theorem s_X6_wayLength (l : Launch) (dC : Nat → ClassId) (dI : Nat → Nat → Nat) (cs : Nat → ClassId) (L : List Nat) (K G : Nat → Nat) (Q : Nat → Nat → Option Nat) (hQ : Sv L K G Q) (x0 m0 : Nat) (tx : GT) (tm : GT × Int) (sz : Nat) (I : Nat → Nat → Int32) (J : Nat → Nat → Int64) (hI : Iv L K x0 m0 tx tm I) (p0 : Int32) (bp0 : (-300) ≤ p0.toInt ∧ p0.toInt ≤ 300) (p1 : Int32) (bp1 : (-300) ≤ p1.toInt ∧ p1.toInt ≤ 300) : Met l yX6_wayLength (.code yX6_wayLength cX6_wayLength 2 (some .int) :: pw) ({ frames := 1, cells := 0, slots := 0, locals := 14 }) (sP (dC, dI) cs [.int p0, .int p1] sz L K I J Q) (va_Qi (fun (r : Int32) (_ : Unit) => ((0) ≤ r.toInt ∧ r.toInt ≤ 300) ∧ (r.toInt = stI p0.toInt p1.toInt)) (fun _ _ => True) (fun _ => False)) 0 0 (fun _ => False) := by
  refine Met.ofW (cc := cX6_wayLength) (maxL := 2) (ret := (some .int)) (by decide +kernel) rfl ?_
  intro p e s m args below meth c s₁ B hml hv
  obtain ⟨rfl, hsz, hP, hK, hD0, hN⟩ := hv
  have hx := B.exec
  have hb := B.bytes
  have hr := B.returns
  have hts := fun w (h : w ∈ pw) => atoms_spec (ws := Cond.code yX6_wayLength cX6_wayLength 2 (some .int) :: pw) B.pre w (List.mem_cons_of_mem _ h)
  have hown : s.vm.findClass RX6 = some m.cls := findClass_of_methodNamed B.named
  have hlocks := B.notSynchronized
  subst hsz
  have hBB : 999 ≤ tm.2 ∧ tm.2 ≤ 6000000 := hI.2.2.2.2.1
  have hD := hD0
  obtain ⟨H, hHe⟩ : ∃ H : Heap, H = s.heap := ⟨_, rfl⟩
  have hS : va_S (fun _ => False) s.heap H [] := by rw [hHe]; exact va_S.rf
  rw [← hHe] at hP
  have hl := lv_entry ([.int p0, .int p1]) (n := 2) (Nat.le_of_ble_eq_true rfl)
  rw [lg_entry_eq]
  generalize (lg_sl ([.int p0, .int p1]) ++ List.replicate (2 - (lg_sl ([.int p0, .int p1])).length) Slot.unset).toArray = ls at hl ⊢
  have hl : lv_has ls 2 [(0, .int p0), (1, .int p1)] := hl
  rw [← hHe]
  refine namedW (fun R Qz hR hQz => ?_)
  refine lv_iload_n hx hb dX6_wayLength_0 rfl (lv_at hl 0 rfl) ?_
  refine va_mabs hx hb (hml.trans hl.1.symm) hown (hts _ pq746) (hts _ pq747) (hts _ pq82) (hts _ pq748) (by rw [hR]; exact (Nat.le_of_ble_eq_true rfl)) (by rw [hR]; exact (Nat.le_of_ble_eq_true rfl)) (by rw [hR]; exact (Nat.le_of_ble_eq_true rfl)) (by rw [hR]; exact (Nat.le_of_ble_eq_true rfl)) dX6_wayLength_1 ?_
  refine lv_topi (fun z1 ez1 => ?_)
  have bz1 := tq_abs ez1 (by omega)
  refine lv_iload_n hx hb dX6_wayLength_4 rfl (lv_at hl 1 rfl) ?_
  refine va_mabs hx hb (hml.trans hl.1.symm) hown (hts _ pq746) (hts _ pq747) (hts _ pq82) (hts _ pq748) (by rw [hR]; exact (Nat.le_of_ble_eq_true rfl)) (by rw [hR]; exact (Nat.le_of_ble_eq_true rfl)) (by rw [hR]; exact (Nat.le_of_ble_eq_true rfl)) (by rw [hR]; exact (Nat.le_of_ble_eq_true rfl)) dX6_wayLength_5 ?_
  refine lv_topi (fun z5 ez5 => ?_)
  have bz5 := tq_abs ez5 (by omega)
  refine va_mmax hx hb (hml.trans hl.1.symm) hown (hts _ pq749) (hts _ pq750) (hts _ pq82) (hts _ pq751) (by rw [hR]; exact (Nat.le_of_ble_eq_true rfl)) (by rw [hR]; exact (Nat.le_of_ble_eq_true rfl)) (by rw [hR]; exact (Nat.le_of_ble_eq_true rfl)) (by rw [hR]; exact (Nat.le_of_ble_eq_true rfl)) dX6_wayLength_8 ?_
  refine lv_topi (fun z8 ez8 => ?_)
  have bz8 := tq_max ez8
  subst hR; subst hQz
  exact W.iret (v := z8) hx hb hr (fun t ht hW => ⟨⟨z8, (), rfl, ⟨⟨by omega, by omega⟩, (by unfold stI; omega)⟩, trivial⟩, hS.F ht⟩) hS.2.2 dX6_wayLength_11

set_option maxHeartbeats 4000000 in
set_option maxRecDepth 100000 in
theorem s_X6_wayLengthL (l : Launch) (dC : Nat → ClassId) (dI : Nat → Nat → Nat) (cs : Nat → ClassId) (L : List Nat) (K G : Nat → Nat) (Q : Nat → Nat → Option Nat) (hQ : Sv L K G Q) (x0 m0 : Nat) (tx : GT) (tm : GT × Int) (sz : Nat) (I : Nat → Nat → Int32) (J : Nat → Nat → Int64) (hI : Iv L K x0 m0 tx tm I) (p0 : Int32) (bp0 : (-20000000) ≤ p0.toInt ∧ p0.toInt ≤ 20000000) (p1 : Int32) (bp1 : (-20000000) ≤ p1.toInt ∧ p1.toInt ≤ 20000000) : Met l yX6_wayLength (.code yX6_wayLength cX6_wayLength 2 (some .int) :: pw) ({ frames := 1, cells := 0, slots := 0, locals := 14 }) (sP (dC, dI) cs [.int p0, .int p1] sz L K I J Q) (va_Qi (fun (r : Int32) (_ : Unit) => ((0) ≤ r.toInt ∧ r.toInt ≤ 20000000) ∧ (r.toInt = stI p0.toInt p1.toInt)) (fun _ _ => True) (fun _ => False)) 0 0 (fun _ => False) := by
  refine Met.ofW (cc := cX6_wayLength) (maxL := 2) (ret := (some .int)) (by decide +kernel) rfl ?_
  intro p e s m args below meth c s₁ B hml hv
  obtain ⟨rfl, hsz, hP, hK, hD0, hN⟩ := hv
  have hx := B.exec
  have hb := B.bytes
  have hr := B.returns
  have hts := fun w (h : w ∈ pw) => atoms_spec (ws := Cond.code yX6_wayLength cX6_wayLength 2 (some .int) :: pw) B.pre w (List.mem_cons_of_mem _ h)
  have hown : s.vm.findClass RX6 = some m.cls := findClass_of_methodNamed B.named
  have hlocks := B.notSynchronized
  subst hsz
  have hBB : 999 ≤ tm.2 ∧ tm.2 ≤ 6000000 := hI.2.2.2.2.1
  have hD := hD0
  obtain ⟨H, hHe⟩ : ∃ H : Heap, H = s.heap := ⟨_, rfl⟩
  have hS : va_S (fun _ => False) s.heap H [] := by rw [hHe]; exact va_S.rf
  rw [← hHe] at hP
  have hl := lv_entry ([.int p0, .int p1]) (n := 2) (Nat.le_of_ble_eq_true rfl)
  rw [lg_entry_eq]
  generalize (lg_sl ([.int p0, .int p1]) ++ List.replicate (2 - (lg_sl ([.int p0, .int p1])).length) Slot.unset).toArray = ls at hl ⊢
  have hl : lv_has ls 2 [(0, .int p0), (1, .int p1)] := hl
  rw [← hHe]
  refine namedW (fun R Qz hR hQz => ?_)
  refine lv_iload_n hx hb dX6_wayLength_0 rfl (lv_at hl 0 rfl) ?_
  refine va_mabs hx hb (hml.trans hl.1.symm) hown (hts _ pq746) (hts _ pq747) (hts _ pq82) (hts _ pq748) (by rw [hR]; exact (Nat.le_of_ble_eq_true rfl)) (by rw [hR]; exact (Nat.le_of_ble_eq_true rfl)) (by rw [hR]; exact (Nat.le_of_ble_eq_true rfl)) (by rw [hR]; exact (Nat.le_of_ble_eq_true rfl)) dX6_wayLength_1 ?_
  refine lv_topi (fun z1 ez1 => ?_)
  have bz1 := tq_abs ez1 (by omega)
  refine lv_iload_n hx hb dX6_wayLength_4 rfl (lv_at hl 1 rfl) ?_
  refine va_mabs hx hb (hml.trans hl.1.symm) hown (hts _ pq746) (hts _ pq747) (hts _ pq82) (hts _ pq748) (by rw [hR]; exact (Nat.le_of_ble_eq_true rfl)) (by rw [hR]; exact (Nat.le_of_ble_eq_true rfl)) (by rw [hR]; exact (Nat.le_of_ble_eq_true rfl)) (by rw [hR]; exact (Nat.le_of_ble_eq_true rfl)) dX6_wayLength_5 ?_
  refine lv_topi (fun z5 ez5 => ?_)
  have bz5 := tq_abs ez5 (by omega)
  refine va_mmax hx hb (hml.trans hl.1.symm) hown (hts _ pq749) (hts _ pq750) (hts _ pq82) (hts _ pq751) (by rw [hR]; exact (Nat.le_of_ble_eq_true rfl)) (by rw [hR]; exact (Nat.le_of_ble_eq_true rfl)) (by rw [hR]; exact (Nat.le_of_ble_eq_true rfl)) (by rw [hR]; exact (Nat.le_of_ble_eq_true rfl)) dX6_wayLength_8 ?_
  refine lv_topi (fun z8 ez8 => ?_)
  have bz8 := tq_max ez8
  subst hR; subst hQz
  exact W.iret (v := z8) hx hb hr (fun t ht hW => ⟨⟨z8, (), rfl, ⟨⟨by omega, by omega⟩, (by unfold stI; omega)⟩, trivial⟩, hS.F ht⟩) hS.2.2 dX6_wayLength_11

theorem fdiv {x y r : Int32} (hy : 1 ≤ y.toInt) (e : r = x / y) : (x.toInt % y.toInt = 0 → r.toInt = x.toInt / y.toInt) ∧ (0 ≤ x.toInt → r.toInt = x.toInt / y.toInt) ∧ (¬ x.toInt % y.toInt = 0 → x.toInt < 0 → r.toInt = x.toInt / y.toInt + 1) := by
  have hr := fb_rng x
  have hry := fb_rng y
  have key : (x / y).toInt = x.toInt.tdiv y.toInt := by
    rw [Int32.toInt_div]
    have h1 : x.toInt.tdiv y.toInt ≤ 2147483647 := by
      rcases Int.le_total 0 x.toInt with h | h
      · rw [Int.tdiv_eq_ediv_of_nonneg h]
        have := Int.ediv_le_self y.toInt h
        omega
      · have h4 : x.toInt.tdiv y.toInt = -((-x.toInt) / y.toInt) := by
          rw [← Int.tdiv_eq_ediv_of_nonneg (show 0 ≤ -x.toInt by omega), Int.neg_tdiv, Int.neg_neg]
        have := Int.ediv_nonneg (show 0 ≤ -x.toInt by omega) (show 0 ≤ y.toInt by omega)
        omega
    have h2 : -2147483648 ≤ x.toInt.tdiv y.toInt := by
      rcases Int.le_total 0 x.toInt with h | h
      · have := Int.tdiv_nonneg h (show 0 ≤ y.toInt by omega)
        omega
      · have h3 := Int.ediv_le_self y.toInt (show 0 ≤ -x.toInt by omega)
        have h4 : x.toInt.tdiv y.toInt = -((-x.toInt) / y.toInt) := by
          rw [← Int.tdiv_eq_ediv_of_nonneg (show 0 ≤ -x.toInt by omega), Int.neg_tdiv, Int.neg_neg]
        omega
    exact fb_bmod h2 (by omega)
  have k2 := key
  rw [e, key]
  refine ⟨fun h => ?_, fun h => Int.tdiv_eq_ediv_of_nonneg h, fun h h0 => ?_⟩
  · rw [Int.tdiv_eq_ediv]
    rw [if_pos (Or.inr (Int.dvd_of_emod_eq_zero h))]; omega
  · rw [Int.tdiv_eq_ediv, if_neg]
    · rw [Int.sign_eq_one_of_pos (by omega)]
    · intro z
      rcases z with z | z
      · omega
      · exact h (Int.emod_eq_zero_of_dvd z)
theorem xor_neg {x y z : Int32} (ez : z = x ^^^ y) (hy : 0 ≤ y.toInt) : z.toInt < 0 ↔ x.toInt < 0 := by
  rw [ez]
  have hb : ∀ w : Int32, w.toInt < 0 ↔ w.toBitVec.msb = true := by
    intro w
    show w.toBitVec.toInt < 0 ↔ _
    rw [BitVec.msb_eq_toInt]; simp
  rw [hb, hb]
  have h1 : y.toBitVec.msb = false := Bool.eq_false_iff.mpr (fun z => absurd ((hb y).mpr z) (by omega))
  rw [Int32.toBitVec_xor, BitVec.msb_xor, h1, Bool.xor_false]
theorem fd_mul {x y z2 z12 : Int32} (hy : 1 ≤ y.toInt) (e2 : z2 = x / y) (e12 : z12 = z2 * y) : z12.toInt = x.toInt ↔ x.toInt % y.toInt = 0 := by
  have hr := fb_rng x
  have hd := fdiv hy e2
  have h0 := Int.emod_nonneg x.toInt (show y.toInt ≠ 0 by omega)
  have h1 := Int.emod_lt_of_pos x.toInt (show 0 < y.toInt by omega)
  have h2 := Int.mul_ediv_add_emod x.toInt y.toInt
  have hm : z12.toInt = (z2.toInt * y.toInt).bmod (2 ^ 32) := by rw [e12, Int32.toInt_mul]
  rcases Int.le_total 0 x.toInt with h | h
  · have e := hd.2.1 h
    have hq : 0 ≤ y.toInt * (x.toInt / y.toInt) := Int.mul_nonneg (by omega) (Int.ediv_nonneg h (by omega))
    rw [e, Int.mul_comm, fb_bmod (by omega) (by omega)] at hm
    omega
  · by_cases q : x.toInt % y.toInt = 0
    · have e := hd.1 q
      rw [e, Int.mul_comm, fb_bmod (by omega) (by omega)] at hm
      omega
    · have hx0 : x.toInt ≠ 0 := fun z => q (by rw [z]; exact Int.zero_emod _)
      have e := hd.2.2 q (by omega)
      have hq : x.toInt / y.toInt < 0 := Int.ediv_neg_of_neg_of_pos (by omega) (by omega)
      have hc : y.toInt * (x.toInt / y.toInt) ≤ y.toInt * (-1) := Int.mul_le_mul_of_nonneg_left (by omega) (by omega)
      rw [e, Int.mul_comm, Int.mul_add, Int.mul_one, fb_bmod (by omega) (by omega)] at hm
      omega
theorem fd1 {x y z2 z6 : Int32} (hy : 1 ≤ y.toInt) (e2 : z2 = x / y) (e6 : z6 = x ^^^ y) (t7 : 0 ≤ z6.toInt) : z2.toInt = x.toInt / y.toInt :=
  (fdiv hy e2).2.1 (Int.not_lt.mp (fun q => absurd ((xor_neg e6 (by omega)).mpr q) (by omega)))
theorem fd2 {x y z2 z12 : Int32} (hy : 1 ≤ y.toInt) (e2 : z2 = x / y) (e12 : z12 = z2 * y) (t14 : z12.toInt = x.toInt) : z2.toInt = x.toInt / y.toInt :=
  (fdiv hy e2).1 ((fd_mul hy e2 e12).mp t14)
theorem fd3 {x y z2 z6 z12 z19 : Int32} (hy : 1 ≤ y.toInt) (e2 : z2 = x / y) (e6 : z6 = x ^^^ y) (e12 : z12 = z2 * y) (e19 : z19 = z2 - 1) (t7 : z6.toInt < 0) (t14 : ¬ z12.toInt = x.toInt) : z19.toInt = x.toInt / y.toInt := by
  have h := (fdiv hy e2).2.2 (fun q => t14 ((fd_mul hy e2 e12).mpr q)) ((xor_neg e6 (by omega)).mp t7)
  have hr := fb_rng z2
  have h3 : -2147483648 ≤ x.toInt / y.toInt := by
    have := fb_rng x
    have h4 := (xor_neg e6 (by omega)).mp t7
    have h5 : x.toInt * y.toInt ≤ x.toInt * 1 := Int.mul_le_mul_of_nonpos_left (by omega) hy
    have h7 : x.toInt ≤ x.toInt / y.toInt := Int.le_ediv_of_mul_le (by omega) (by omega)
    omega
  have := tq_sub e19 rfl (show (1 : Int32).toInt = 1 from by decide +kernel) (by omega) (by omega)
  omega

set_option maxHeartbeats 4000000 in
set_option maxRecDepth 100000 in
theorem s_J9_floorDiv (l : Launch) (dC : Nat → ClassId) (dI : Nat → Nat → Nat) (cs : Nat → ClassId) (L : List Nat) (K : Nat → Nat) (Q : Nat → Nat → Option Nat) (sz : Nat) (I : Nat → Nat → Int32) (J : Nat → Nat → Int64) (p0 : Int32) (p1 : Int32) (bp1 : (1) ≤ p1.toInt ∧ p1.toInt ≤ 200000000) : Met l yJ9_floorDiv_7cf53 (.code yJ9_floorDiv_7cf53 cJ9_floorDiv_7cf53 3 (some .int) :: pw) ({ frames := 0, cells := 0, slots := 0, locals := 0 }) (sP (dC, dI) cs [.int p0, .int p1] sz L K I J Q) (va_Qi (fun (r : Int32) (_ : Unit) => (r.toInt = p0.toInt / p1.toInt)) (fun _ _ => True) (fun _ => False)) 0 0 (fun _ => False) := by
  refine va_MetF (l := l) (cc := cJ9_floorDiv_7cf53) (maxL := 3) (ret := (some .int)) (by decide +kernel) rfl ?_
  intro p e s m args below meth c s₁ B hml hv
  obtain ⟨rfl, hsz, hP, hK, hD0, hN⟩ := hv
  have hx := B.exec
  have hb := B.bytes
  have hr := B.returns
  have hts := fun w (h : w ∈ pw) => atoms_spec (ws := Cond.code yJ9_floorDiv_7cf53 cJ9_floorDiv_7cf53 3 (some .int) :: pw) B.pre w (List.mem_cons_of_mem _ h)
  have hown : s.vm.findClass RJ9 = some m.cls := findClass_of_methodNamed B.named
  have hlocks := B.notSynchronized
  subst hsz
  have hD := hD0
  obtain ⟨H, hHe⟩ : ∃ H : Heap, H = s.heap := ⟨_, rfl⟩
  have hS : va_S (fun _ => False) s.heap H [] := by rw [hHe]; exact va_S.rf
  rw [← hHe] at hP
  have hl := lv_entry ([.int p0, .int p1]) (n := 3) (Nat.le_of_ble_eq_true rfl)
  rw [lg_entry_eq]
  generalize (lg_sl ([.int p0, .int p1]) ++ List.replicate (3 - (lg_sl ([.int p0, .int p1])).length) Slot.unset).toArray = ls at hl ⊢
  have hl : lv_has ls 3 [(0, .int p0), (1, .int p1)] := hl
  rw [← hHe]
  refine namedW (fun R Qz hR hQz => ?_)
  refine lv_iload_n hx hb dJ9_floorDiv_7cf53_0 rfl (lv_at hl 0 rfl) ?_
  refine lv_iload_n hx hb dJ9_floorDiv_7cf53_1 rfl (lv_at hl 1 rfl) ?_
  refine lv_idiv hx hb dJ9_floorDiv_7cf53_2 (fun h => by have q := tq_eq (k := p1.toInt) (q := 0) h rfl (by decide +kernel); omega) ?_
  refine lv_topi (fun z2 ez2 => ?_)
  refine lv_istore_n (lv' := [(2, .int z2), (0, .int p0), (1, .int p1)]) hx hb dJ9_floorDiv_7cf53_3 rfl hl (by decide) rfl (fun ls hl => ?_)
  refine lv_iload_n hx hb dJ9_floorDiv_7cf53_4 rfl (lv_at hl 1 rfl) ?_
  refine lv_iload_n hx hb dJ9_floorDiv_7cf53_5 rfl (lv_at hl 2 rfl) ?_
  refine lv_ixor hx hb dJ9_floorDiv_7cf53_6 ?_
  refine lv_topi (fun z6 ez6 => ?_)
  refine lv_if_ge (tgt := 21) hx hb dJ9_floorDiv_7cf53_7 (by decide) (fun c7 => ?_) (fun c7 => ?_)
  · have t7 := tq_le (k := (0)) (q := z6.toInt) c7 (by decide +kernel) rfl
    refine lv_iload_n hx hb dJ9_floorDiv_7cf53_21 rfl (lv_at hl 0 rfl) ?_
    subst hR; subst hQz
    exact W.iret (v := z2) hx hb hr (fun t ht hW => ⟨⟨z2, (), rfl, (fd1 bp1.1 ez2 ez6 t7), trivial⟩, hS.F ht⟩) hS.2.2 dJ9_floorDiv_7cf53_22
  · have t7 := tq_nle (k := (0)) (q := z6.toInt) c7 (by decide +kernel) rfl
    refine lv_iload_n hx hb dJ9_floorDiv_7cf53_10 rfl (lv_at hl 0 rfl) ?_
    refine lv_iload_n hx hb dJ9_floorDiv_7cf53_11 rfl (lv_at hl 2 rfl) ?_
    refine lv_imul hx hb dJ9_floorDiv_7cf53_12 ?_
    refine lv_topi (fun z12 ez12 => ?_)
    refine lv_iload_n hx hb dJ9_floorDiv_7cf53_13 rfl (lv_at hl 1 rfl) ?_
    refine lv_icmp_eq (tgt := 21) hx hb dJ9_floorDiv_7cf53_14 (by decide) (fun c14 => ?_) (fun c14 => ?_)
    · have t14 := tq_eq (k := z12.toInt) (q := p0.toInt) c14 rfl rfl
      refine lv_iload_n hx hb dJ9_floorDiv_7cf53_21 rfl (lv_at hl 0 rfl) ?_
      subst hR; subst hQz
      exact W.iret (v := z2) hx hb hr (fun t ht hW => ⟨⟨z2, (), rfl, (fd2 bp1.1 ez2 ez12 t14), trivial⟩, hS.F ht⟩) hS.2.2 dJ9_floorDiv_7cf53_22
    · have t14 := tq_ne (k := z12.toInt) (q := p0.toInt) c14 rfl rfl
      refine lv_iload_n hx hb dJ9_floorDiv_7cf53_17 rfl (lv_at hl 0 rfl) ?_
      refine lv_iconst (v := 1) hx hb dJ9_floorDiv_7cf53_18 (by decide +kernel) ?_
      refine lv_isub hx hb dJ9_floorDiv_7cf53_19 ?_
      refine lv_topi (fun z19 ez19 => ?_)
      subst hR; subst hQz
      exact W.iret (v := z19) hx hb hr (fun t ht hW => ⟨⟨z19, (), rfl, (fd3 bp1.1 ez2 ez6 ez12 ez19 t7 t14), trivial⟩, hS.F ht⟩) hS.2.2 dJ9_floorDiv_7cf53_20

theorem wp_bnd {a b d n r k : Int} (hn : 1 ≤ n) (hk : 0 ≤ k) (hkn : k ≤ n) (hd : -200 ≤ d ∧ d ≤ 200) (ha : a = 2 * k * d + n) (hb : b = 2 * n) (hr : r = a / b) : -200 ≤ r ∧ r ≤ 200 := by
  have h1 : k * d ≤ k * 200 := Int.mul_le_mul_of_nonneg_left hd.2 hk
  have h2 : k * (-200) ≤ k * d := Int.mul_le_mul_of_nonneg_left hd.1 hk
  have e : 2 * k * d = 2 * (k * d) := Int.mul_assoc 2 k d
  rw [e] at ha
  subst hr
  refine ⟨Int.le_ediv_of_mul_le (by omega) (by omega), Int.lt_add_one_iff.mp (Int.ediv_lt_of_lt_mul (by omega) (by omega))⟩
theorem wp_mul {x y z : Int32} {n : Int} (e : z = x * y) (hx : 0 ≤ x.toInt) (hxn : x.toInt ≤ n) (hn : n ≤ 4000000) (hy : -200 ≤ y.toInt ∧ y.toInt ≤ 200) : z.toInt = x.toInt * y.toInt ∧ -(200 * x.toInt) ≤ z.toInt ∧ z.toInt ≤ 200 * x.toInt := by
  have h1 : x.toInt * y.toInt ≤ x.toInt * 200 := Int.mul_le_mul_of_nonneg_left hy.2 hx
  have h2 : x.toInt * (-200) ≤ x.toInt * y.toInt := Int.mul_le_mul_of_nonneg_left hy.1 hx
  have := tq_mul e rfl rfl (by omega) (by omega)
  omega

theorem wp_L {k d n z10 z12 z14 z17 r : Int32} (hk : 0 ≤ k.toInt) (hkn : k.toInt ≤ n.toInt) (hn : n.toInt ≤ 3000) (h1 : 1 ≤ n.toInt) (hd : -3000 ≤ d.toInt ∧ d.toInt ≤ 3000) (e10 : z10 = 2 * k) (e12 : z12 = z10 * d) (e14 : z14 = z12 + n) (b17 : z17.toInt = 2 * n.toInt) (hr : r.toInt = z14.toInt / z17.toInt) : r.toInt = byI k.toInt d.toInt n.toInt ∧ -3000 ≤ r.toInt ∧ r.toInt ≤ 3000 := by
  have a1 : z10.toInt = 2 * k.toInt := tq_mul e10 (by decide +kernel) rfl (by omega) (by omega)
  have p1 : 2 * k.toInt * -3000 ≤ 2 * k.toInt * d.toInt := Int.mul_le_mul_of_nonneg_left hd.1 (by omega)
  have p2 : 2 * k.toInt * d.toInt ≤ 2 * k.toInt * 3000 := Int.mul_le_mul_of_nonneg_left hd.2 (by omega)
  have a2 : z12.toInt = 2 * k.toInt * d.toInt := tq_mul e12 a1 rfl (by omega) (by omega)
  have a3 : z14.toInt = 2 * k.toInt * d.toInt + n.toInt := tq_add e14 a2 rfl (by omega) (by omega)
  rw [a3, b17] at hr
  refine ⟨?_, ?_⟩
  · unfold byI
    rw [if_neg (by omega)]
    exact hr
  · have h1 : k.toInt * d.toInt ≤ k.toInt * 3000 := Int.mul_le_mul_of_nonneg_left hd.2 hk
    have h2 : k.toInt * (-3000) ≤ k.toInt * d.toInt := Int.mul_le_mul_of_nonneg_left hd.1 hk
    have e : 2 * k.toInt * d.toInt = 2 * (k.toInt * d.toInt) := Int.mul_assoc 2 _ _
    rw [e] at hr
    rw [hr]
    exact ⟨Int.le_ediv_of_mul_le (by omega) (by omega), Int.lt_add_one_iff.mp (Int.ediv_lt_of_lt_mul (by omega) (by omega))⟩
theorem by_bd {k d n : Int} (hk : 0 ≤ k) (hkn : k ≤ n) (hd : -3000 ≤ d ∧ d ≤ 3000) : -3000 ≤ byI k d n ∧ byI k d n ≤ 3000 := by
  unfold byI
  by_cases q : n ≤ 0
  · rw [if_pos q]; omega
  · rw [if_neg q]
    have h1 : k * d ≤ k * 3000 := Int.mul_le_mul_of_nonneg_left hd.2 hk
    have h2 : k * (-3000) ≤ k * d := Int.mul_le_mul_of_nonneg_left hd.1 hk
    have e : 2 * k * d = 2 * (k * d) := Int.mul_assoc 2 _ _
    rw [e]
    exact ⟨Int.le_ediv_of_mul_le (by omega) (by omega), Int.lt_add_one_iff.mp (Int.ediv_lt_of_lt_mul (by omega) (by omega))⟩

set_option maxHeartbeats 4000000 in
set_option maxRecDepth 100000 in
theorem s_X6_wayPart (l : Launch) (dC : Nat → ClassId) (dI : Nat → Nat → Nat) (cs : Nat → ClassId) (L : List Nat) (K G : Nat → Nat) (Q : Nat → Nat → Option Nat) (hQ : Sv L K G Q) (x0 m0 : Nat) (tx : GT) (tm : GT × Int) (sz : Nat) (I : Nat → Nat → Int32) (J : Nat → Nat → Int64) (hI : Iv L K x0 m0 tx tm I) (p0 : Int32) (p1 : Int32) (p2 : Int32) (bp2 : (-50000000) ≤ p2.toInt ∧ p2.toInt ≤ 50000000) : Met l yX6_wayPart (.code yX6_wayPart cX6_wayPart 3 (some .int) :: pw) ({ frames := 1, cells := 0, slots := 0, locals := 22 }) (sP (dC, dI) cs [.int p0, .int p1, .int p2] sz L K I J Q) (va_Qi (fun (r : Int32) (_ : Unit) => (0 ≤ p0.toInt → p0.toInt ≤ p2.toInt → p2.toInt ≤ 3000 → (-3000 ≤ p1.toInt ∧ p1.toInt ≤ 3000) → r.toInt = byI p0.toInt p1.toInt p2.toInt ∧ -3000 ≤ r.toInt ∧ r.toInt ≤ 3000)) (fun _ _ => True) (fun _ => False)) 0 0 (fun _ => False) := by
  refine Met.ofW (cc := cX6_wayPart) (maxL := 3) (ret := (some .int)) (by decide +kernel) rfl ?_
  intro p e s m args below meth c s₁ B hml hv
  obtain ⟨rfl, hsz, hP, hK, hD0, hN⟩ := hv
  have hx := B.exec
  have hb := B.bytes
  have hr := B.returns
  have hts := fun w (h : w ∈ pw) => atoms_spec (ws := Cond.code yX6_wayPart cX6_wayPart 3 (some .int) :: pw) B.pre w (List.mem_cons_of_mem _ h)
  have hown : s.vm.findClass RX6 = some m.cls := findClass_of_methodNamed B.named
  have hlocks := B.notSynchronized
  subst hsz
  have hBB : 999 ≤ tm.2 ∧ tm.2 ≤ 6000000 := hI.2.2.2.2.1
  have hD := hD0
  obtain ⟨H, hHe⟩ : ∃ H : Heap, H = s.heap := ⟨_, rfl⟩
  have hS : va_S (fun _ => False) s.heap H [] := by rw [hHe]; exact va_S.rf
  rw [← hHe] at hP
  have hl := lv_entry ([.int p0, .int p1, .int p2]) (n := 3) (Nat.le_of_ble_eq_true rfl)
  rw [lg_entry_eq]
  generalize (lg_sl ([.int p0, .int p1, .int p2]) ++ List.replicate (3 - (lg_sl ([.int p0, .int p1, .int p2])).length) Slot.unset).toArray = ls at hl ⊢
  have hl : lv_has ls 3 [(0, .int p0), (1, .int p1), (2, .int p2)] := hl
  rw [← hHe]
  refine namedW (fun R Qz hR hQz => ?_)
  refine lv_iload_n hx hb dX6_wayPart_0 rfl (lv_at hl 2 rfl) ?_
  refine lv_if_gt (tgt := 8) hx hb dX6_wayPart_1 (by decide) (fun c1 => ?_) (fun c1 => ?_)
  · have t1 := tq_lt (k := (0)) (q := p2.toInt) c1 (by decide +kernel) rfl
    refine lv_iconst (v := 2) hx hb dX6_wayPart_8 (by decide +kernel) ?_
    refine lv_iload_n hx hb dX6_wayPart_9 rfl (lv_at hl 0 rfl) ?_
    refine lv_imul hx hb dX6_wayPart_10 ?_
    refine lv_topi (fun z10 ez10 => ?_)
    refine lv_iload_n hx hb dX6_wayPart_11 rfl (lv_at hl 1 rfl) ?_
    refine lv_imul hx hb dX6_wayPart_12 ?_
    refine lv_topi (fun z12 ez12 => ?_)
    refine lv_iload_n hx hb dX6_wayPart_13 rfl (lv_at hl 2 rfl) ?_
    refine lv_iadd hx hb dX6_wayPart_14 ?_
    refine lv_topi (fun z14 ez14 => ?_)
    refine lv_iconst (v := 2) hx hb dX6_wayPart_15 (by decide +kernel) ?_
    refine lv_iload_n hx hb dX6_wayPart_16 rfl (lv_at hl 2 rfl) ?_
    refine lv_imul hx hb dX6_wayPart_17 ?_
    refine lv_topi (fun z17 ez17 => ?_)
    have bz17 := tq_mul (k := (2)) (q := p2.toInt) ez17 (by decide +kernel) rfl (by omega) (by omega)
    refine ro_i (va_runS (As := [.int z14, .int z17]) (rest := []) ⟨hx, hb, hml, hown, hts⟩ (s_J9_floorDiv l dC dI cs L K Q H.size I J z14 z17 ⟨by omega, by omega⟩) (va_cwS 2 hts (gS pq781 pq782 pq82 pq783) rfl rfl rfl (by decide +kernel) ⟨(by rw [hR]; exact (Nat.le_of_ble_eq_true rfl)), (by rw [hR]; exact (Nat.le_of_ble_eq_true rfl))⟩) (sP_S hP hD hK hN) rfl rfl hl.1 rfl (lv_room (Nat.le_of_ble_eq_true rfl)) dX6_wayPart_18 ⟨(by rw [hR]; exact (Nat.le_of_ble_eq_true rfl)), (by rw [hR]; exact (Nat.le_of_ble_eq_true rfl))⟩) hS hP (fun z18 H locs hz18 hP hS => ?_)
    have xpz18 := hz18
    subst hR; subst hQz
    exact W.iret (v := z18) hx hb hr (fun t ht hW => ⟨⟨z18, (), rfl, (fun a b c d => wp_L a b c (by omega) d ez10 ez12 ez14 bz17 xpz18), trivial⟩, hS.F ht⟩) hS.2.2 dX6_wayPart_21
  · have t1 := tq_nlt (k := (0)) (q := p2.toInt) c1 (by decide +kernel) rfl
    refine lv_iconst (v := 0) hx hb dX6_wayPart_4 (by decide +kernel) ?_
    refine lv_goto (tgt := 21) hx hb dX6_wayPart_5 (by decide) ?_
    subst hR; subst hQz
    exact W.iret (v := 0) hx hb hr (fun t ht hW => ⟨⟨0, (), rfl, (fun a b c d => ⟨by unfold byI; rw [if_pos (by omega)]; decide +kernel, by decide +kernel, by decide +kernel⟩), trivial⟩, hS.F ht⟩) hS.2.2 dX6_wayPart_21

set_option maxHeartbeats 4000000 in
set_option maxRecDepth 100000 in
theorem s_X6_wayPartS (l : Launch) (dC : Nat → ClassId) (dI : Nat → Nat → Nat) (cs : Nat → ClassId) (L : List Nat) (K G : Nat → Nat) (Q : Nat → Nat → Option Nat) (hQ : Sv L K G Q) (x0 m0 : Nat) (tx : GT) (tm : GT × Int) (sz : Nat) (I : Nat → Nat → Int32) (J : Nat → Nat → Int64) (hI : Iv L K x0 m0 tx tm I) (p0 : Int32) (bp0 : (0) ≤ p0.toInt ∧ p0.toInt ≤ 2000) (p1 : Int32) (bp1 : (-200) ≤ p1.toInt ∧ p1.toInt ≤ 200) (p2 : Int32) (bp2 : (0) ≤ p2.toInt ∧ p2.toInt ≤ 2000) (hkn : p0.toInt ≤ p2.toInt) : Met l yX6_wayPart (.code yX6_wayPart cX6_wayPart 3 (some .int) :: pw) ({ frames := 1, cells := 0, slots := 0, locals := 22 }) (sP (dC, dI) cs [.int p0, .int p1, .int p2] sz L K I J Q) (va_Qi (fun (r : Int32) (_ : Unit) => ((-200) ≤ r.toInt ∧ r.toInt ≤ 200) ∧ (r.toInt = byI p0.toInt p1.toInt p2.toInt)) (fun _ _ => True) (fun _ => False)) 0 0 (fun _ => False) := by
  refine Met.ofW (cc := cX6_wayPart) (maxL := 3) (ret := (some .int)) (by decide +kernel) rfl ?_
  intro p e s m args below meth c s₁ B hml hv
  obtain ⟨rfl, hsz, hP, hK, hD0, hN⟩ := hv
  have hx := B.exec
  have hb := B.bytes
  have hr := B.returns
  have hts := fun w (h : w ∈ pw) => atoms_spec (ws := Cond.code yX6_wayPart cX6_wayPart 3 (some .int) :: pw) B.pre w (List.mem_cons_of_mem _ h)
  have hown : s.vm.findClass RX6 = some m.cls := findClass_of_methodNamed B.named
  have hlocks := B.notSynchronized
  subst hsz
  have hBB : 999 ≤ tm.2 ∧ tm.2 ≤ 6000000 := hI.2.2.2.2.1
  have hD := hD0
  obtain ⟨H, hHe⟩ : ∃ H : Heap, H = s.heap := ⟨_, rfl⟩
  have hS : va_S (fun _ => False) s.heap H [] := by rw [hHe]; exact va_S.rf
  rw [← hHe] at hP
  have hl := lv_entry ([.int p0, .int p1, .int p2]) (n := 3) (Nat.le_of_ble_eq_true rfl)
  rw [lg_entry_eq]
  generalize (lg_sl ([.int p0, .int p1, .int p2]) ++ List.replicate (3 - (lg_sl ([.int p0, .int p1, .int p2])).length) Slot.unset).toArray = ls at hl ⊢
  have hl : lv_has ls 3 [(0, .int p0), (1, .int p1), (2, .int p2)] := hl
  rw [← hHe]
  refine namedW (fun R Qz hR hQz => ?_)
  refine lv_iload_n hx hb dX6_wayPart_0 rfl (lv_at hl 2 rfl) ?_
  refine lv_if_gt (tgt := 8) hx hb dX6_wayPart_1 (by decide) (fun c1 => ?_) (fun c1 => ?_)
  · have t1 := tq_lt (k := (0)) (q := p2.toInt) c1 (by decide +kernel) rfl
    refine lv_iconst (v := 2) hx hb dX6_wayPart_8 (by decide +kernel) ?_
    refine lv_iload_n hx hb dX6_wayPart_9 rfl (lv_at hl 0 rfl) ?_
    refine lv_imul hx hb dX6_wayPart_10 ?_
    refine lv_topi (fun z10 ez10 => ?_)
    have bz10 := tq_mul (k := (2)) (q := p0.toInt) ez10 (by decide +kernel) rfl (by omega) (by omega)
    refine lv_iload_n hx hb dX6_wayPart_11 rfl (lv_at hl 1 rfl) ?_
    refine lv_imul hx hb dX6_wayPart_12 ?_
    refine lv_topi (fun z12 ez12 => ?_)
    have bz12 := wp_mul ez12 (by omega) (by omega) (show (4000 : Int) ≤ 4000000 by decide) bp1
    refine lv_iload_n hx hb dX6_wayPart_13 rfl (lv_at hl 2 rfl) ?_
    refine lv_iadd hx hb dX6_wayPart_14 ?_
    refine lv_topi (fun z14 ez14 => ?_)
    have bz14 := tq_add (k := z12.toInt) (q := p2.toInt) ez14 rfl rfl (by omega) (by omega)
    refine lv_iconst (v := 2) hx hb dX6_wayPart_15 (by decide +kernel) ?_
    refine lv_iload_n hx hb dX6_wayPart_16 rfl (lv_at hl 2 rfl) ?_
    refine lv_imul hx hb dX6_wayPart_17 ?_
    refine lv_topi (fun z17 ez17 => ?_)
    have bz17 := tq_mul (k := (2)) (q := p2.toInt) ez17 (by decide +kernel) rfl (by omega) (by omega)
    refine ro_i (va_runS (As := [.int z14, .int z17]) (rest := []) ⟨hx, hb, hml, hown, hts⟩ (s_J9_floorDiv l dC dI cs L K Q H.size I J z14 z17 ⟨by omega, by omega⟩) (va_cwS 2 hts (gS pq781 pq782 pq82 pq783) rfl rfl rfl (by decide +kernel) ⟨(by rw [hR]; exact (Nat.le_of_ble_eq_true rfl)), (by rw [hR]; exact (Nat.le_of_ble_eq_true rfl))⟩) (sP_S hP hD hK hN) rfl rfl hl.1 rfl (lv_room (Nat.le_of_ble_eq_true rfl)) dX6_wayPart_18 ⟨(by rw [hR]; exact (Nat.le_of_ble_eq_true rfl)), (by rw [hR]; exact (Nat.le_of_ble_eq_true rfl))⟩) hS hP (fun z18 H locs hz18 hP hS => ?_)
    have xpz18 := hz18
    subst hR; subst hQz
    exact W.iret (v := z18) hx hb hr (fun t ht hW => ⟨⟨z18, (), rfl, ⟨(wp_bnd (n := p2.toInt) (k := p0.toInt) (by omega) bp0.1 hkn bp1 (by rw [bz14, bz12.1, bz10]) bz17 xpz18), (by unfold byI; rw [if_neg (by omega)]; exact xpz18.trans (by rw [bz14, bz12.1, bz10, bz17]))⟩, trivial⟩, hS.F ht⟩) hS.2.2 dX6_wayPart_21
  · have t1 := tq_nlt (k := (0)) (q := p2.toInt) c1 (by decide +kernel) rfl
    refine lv_iconst (v := 0) hx hb dX6_wayPart_4 (by decide +kernel) ?_
    refine lv_goto (tgt := 21) hx hb dX6_wayPart_5 (by decide) ?_
    subst hR; subst hQz
    exact W.iret (v := 0) hx hb hr (fun t ht hW => ⟨⟨0, (), rfl, ⟨⟨by decide +kernel, by decide +kernel⟩, (by unfold byI; rw [if_pos (by omega)]; decide +kernel)⟩, trivial⟩, hS.F ht⟩) hS.2.2 dX6_wayPart_21

theorem wp_bnd3 {a b d n r k : Int} (hn : 1 ≤ n) (hk : 0 ≤ k) (hkn : k ≤ n) (hd : -300 ≤ d ∧ d ≤ 300) (ha : a = 2 * k * d + n) (hb : b = 2 * n) (hr : r = a / b) : -300 ≤ r ∧ r ≤ 300 := by
  have h1 : k * d ≤ k * 300 := Int.mul_le_mul_of_nonneg_left hd.2 hk
  have h2 : k * (-300) ≤ k * d := Int.mul_le_mul_of_nonneg_left hd.1 hk
  have e : 2 * k * d = 2 * (k * d) := Int.mul_assoc 2 k d
  rw [e] at ha
  subst hr
  refine ⟨Int.le_ediv_of_mul_le (by omega) (by omega), Int.lt_add_one_iff.mp (Int.ediv_lt_of_lt_mul (by omega) (by omega))⟩
theorem wp_mul3 {x y z : Int32} {n : Int} (e : z = x * y) (hx : 0 ≤ x.toInt) (hxn : x.toInt ≤ n) (hn : n ≤ 4000000) (hy : -300 ≤ y.toInt ∧ y.toInt ≤ 300) : z.toInt = x.toInt * y.toInt ∧ -(300 * x.toInt) ≤ z.toInt ∧ z.toInt ≤ 300 * x.toInt := by
  have h1 : x.toInt * y.toInt ≤ x.toInt * 300 := Int.mul_le_mul_of_nonneg_left hy.2 hx
  have h2 : x.toInt * (-300) ≤ x.toInt * y.toInt := Int.mul_le_mul_of_nonneg_left hy.1 hx
  have := tq_mul e rfl rfl (by omega) (by omega)
  omega

set_option maxHeartbeats 4000000 in
set_option maxRecDepth 100000 in
theorem s_X6_wayPartR (l : Launch) (dC : Nat → ClassId) (dI : Nat → Nat → Nat) (cs : Nat → ClassId) (L : List Nat) (K G : Nat → Nat) (Q : Nat → Nat → Option Nat) (hQ : Sv L K G Q) (x0 m0 : Nat) (tx : GT) (tm : GT × Int) (sz : Nat) (I : Nat → Nat → Int32) (J : Nat → Nat → Int64) (hI : Iv L K x0 m0 tx tm I) (p0 : Int32) (bp0 : (0) ≤ p0.toInt ∧ p0.toInt ≤ 300) (p1 : Int32) (bp1 : (-300) ≤ p1.toInt ∧ p1.toInt ≤ 300) (p2 : Int32) (bp2 : (0) ≤ p2.toInt ∧ p2.toInt ≤ 300) (hkn : p0.toInt ≤ p2.toInt) : Met l yX6_wayPart (.code yX6_wayPart cX6_wayPart 3 (some .int) :: pw) ({ frames := 1, cells := 0, slots := 0, locals := 22 }) (sP (dC, dI) cs [.int p0, .int p1, .int p2] sz L K I J Q) (va_Qi (fun (r : Int32) (_ : Unit) => ((-300) ≤ r.toInt ∧ r.toInt ≤ 300) ∧ (r.toInt = byI p0.toInt p1.toInt p2.toInt)) (fun _ _ => True) (fun _ => False)) 0 0 (fun _ => False) := by
  refine Met.ofW (cc := cX6_wayPart) (maxL := 3) (ret := (some .int)) (by decide +kernel) rfl ?_
  intro p e s m args below meth c s₁ B hml hv
  obtain ⟨rfl, hsz, hP, hK, hD0, hN⟩ := hv
  have hx := B.exec
  have hb := B.bytes
  have hr := B.returns
  have hts := fun w (h : w ∈ pw) => atoms_spec (ws := Cond.code yX6_wayPart cX6_wayPart 3 (some .int) :: pw) B.pre w (List.mem_cons_of_mem _ h)
  have hown : s.vm.findClass RX6 = some m.cls := findClass_of_methodNamed B.named
  have hlocks := B.notSynchronized
  subst hsz
  have hBB : 999 ≤ tm.2 ∧ tm.2 ≤ 6000000 := hI.2.2.2.2.1
  have hD := hD0
  obtain ⟨H, hHe⟩ : ∃ H : Heap, H = s.heap := ⟨_, rfl⟩
  have hS : va_S (fun _ => False) s.heap H [] := by rw [hHe]; exact va_S.rf
  rw [← hHe] at hP
  have hl := lv_entry ([.int p0, .int p1, .int p2]) (n := 3) (Nat.le_of_ble_eq_true rfl)
  rw [lg_entry_eq]
  generalize (lg_sl ([.int p0, .int p1, .int p2]) ++ List.replicate (3 - (lg_sl ([.int p0, .int p1, .int p2])).length) Slot.unset).toArray = ls at hl ⊢
  have hl : lv_has ls 3 [(0, .int p0), (1, .int p1), (2, .int p2)] := hl
  rw [← hHe]
  refine namedW (fun R Qz hR hQz => ?_)
  refine lv_iload_n hx hb dX6_wayPart_0 rfl (lv_at hl 2 rfl) ?_
  refine lv_if_gt (tgt := 8) hx hb dX6_wayPart_1 (by decide) (fun c1 => ?_) (fun c1 => ?_)
  · have t1 := tq_lt (k := (0)) (q := p2.toInt) c1 (by decide +kernel) rfl
    refine lv_iconst (v := 2) hx hb dX6_wayPart_8 (by decide +kernel) ?_
    refine lv_iload_n hx hb dX6_wayPart_9 rfl (lv_at hl 0 rfl) ?_
    refine lv_imul hx hb dX6_wayPart_10 ?_
    refine lv_topi (fun z10 ez10 => ?_)
    have bz10 := tq_mul (k := (2)) (q := p0.toInt) ez10 (by decide +kernel) rfl (by omega) (by omega)
    refine lv_iload_n hx hb dX6_wayPart_11 rfl (lv_at hl 1 rfl) ?_
    refine lv_imul hx hb dX6_wayPart_12 ?_
    refine lv_topi (fun z12 ez12 => ?_)
    have bz12 := wp_mul3 ez12 (by omega) (by omega) (show (600 : Int) ≤ 4000000 by decide) bp1
    refine lv_iload_n hx hb dX6_wayPart_13 rfl (lv_at hl 2 rfl) ?_
    refine lv_iadd hx hb dX6_wayPart_14 ?_
    refine lv_topi (fun z14 ez14 => ?_)
    have bz14 := tq_add (k := z12.toInt) (q := p2.toInt) ez14 rfl rfl (by omega) (by omega)
    refine lv_iconst (v := 2) hx hb dX6_wayPart_15 (by decide +kernel) ?_
    refine lv_iload_n hx hb dX6_wayPart_16 rfl (lv_at hl 2 rfl) ?_
    refine lv_imul hx hb dX6_wayPart_17 ?_
    refine lv_topi (fun z17 ez17 => ?_)
    have bz17 := tq_mul (k := (2)) (q := p2.toInt) ez17 (by decide +kernel) rfl (by omega) (by omega)
    refine ro_i (va_runS (As := [.int z14, .int z17]) (rest := []) ⟨hx, hb, hml, hown, hts⟩ (s_J9_floorDiv l dC dI cs L K Q H.size I J z14 z17 ⟨by omega, by omega⟩) (va_cwS 2 hts (gS pq781 pq782 pq82 pq783) rfl rfl rfl (by decide +kernel) ⟨(by rw [hR]; exact (Nat.le_of_ble_eq_true rfl)), (by rw [hR]; exact (Nat.le_of_ble_eq_true rfl))⟩) (sP_S hP hD hK hN) rfl rfl hl.1 rfl (lv_room (Nat.le_of_ble_eq_true rfl)) dX6_wayPart_18 ⟨(by rw [hR]; exact (Nat.le_of_ble_eq_true rfl)), (by rw [hR]; exact (Nat.le_of_ble_eq_true rfl))⟩) hS hP (fun z18 H locs hz18 hP hS => ?_)
    have xpz18 := hz18
    subst hR; subst hQz
    exact W.iret (v := z18) hx hb hr (fun t ht hW => ⟨⟨z18, (), rfl, ⟨(wp_bnd3 (n := p2.toInt) (k := p0.toInt) (by omega) bp0.1 hkn bp1 (by rw [bz14, bz12.1, bz10]) bz17 xpz18), (by unfold byI; rw [if_neg (by omega)]; exact xpz18.trans (by rw [bz14, bz12.1, bz10, bz17]))⟩, trivial⟩, hS.F ht⟩) hS.2.2 dX6_wayPart_21
  · have t1 := tq_nlt (k := (0)) (q := p2.toInt) c1 (by decide +kernel) rfl
    refine lv_iconst (v := 0) hx hb dX6_wayPart_4 (by decide +kernel) ?_
    refine lv_goto (tgt := 21) hx hb dX6_wayPart_5 (by decide) ?_
    subst hR; subst hQz
    exact W.iret (v := 0) hx hb hr (fun t ht hW => ⟨⟨0, (), rfl, ⟨⟨by decide +kernel, by decide +kernel⟩, (by unfold byI; rw [if_pos (by omega)]; decide +kernel)⟩, trivial⟩, hS.F ht⟩) hS.2.2 dX6_wayPart_21
