abbrev cJ6_bitCount_0f7a4 : ByteArray := prog_11_method_49_code
abbrev cX5_mostIfDown : ByteArray := prog_7_method_25_code
def yJ6_bitCount_0f7a4 : MethodName := ⟨RJ6, "bitCount", "(I)I"⟩
def yX5_mostIfDown : MethodName := ⟨RX5, "mostIfDown", "(LMaskTouch$Mask;LMaskTouch$Mask;I)I"⟩
theorem dJ6_bitCount_0f7a4_0 : decode cJ6_bitCount_0f7a4 0 = .ok (.iload_n 0, 1) := by decide +kernel
theorem dJ6_bitCount_0f7a4_1 : decode cJ6_bitCount_0f7a4 1 = .ok (.iload_n 0, 1) := by decide +kernel
theorem dJ6_bitCount_0f7a4_2 : decode cJ6_bitCount_0f7a4 2 = .ok (.iconst 1, 1) := by decide +kernel
theorem dJ6_bitCount_0f7a4_3 : decode cJ6_bitCount_0f7a4 3 = .ok (.iushr, 1) := by decide +kernel
theorem dJ6_bitCount_0f7a4_4 : decode cJ6_bitCount_0f7a4 4 = .ok (.ldc_w 265, 3) := by decide +kernel
theorem dJ6_bitCount_0f7a4_7 : decode cJ6_bitCount_0f7a4 7 = .ok (.iand, 1) := by decide +kernel
theorem dJ6_bitCount_0f7a4_8 : decode cJ6_bitCount_0f7a4 8 = .ok (.isub, 1) := by decide +kernel
theorem dJ6_bitCount_0f7a4_9 : decode cJ6_bitCount_0f7a4 9 = .ok (.istore_n 0, 1) := by decide +kernel
theorem dJ6_bitCount_0f7a4_10 : decode cJ6_bitCount_0f7a4 10 = .ok (.iload_n 0, 1) := by decide +kernel
theorem dJ6_bitCount_0f7a4_11 : decode cJ6_bitCount_0f7a4 11 = .ok (.ldc_w 266, 3) := by decide +kernel
theorem dJ6_bitCount_0f7a4_14 : decode cJ6_bitCount_0f7a4 14 = .ok (.iand, 1) := by decide +kernel
theorem dJ6_bitCount_0f7a4_15 : decode cJ6_bitCount_0f7a4 15 = .ok (.iload_n 0, 1) := by decide +kernel
theorem dJ6_bitCount_0f7a4_16 : decode cJ6_bitCount_0f7a4 16 = .ok (.iconst 2, 1) := by decide +kernel
theorem dJ6_bitCount_0f7a4_17 : decode cJ6_bitCount_0f7a4 17 = .ok (.iushr, 1) := by decide +kernel
theorem dJ6_bitCount_0f7a4_18 : decode cJ6_bitCount_0f7a4 18 = .ok (.ldc_w 266, 3) := by decide +kernel
theorem dJ6_bitCount_0f7a4_21 : decode cJ6_bitCount_0f7a4 21 = .ok (.iand, 1) := by decide +kernel
theorem dJ6_bitCount_0f7a4_22 : decode cJ6_bitCount_0f7a4 22 = .ok (.iadd, 1) := by decide +kernel
theorem dJ6_bitCount_0f7a4_23 : decode cJ6_bitCount_0f7a4 23 = .ok (.istore_n 0, 1) := by decide +kernel
theorem dJ6_bitCount_0f7a4_24 : decode cJ6_bitCount_0f7a4 24 = .ok (.iload_n 0, 1) := by decide +kernel
theorem dJ6_bitCount_0f7a4_25 : decode cJ6_bitCount_0f7a4 25 = .ok (.iload_n 0, 1) := by decide +kernel
theorem dJ6_bitCount_0f7a4_26 : decode cJ6_bitCount_0f7a4 26 = .ok (.iconst 4, 1) := by decide +kernel
theorem dJ6_bitCount_0f7a4_27 : decode cJ6_bitCount_0f7a4 27 = .ok (.iushr, 1) := by decide +kernel
theorem dJ6_bitCount_0f7a4_28 : decode cJ6_bitCount_0f7a4 28 = .ok (.iadd, 1) := by decide +kernel
theorem dJ6_bitCount_0f7a4_29 : decode cJ6_bitCount_0f7a4 29 = .ok (.ldc_w 267, 3) := by decide +kernel
theorem dJ6_bitCount_0f7a4_32 : decode cJ6_bitCount_0f7a4 32 = .ok (.iand, 1) := by decide +kernel
theorem dJ6_bitCount_0f7a4_33 : decode cJ6_bitCount_0f7a4 33 = .ok (.istore_n 0, 1) := by decide +kernel
theorem dJ6_bitCount_0f7a4_34 : decode cJ6_bitCount_0f7a4 34 = .ok (.iload_n 0, 1) := by decide +kernel
theorem dJ6_bitCount_0f7a4_35 : decode cJ6_bitCount_0f7a4 35 = .ok (.iload_n 0, 1) := by decide +kernel
theorem dJ6_bitCount_0f7a4_36 : decode cJ6_bitCount_0f7a4 36 = .ok (.bipush 8, 2) := by decide +kernel
theorem dJ6_bitCount_0f7a4_38 : decode cJ6_bitCount_0f7a4 38 = .ok (.iushr, 1) := by decide +kernel
theorem dJ6_bitCount_0f7a4_39 : decode cJ6_bitCount_0f7a4 39 = .ok (.iadd, 1) := by decide +kernel
theorem dJ6_bitCount_0f7a4_40 : decode cJ6_bitCount_0f7a4 40 = .ok (.istore_n 0, 1) := by decide +kernel
theorem dJ6_bitCount_0f7a4_41 : decode cJ6_bitCount_0f7a4 41 = .ok (.iload_n 0, 1) := by decide +kernel
theorem dJ6_bitCount_0f7a4_42 : decode cJ6_bitCount_0f7a4 42 = .ok (.iload_n 0, 1) := by decide +kernel
theorem dJ6_bitCount_0f7a4_43 : decode cJ6_bitCount_0f7a4 43 = .ok (.bipush 16, 2) := by decide +kernel
theorem dJ6_bitCount_0f7a4_45 : decode cJ6_bitCount_0f7a4 45 = .ok (.iushr, 1) := by decide +kernel
theorem dJ6_bitCount_0f7a4_46 : decode cJ6_bitCount_0f7a4 46 = .ok (.iadd, 1) := by decide +kernel
theorem dJ6_bitCount_0f7a4_47 : decode cJ6_bitCount_0f7a4 47 = .ok (.istore_n 0, 1) := by decide +kernel
theorem dJ6_bitCount_0f7a4_48 : decode cJ6_bitCount_0f7a4 48 = .ok (.iload_n 0, 1) := by decide +kernel
theorem dJ6_bitCount_0f7a4_49 : decode cJ6_bitCount_0f7a4 49 = .ok (.bipush 63, 2) := by decide +kernel
theorem dJ6_bitCount_0f7a4_51 : decode cJ6_bitCount_0f7a4 51 = .ok (.iand, 1) := by decide +kernel
theorem dJ6_bitCount_0f7a4_52 : decode cJ6_bitCount_0f7a4 52 = .ok (.ireturn, 1) := by decide +kernel
theorem dX5_mostIfDown_0 : decode cX5_mostIfDown 0 = .ok (.iconst 0, 1) := by decide +kernel
theorem dX5_mostIfDown_1 : decode cX5_mostIfDown 1 = .ok (.istore_n 3, 1) := by decide +kernel
theorem dX5_mostIfDown_2 : decode cX5_mostIfDown 2 = .ok (.aload_n 0, 1) := by decide +kernel
theorem dX5_mostIfDown_3 : decode cX5_mostIfDown 3 = .ok (.getfield 92, 3) := by decide +kernel
theorem dX5_mostIfDown_6 : decode cX5_mostIfDown 6 = .ok (.aload_n 1, 1) := by decide +kernel
theorem dX5_mostIfDown_7 : decode cX5_mostIfDown 7 = .ok (.getfield 92, 3) := by decide +kernel
theorem dX5_mostIfDown_10 : decode cX5_mostIfDown 10 = .ok (.iload_n 2, 1) := by decide +kernel
theorem dX5_mostIfDown_11 : decode cX5_mostIfDown 11 = .ok (.iadd, 1) := by decide +kernel
theorem dX5_mostIfDown_12 : decode cX5_mostIfDown 12 = .ok (.invokestatic 147, 3) := by decide +kernel
theorem dX5_mostIfDown_15 : decode cX5_mostIfDown 15 = .ok (.istore 4, 2) := by decide +kernel
theorem dX5_mostIfDown_17 : decode cX5_mostIfDown 17 = .ok (.aload_n 0, 1) := by decide +kernel
theorem dX5_mostIfDown_18 : decode cX5_mostIfDown 18 = .ok (.getfield 89, 3) := by decide +kernel
theorem dX5_mostIfDown_21 : decode cX5_mostIfDown 21 = .ok (.aload_n 1, 1) := by decide +kernel
theorem dX5_mostIfDown_22 : decode cX5_mostIfDown 22 = .ok (.getfield 89, 3) := by decide +kernel
theorem dX5_mostIfDown_25 : decode cX5_mostIfDown 25 = .ok (.iload_n 2, 1) := by decide +kernel
theorem dX5_mostIfDown_26 : decode cX5_mostIfDown 26 = .ok (.iadd, 1) := by decide +kernel
theorem dX5_mostIfDown_27 : decode cX5_mostIfDown 27 = .ok (.invokestatic 150, 3) := by decide +kernel
theorem dX5_mostIfDown_30 : decode cX5_mostIfDown 30 = .ok (.istore 5, 2) := by decide +kernel
theorem dX5_mostIfDown_32 : decode cX5_mostIfDown 32 = .ok (.iload 5, 2) := by decide +kernel
theorem dX5_mostIfDown_34 : decode cX5_mostIfDown 34 = .ok (.iload 4, 2) := by decide +kernel
theorem dX5_mostIfDown_36 : decode cX5_mostIfDown 36 = .ok (.if_icmp .gt 29, 3) := by decide +kernel
theorem dX5_mostIfDown_39 : decode cX5_mostIfDown 39 = .ok (.iload_n 3, 1) := by decide +kernel
theorem dX5_mostIfDown_40 : decode cX5_mostIfDown 40 = .ok (.aload_n 0, 1) := by decide +kernel
theorem dX5_mostIfDown_41 : decode cX5_mostIfDown 41 = .ok (.iload 5, 2) := by decide +kernel
theorem dX5_mostIfDown_43 : decode cX5_mostIfDown 43 = .ok (.invokevirtual 187, 3) := by decide +kernel
theorem dX5_mostIfDown_46 : decode cX5_mostIfDown 46 = .ok (.aload_n 1, 1) := by decide +kernel
theorem dX5_mostIfDown_47 : decode cX5_mostIfDown 47 = .ok (.iload 5, 2) := by decide +kernel
theorem dX5_mostIfDown_49 : decode cX5_mostIfDown 49 = .ok (.iload_n 2, 1) := by decide +kernel
theorem dX5_mostIfDown_50 : decode cX5_mostIfDown 50 = .ok (.isub, 1) := by decide +kernel
theorem dX5_mostIfDown_51 : decode cX5_mostIfDown 51 = .ok (.invokevirtual 187, 3) := by decide +kernel
theorem dX5_mostIfDown_54 : decode cX5_mostIfDown 54 = .ok (.invokestatic 147, 3) := by decide +kernel
theorem dX5_mostIfDown_57 : decode cX5_mostIfDown 57 = .ok (.iadd, 1) := by decide +kernel
theorem dX5_mostIfDown_58 : decode cX5_mostIfDown 58 = .ok (.istore_n 3, 1) := by decide +kernel
theorem dX5_mostIfDown_59 : decode cX5_mostIfDown 59 = .ok (.iinc 5 1, 3) := by decide +kernel
theorem dX5_mostIfDown_62 : decode cX5_mostIfDown 62 = .ok (.goto (-30), 3) := by decide +kernel
theorem dX5_mostIfDown_65 : decode cX5_mostIfDown 65 = .ok (.iload_n 3, 1) := by decide +kernel
theorem dX5_mostIfDown_66 : decode cX5_mostIfDown 66 = .ok (.ireturn, 1) := by decide +kernel
set_option maxRecDepth 100000 in
theorem pq806 : Cond.constant RJ6 265 (1431655765) ∈ pw := pw_mem (i := 806) (by decide +kernel) rfl
set_option maxRecDepth 100000 in
theorem pq807 : Cond.constant RJ6 266 (858993459) ∈ pw := pw_mem (i := 807) (by decide +kernel) rfl
set_option maxRecDepth 100000 in
theorem pq808 : Cond.constant RJ6 267 (252645135) ∈ pw := pw_mem (i := 808) (by decide +kernel) rfl
set_option maxRecDepth 100000 in
theorem pq1060 : Cond.methodLink RX5 187 yX3_dotsOfRow ∈ pw := pw_mem (i := 1060) (by decide +kernel) rfl
set_option maxHeartbeats 4000000 in
set_option maxRecDepth 100000 in
theorem s_J6_bitCount (l : Launch) (dC : Nat → ClassId) (dI : Nat → Nat → Nat) (cs : Nat → ClassId) (L : List Nat) (K : Nat → Nat) (Q : Nat → Nat → Option Nat) (sz : Nat) (I : Nat → Nat → Int32) (J : Nat → Nat → Int64) (p0 : Int32) : Met l yJ6_bitCount_0f7a4 (.code yJ6_bitCount_0f7a4 cJ6_bitCount_0f7a4 1 (some .int) :: pw) ({ frames := 0, cells := 0, slots := 0, locals := 0 }) (sP (dC, dI) cs [.int p0] sz L K I J Q) (va_Qi (fun (r : Int32) (_ : Unit) => (r = bc32 p0)) (fun _ _ => True) (fun _ => False)) 0 0 (fun _ => False) := by
  refine va_MetF (l := l) (cc := cJ6_bitCount_0f7a4) (maxL := 1) (ret := (some .int)) (by decide +kernel) rfl ?_
  intro p e s m args below meth c s₁ B hml hv
  obtain ⟨rfl, hsz, hP, hK, hD0, hN⟩ := hv
  have hx := B.exec
  have hb := B.bytes
  have hr := B.returns
  have hts := fun w (h : w ∈ pw) => atoms_spec (ws := Cond.code yJ6_bitCount_0f7a4 cJ6_bitCount_0f7a4 1 (some .int) :: pw) B.pre w (List.mem_cons_of_mem _ h)
  have hown : s.vm.findClass RJ6 = some m.cls := findClass_of_methodNamed B.named
  have hlocks := B.notSynchronized
  subst hsz
  have hD := hD0
  obtain ⟨H, hHe⟩ : ∃ H : Heap, H = s.heap := ⟨_, rfl⟩
  have hS : va_S (fun _ => False) s.heap H [] := by rw [hHe]; exact va_S.rf
  rw [← hHe] at hP
  have hl := lv_entry ([.int p0]) (n := 1) (Nat.le_of_ble_eq_true rfl)
  rw [lg_entry_eq]
  generalize (lg_sl ([.int p0]) ++ List.replicate (1 - (lg_sl ([.int p0])).length) Slot.unset).toArray = ls at hl ⊢
  have hl : lv_has ls 1 [(0, .int p0)] := hl
  rw [← hHe]
  refine namedW (fun R Qz hR hQz => ?_)
  refine lv_iload_n hx hb dJ6_bitCount_0f7a4_0 rfl (lv_at hl 0 rfl) ?_
  refine lv_iload_n hx hb dJ6_bitCount_0f7a4_1 rfl (lv_at hl 0 rfl) ?_
  refine lv_iconst (v := 1) hx hb dJ6_bitCount_0f7a4_2 (by decide +kernel) ?_
  refine lv_iushr hx hb dJ6_bitCount_0f7a4_3 rfl ?_
  refine lv_topi (fun z3 ez3 => ?_)
  refine lv_ldcw hx hb hown (hts _ pq806) dJ6_bitCount_0f7a4_4 ?_
  refine lv_iand hx hb dJ6_bitCount_0f7a4_7 ?_
  refine lv_topi (fun z7 ez7 => ?_)
  refine lv_isub hx hb dJ6_bitCount_0f7a4_8 ?_
  refine lv_topi (fun z8 ez8 => ?_)
  refine lv_istore_n (lv' := [(0, .int z8)]) hx hb dJ6_bitCount_0f7a4_9 rfl hl (by decide) rfl (fun ls hl => ?_)
  refine lv_iload_n hx hb dJ6_bitCount_0f7a4_10 rfl (lv_at hl 0 rfl) ?_
  refine lv_ldcw hx hb hown (hts _ pq807) dJ6_bitCount_0f7a4_11 ?_
  refine lv_iand hx hb dJ6_bitCount_0f7a4_14 ?_
  refine lv_topi (fun z14 ez14 => ?_)
  refine lv_iload_n hx hb dJ6_bitCount_0f7a4_15 rfl (lv_at hl 0 rfl) ?_
  refine lv_iconst (v := 2) hx hb dJ6_bitCount_0f7a4_16 (by decide +kernel) ?_
  refine lv_iushr hx hb dJ6_bitCount_0f7a4_17 rfl ?_
  refine lv_topi (fun z17 ez17 => ?_)
  refine lv_ldcw hx hb hown (hts _ pq807) dJ6_bitCount_0f7a4_18 ?_
  refine lv_iand hx hb dJ6_bitCount_0f7a4_21 ?_
  refine lv_topi (fun z21 ez21 => ?_)
  refine lv_iadd hx hb dJ6_bitCount_0f7a4_22 ?_
  refine lv_topi (fun z22 ez22 => ?_)
  refine lv_istore_n (lv' := [(0, .int z22)]) hx hb dJ6_bitCount_0f7a4_23 rfl hl (by decide) rfl (fun ls hl => ?_)
  refine lv_iload_n hx hb dJ6_bitCount_0f7a4_24 rfl (lv_at hl 0 rfl) ?_
  refine lv_iload_n hx hb dJ6_bitCount_0f7a4_25 rfl (lv_at hl 0 rfl) ?_
  refine lv_iconst (v := 4) hx hb dJ6_bitCount_0f7a4_26 (by decide +kernel) ?_
  refine lv_iushr hx hb dJ6_bitCount_0f7a4_27 rfl ?_
  refine lv_topi (fun z27 ez27 => ?_)
  refine lv_iadd hx hb dJ6_bitCount_0f7a4_28 ?_
  refine lv_topi (fun z28 ez28 => ?_)
  refine lv_ldcw hx hb hown (hts _ pq808) dJ6_bitCount_0f7a4_29 ?_
  refine lv_iand hx hb dJ6_bitCount_0f7a4_32 ?_
  refine lv_topi (fun z32 ez32 => ?_)
  refine lv_istore_n (lv' := [(0, .int z32)]) hx hb dJ6_bitCount_0f7a4_33 rfl hl (by decide) rfl (fun ls hl => ?_)
  refine lv_iload_n hx hb dJ6_bitCount_0f7a4_34 rfl (lv_at hl 0 rfl) ?_
  refine lv_iload_n hx hb dJ6_bitCount_0f7a4_35 rfl (lv_at hl 0 rfl) ?_
  refine lv_bipush (v := 8) hx hb dJ6_bitCount_0f7a4_36 (by decide +kernel) ?_
  refine lv_iushr hx hb dJ6_bitCount_0f7a4_38 rfl ?_
  refine lv_topi (fun z38 ez38 => ?_)
  refine lv_iadd hx hb dJ6_bitCount_0f7a4_39 ?_
  refine lv_topi (fun z39 ez39 => ?_)
  refine lv_istore_n (lv' := [(0, .int z39)]) hx hb dJ6_bitCount_0f7a4_40 rfl hl (by decide) rfl (fun ls hl => ?_)
  refine lv_iload_n hx hb dJ6_bitCount_0f7a4_41 rfl (lv_at hl 0 rfl) ?_
  refine lv_iload_n hx hb dJ6_bitCount_0f7a4_42 rfl (lv_at hl 0 rfl) ?_
  refine lv_bipush (v := 16) hx hb dJ6_bitCount_0f7a4_43 (by decide +kernel) ?_
  refine lv_iushr hx hb dJ6_bitCount_0f7a4_45 rfl ?_
  refine lv_topi (fun z45 ez45 => ?_)
  refine lv_iadd hx hb dJ6_bitCount_0f7a4_46 ?_
  refine lv_topi (fun z46 ez46 => ?_)
  refine lv_istore_n (lv' := [(0, .int z46)]) hx hb dJ6_bitCount_0f7a4_47 rfl hl (by decide) rfl (fun ls hl => ?_)
  refine lv_iload_n hx hb dJ6_bitCount_0f7a4_48 rfl (lv_at hl 0 rfl) ?_
  refine lv_bipush (v := 63) hx hb dJ6_bitCount_0f7a4_49 (by decide +kernel) ?_
  refine lv_iand hx hb dJ6_bitCount_0f7a4_51 ?_
  refine lv_topi (fun z51 ez51 => ?_)
  have bz51 := tq_and 6 ez51 (by decide +kernel) (by decide)
  subst hR; subst hQz
  exact W.iret (v := z51) hx hb hr (fun t ht hW => ⟨⟨z51, (), rfl, (by subst ez3; subst ez7; subst ez8; subst ez14; subst ez17; subst ez21; subst ez22; subst ez27; subst ez28; subst ez32; subst ez38; subst ez39; subst ez45; subst ez46; subst ez51; rfl), trivial⟩, hS.F ht⟩) hS.2.2 dJ6_bitCount_0f7a4_52

set_option maxHeartbeats 4000000 in
set_option maxRecDepth 100000 in
theorem s_X5_mostIfDown (l : Launch) (dC : Nat → ClassId) (dI : Nat → Nat → Nat) (cs : Nat → ClassId) (L : List Nat) (K G : Nat → Nat) (Q : Nat → Nat → Option Nat) (hQ : Sv L K G Q) (x0 m0 : Nat) (tx : GT) (tm : GT × Int) (sz : Nat) (I : Nat → Nat → Int32) (J : Nat → Nat → Int64) (hI : Iv L K x0 m0 tx tm I) (p0 : Nat) (hLp0 : p0 ∈ L) (hKp0 : K p0 = 3) (p1 : Nat) (hLp1 : p1 ∈ L) (hKp1 : K p1 = 3) (p2 : Int32) (bp2 : (-300) ≤ p2.toInt ∧ p2.toInt ≤ 300) : Met l yX5_mostIfDown (.code yX5_mostIfDown cX5_mostIfDown 6 (some .int) :: pw) ({ frames := 2, cells := 0, slots := 0, locals := 42 }) (sP (dC, dI) cs [.ref p0, .ref p1, .int p2] sz L K I J Q) (va_Qi (fun (r : Int32) (_ : Unit) => True) (fun _ _ => True) (fun _ => False)) 0 0 (fun _ => False) := by
  refine Met.ofW (cc := cX5_mostIfDown) (maxL := 6) (ret := (some .int)) (by decide +kernel) rfl ?_
  intro p e s m args below meth c s₁ B hml hv
  obtain ⟨rfl, hsz, hP, hK, hD0, hN⟩ := hv
  have hx := B.exec
  have hb := B.bytes
  have hr := B.returns
  have hts := fun w (h : w ∈ pw) => atoms_spec (ws := Cond.code yX5_mostIfDown cX5_mostIfDown 6 (some .int) :: pw) B.pre w (List.mem_cons_of_mem _ h)
  have hown : s.vm.findClass RX5 = some m.cls := findClass_of_methodNamed B.named
  have hlocks := B.notSynchronized
  subst hsz
  have hBB : 999 ≤ tm.2 ∧ tm.2 ≤ 6000000 := hI.2.2.2.2.1
  have hD := hD0
  obtain ⟨H, hHe⟩ : ∃ H : Heap, H = s.heap := ⟨_, rfl⟩
  have hS : va_S (fun _ => False) s.heap H [] := by rw [hHe]; exact va_S.rf
  rw [← hHe] at hP
  have hl := lv_entry ([.ref p0, .ref p1, .int p2]) (n := 6) (Nat.le_of_ble_eq_true rfl)
  rw [lg_entry_eq]
  generalize (lg_sl ([.ref p0, .ref p1, .int p2]) ++ List.replicate (6 - (lg_sl ([.ref p0, .ref p1, .int p2])).length) Slot.unset).toArray = ls at hl ⊢
  have hl : lv_has ls 6 [(0, .ref p0), (1, .ref p1), (2, .int p2)] := hl
  rw [← hHe]
  refine namedW (fun R Qz hR hQz => ?_)
  refine lv_iconst (v := 0) hx hb dX5_mostIfDown_0 (by decide +kernel) ?_
  refine lv_istore_n (lv' := [(3, .int 0), (0, .ref p0), (1, .ref p1), (2, .int p2)]) hx hb dX5_mostIfDown_1 rfl hl (by decide) rfl (fun ls hl => ?_)
  refine lv_aload_n hx hb dX5_mostIfDown_2 rfl (lv_at hl 1 rfl) ?_
  refine p_get hx hb hts inX3 hown hK hP hLp0 hKp0 rfl rfl 7 (by decide) (hts _ pq142) rfl dX5_mostIfDown_3 ?_
  refine lv_topi (fun z3 ez3 => ?_)
  have bz3 := oI_3_7 (Iv_at hI hLp0 hKp0)
  rw [← ez3] at bz3
  refine lv_aload_n hx hb dX5_mostIfDown_6 rfl (lv_at hl 2 rfl) ?_
  refine p_get hx hb hts inX3 hown hK hP hLp1 hKp1 rfl rfl 7 (by decide) (hts _ pq142) rfl dX5_mostIfDown_7 ?_
  refine lv_topi (fun z7 ez7 => ?_)
  have bz7 := oI_3_7 (Iv_at hI hLp1 hKp1)
  rw [← ez7] at bz7
  refine lv_iload_n hx hb dX5_mostIfDown_10 rfl (lv_at hl 3 rfl) ?_
  refine lv_iadd hx hb dX5_mostIfDown_11 ?_
  refine lv_topi (fun z11 ez11 => ?_)
  have bz11 := tq_add (k := z7.toInt) (q := p2.toInt) ez11 rfl rfl (by omega) (by omega)
  refine va_mmin hx hb (hml.trans hl.1.symm) hown (hts _ pq764) (hts _ pq407) (hts _ pq82) (hts _ pq408) (by rw [hR]; exact (Nat.le_of_ble_eq_true rfl)) (by rw [hR]; exact (Nat.le_of_ble_eq_true rfl)) (by rw [hR]; exact (Nat.le_of_ble_eq_true rfl)) (by rw [hR]; exact (Nat.le_of_ble_eq_true rfl)) dX5_mostIfDown_12 ?_
  refine lv_topi (fun z12 ez12 => ?_)
  have bz12 := tq_min ez12
  refine lv_istore (lv' := [(4, .int z12), (3, .int 0), (0, .ref p0), (1, .ref p1), (2, .int p2)]) hx hb dX5_mostIfDown_15 hl (by decide) rfl (fun ls hl => ?_)
  refine lv_aload_n hx hb dX5_mostIfDown_17 rfl (lv_at hl 2 rfl) ?_
  refine p_get hx hb hts inX3 hown hK hP hLp0 hKp0 rfl rfl 5 (by decide) (hts _ pq136) rfl dX5_mostIfDown_18 ?_
  refine lv_topi (fun z18 ez18 => ?_)
  have bz18 := oI_3_5 (Iv_at hI hLp0 hKp0)
  rw [← ez18] at bz18
  refine lv_aload_n hx hb dX5_mostIfDown_21 rfl (lv_at hl 3 rfl) ?_
  refine p_get hx hb hts inX3 hown hK hP hLp1 hKp1 rfl rfl 5 (by decide) (hts _ pq136) rfl dX5_mostIfDown_22 ?_
  refine lv_topi (fun z22 ez22 => ?_)
  have bz22 := oI_3_5 (Iv_at hI hLp1 hKp1)
  rw [← ez22] at bz22
  refine lv_iload_n hx hb dX5_mostIfDown_25 rfl (lv_at hl 4 rfl) ?_
  refine lv_iadd hx hb dX5_mostIfDown_26 ?_
  refine lv_topi (fun z26 ez26 => ?_)
  have bz26 := tq_add (k := z22.toInt) (q := p2.toInt) ez26 rfl rfl (by omega) (by omega)
  refine va_mmax hx hb (hml.trans hl.1.symm) hown (hts _ pq765) (hts _ pq750) (hts _ pq82) (hts _ pq751) (by rw [hR]; exact (Nat.le_of_ble_eq_true rfl)) (by rw [hR]; exact (Nat.le_of_ble_eq_true rfl)) (by rw [hR]; exact (Nat.le_of_ble_eq_true rfl)) (by rw [hR]; exact (Nat.le_of_ble_eq_true rfl)) dX5_mostIfDown_27 ?_
  refine lv_topi (fun z27 ez27 => ?_)
  have bz27 := tq_max ez27
  refine lv_istore (lv' := [(5, .int z27), (4, .int z12), (3, .int 0), (0, .ref p0), (1, .ref p1), (2, .int p2)]) hx hb dX5_mostIfDown_30 hl (by decide) rfl (fun ls hl => ?_)
  have key32 := blocks (fun n => ∀ (v32_3 : Int32) (v32_5 : Int32) (H : Heap) (lo : List Loc) (ls : Array Slot), (340 - v32_5.toInt).toNat = n → ((-1) ≤ v32_5.toInt ∧ v32_5.toInt ≤ 339) → va_P (dC, dI) vwCl (Wd cs L K I J Q) H → va_S (fun _ => False) s.heap H lo → lv_has ls 6 [(0, .ref p0), (1, .ref p1), (2, .int p2), (3, .int v32_3), (4, .int z12), (5, .int v32_5)] → W p l e R s m (([.ref p0, .ref p1, .int p2] : List Value).toArray) below meth c H lo 0 0 Qz (F0 m 32 ls [])) (by
    intro n ih32
    intro v32_3 v32_5 H lo ls hmu32 bv32_5 hP hS hl
    refine lv_iload hx hb dX5_mostIfDown_32 (lv_at hl 5 rfl) ?_
    refine lv_iload hx hb dX5_mostIfDown_34 (lv_at hl 4 rfl) ?_
    refine lv_icmp_gt (tgt := 65) hx hb dX5_mostIfDown_36 (by decide) (fun c36 => ?_) (fun c36 => ?_)
    · have t36 := tq_lt (k := z12.toInt) (q := v32_5.toInt) c36 rfl rfl
      refine lv_iload_n hx hb dX5_mostIfDown_65 rfl (lv_at hl 3 rfl) ?_
      subst hR; subst hQz
      exact W.iret (v := v32_3) hx hb hr (fun t ht hW => ⟨⟨v32_3, (), rfl, trivial, trivial⟩, hS.F ht⟩) hS.2.2 dX5_mostIfDown_66
    · have t36 := tq_nlt (k := z12.toInt) (q := v32_5.toInt) c36 rfl rfl
      refine lv_iload_n hx hb dX5_mostIfDown_39 rfl (lv_at hl 3 rfl) ?_
      refine lv_aload_n hx hb dX5_mostIfDown_40 rfl (lv_at hl 0 rfl) ?_
      refine lv_iload hx hb dX5_mostIfDown_41 (lv_at hl 5 rfl) ?_
      refine ro_i (va_runV (As := [.int v32_5]) (rest := [.int v32_3]) ⟨hx, hb, hml, hown, hts⟩ (s_X3_dotsOfRow l dC dI cs L K G Q hQ x0 m0 tx tm H.size I J hI p0 hLp0 hKp0 v32_5) (cwV 1 hts (gV pq1060 pq938 pq939 pq76 pq940) rfl rfl rfl (by decide +kernel) ⟨(by rw [hR]; exact (Nat.le_of_ble_eq_true rfl)), (by rw [hR]; exact (Nat.le_of_ble_eq_true rfl))⟩) (sP_V hP hD hK hN hLp0 hKp0 rfl rfl) rfl rfl hl.1 rfl (lv_room (Nat.le_of_ble_eq_true rfl)) dX5_mostIfDown_43 ⟨(by rw [hR]; exact (Nat.le_of_ble_eq_true rfl)), (by rw [hR]; exact (Nat.le_of_ble_eq_true rfl))⟩) hS hP (fun z43 H locs hz43 hP hS => ?_)
      have bz43 := hz43
      refine lv_aload_n hx hb dX5_mostIfDown_46 rfl (lv_at hl 1 rfl) ?_
      refine lv_iload hx hb dX5_mostIfDown_47 (lv_at hl 5 rfl) ?_
      refine lv_iload_n hx hb dX5_mostIfDown_49 rfl (lv_at hl 2 rfl) ?_
      refine lv_isub hx hb dX5_mostIfDown_50 ?_
      refine lv_topi (fun z50 ez50 => ?_)
      have bz50 := tq_sub (k := v32_5.toInt) (q := p2.toInt) ez50 rfl rfl (by omega) (by omega)
      refine ro_i (va_runV (As := [.int z50]) (rest := [.int z43, .int v32_3]) ⟨hx, hb, hml, hown, hts⟩ (s_X3_dotsOfRow l dC dI cs L K G Q hQ x0 m0 tx tm H.size I J hI p1 hLp1 hKp1 z50) (cwV 1 hts (gV pq1060 pq938 pq939 pq76 pq940) rfl rfl rfl (by decide +kernel) ⟨(by rw [hR]; exact (Nat.le_of_ble_eq_true rfl)), (by rw [hR]; exact (Nat.le_of_ble_eq_true rfl))⟩) (sP_V hP hD hK hN hLp1 hKp1 rfl rfl) rfl rfl hl.1 rfl (lv_room (Nat.le_of_ble_eq_true rfl)) dX5_mostIfDown_51 ⟨(by rw [hR]; exact (Nat.le_of_ble_eq_true rfl)), (by rw [hR]; exact (Nat.le_of_ble_eq_true rfl))⟩) hS hP (fun z51 H locs hz51 hP hS => ?_)
      have bz51 := hz51
      refine va_mmin hx hb (hml.trans hl.1.symm) hown (hts _ pq764) (hts _ pq407) (hts _ pq82) (hts _ pq408) (by rw [hR]; exact (Nat.le_of_ble_eq_true rfl)) (by rw [hR]; exact (Nat.le_of_ble_eq_true rfl)) (by rw [hR]; exact (Nat.le_of_ble_eq_true rfl)) (by rw [hR]; exact (Nat.le_of_ble_eq_true rfl)) dX5_mostIfDown_54 ?_
      refine lv_topi (fun z54 ez54 => ?_)
      have bz54 := tq_min ez54
      refine lv_iadd hx hb dX5_mostIfDown_57 ?_
      refine lv_topi (fun z57 ez57 => ?_)
      refine lv_istore_n (lv' := [(3, .int z57), (0, .ref p0), (1, .ref p1), (2, .int p2), (4, .int z12), (5, .int v32_5)]) hx hb dX5_mostIfDown_58 rfl hl (by decide) rfl (fun ls hl => ?_)
      obtain ⟨z59, ez59⟩ : ∃ y : Int32, y = v32_5 + 1 := ⟨_, rfl⟩
      refine lv_iinc (v := z59) (lv' := [(5, .int z59), (3, .int z57), (0, .ref p0), (1, .ref p1), (2, .int p2), (4, .int z12)]) hx hb dX5_mostIfDown_59 hl (k := 5) rfl (by rw [ez59]; rfl) (by decide) rfl (fun ls hl => ?_)
      have bz59 := tq_add (k := v32_5.toInt) (q := 1) ez59 rfl (by decide +kernel) (by omega) (by omega)
      refine lv_goto (tgt := 32) hx hb dX5_mostIfDown_62 (by decide) ?_
      exact ih32 _ (by omega) z57 z59 _ _ _ rfl ⟨by omega, by omega⟩ hP hS (lv_sub hl [2, 3, 4, 1, 5, 0] rfl))
  exact key32 _ 0 z27 _ _ _ rfl ⟨by omega, by omega⟩ hP hS (lv_sub hl [3, 4, 5, 2, 1, 0] rfl)
