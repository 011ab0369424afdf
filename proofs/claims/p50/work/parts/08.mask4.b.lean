abbrev cX3_boxPlaces : ByteArray := prog_5_method_23_code
def yX3_boxPlaces : MethodName := ⟨RX3, "boxPlaces", "(LMaskTouch$Mask;LMaskTouch$Mask;II)I"⟩
theorem dX3_boxPlaces_0 : decode cX3_boxPlaces 0 = .ok (.aload_n 0, 1) := by decide +kernel
theorem dX3_boxPlaces_1 : decode cX3_boxPlaces 1 = .ok (.getfield 57, 3) := by decide +kernel
theorem dX3_boxPlaces_4 : decode cX3_boxPlaces 4 = .ok (.aload_n 1, 1) := by decide +kernel
theorem dX3_boxPlaces_5 : decode cX3_boxPlaces 5 = .ok (.getfield 57, 3) := by decide +kernel
theorem dX3_boxPlaces_8 : decode cX3_boxPlaces 8 = .ok (.iload_n 2, 1) := by decide +kernel
theorem dX3_boxPlaces_9 : decode cX3_boxPlaces 9 = .ok (.iadd, 1) := by decide +kernel
theorem dX3_boxPlaces_10 : decode cX3_boxPlaces 10 = .ok (.invokestatic 106, 3) := by decide +kernel
theorem dX3_boxPlaces_13 : decode cX3_boxPlaces 13 = .ok (.aload_n 0, 1) := by decide +kernel
theorem dX3_boxPlaces_14 : decode cX3_boxPlaces 14 = .ok (.getfield 51, 3) := by decide +kernel
theorem dX3_boxPlaces_17 : decode cX3_boxPlaces 17 = .ok (.aload_n 1, 1) := by decide +kernel
theorem dX3_boxPlaces_18 : decode cX3_boxPlaces 18 = .ok (.getfield 51, 3) := by decide +kernel
theorem dX3_boxPlaces_21 : decode cX3_boxPlaces 21 = .ok (.iload_n 2, 1) := by decide +kernel
theorem dX3_boxPlaces_22 : decode cX3_boxPlaces 22 = .ok (.iadd, 1) := by decide +kernel
theorem dX3_boxPlaces_23 : decode cX3_boxPlaces 23 = .ok (.invokestatic 112, 3) := by decide +kernel
theorem dX3_boxPlaces_26 : decode cX3_boxPlaces 26 = .ok (.isub, 1) := by decide +kernel
theorem dX3_boxPlaces_27 : decode cX3_boxPlaces 27 = .ok (.iconst 1, 1) := by decide +kernel
theorem dX3_boxPlaces_28 : decode cX3_boxPlaces 28 = .ok (.iadd, 1) := by decide +kernel
theorem dX3_boxPlaces_29 : decode cX3_boxPlaces 29 = .ok (.aload_n 0, 1) := by decide +kernel
theorem dX3_boxPlaces_30 : decode cX3_boxPlaces 30 = .ok (.getfield 38, 3) := by decide +kernel
theorem dX3_boxPlaces_33 : decode cX3_boxPlaces 33 = .ok (.aload_n 1, 1) := by decide +kernel
theorem dX3_boxPlaces_34 : decode cX3_boxPlaces 34 = .ok (.getfield 38, 3) := by decide +kernel
theorem dX3_boxPlaces_37 : decode cX3_boxPlaces 37 = .ok (.iload_n 3, 1) := by decide +kernel
theorem dX3_boxPlaces_38 : decode cX3_boxPlaces 38 = .ok (.iadd, 1) := by decide +kernel
theorem dX3_boxPlaces_39 : decode cX3_boxPlaces 39 = .ok (.invokestatic 106, 3) := by decide +kernel
theorem dX3_boxPlaces_42 : decode cX3_boxPlaces 42 = .ok (.aload_n 0, 1) := by decide +kernel
theorem dX3_boxPlaces_43 : decode cX3_boxPlaces 43 = .ok (.getfield 35, 3) := by decide +kernel
theorem dX3_boxPlaces_46 : decode cX3_boxPlaces 46 = .ok (.aload_n 1, 1) := by decide +kernel
theorem dX3_boxPlaces_47 : decode cX3_boxPlaces 47 = .ok (.getfield 35, 3) := by decide +kernel
theorem dX3_boxPlaces_50 : decode cX3_boxPlaces 50 = .ok (.iload_n 3, 1) := by decide +kernel
theorem dX3_boxPlaces_51 : decode cX3_boxPlaces 51 = .ok (.iadd, 1) := by decide +kernel
theorem dX3_boxPlaces_52 : decode cX3_boxPlaces 52 = .ok (.invokestatic 112, 3) := by decide +kernel
theorem dX3_boxPlaces_55 : decode cX3_boxPlaces 55 = .ok (.isub, 1) := by decide +kernel
theorem dX3_boxPlaces_56 : decode cX3_boxPlaces 56 = .ok (.iconst 1, 1) := by decide +kernel
theorem dX3_boxPlaces_57 : decode cX3_boxPlaces 57 = .ok (.iadd, 1) := by decide +kernel
theorem dX3_boxPlaces_58 : decode cX3_boxPlaces 58 = .ok (.imul, 1) := by decide +kernel
theorem dX3_boxPlaces_59 : decode cX3_boxPlaces 59 = .ok (.ireturn, 1) := by decide +kernel
set_option maxHeartbeats 4000000 in
set_option maxRecDepth 100000 in
theorem s_X3_boxPlaces (l : Launch) (dC : Nat → ClassId) (dI : Nat → Nat → Nat) (cs : Nat → ClassId) (L : List Nat) (K G : Nat → Nat) (Q : Nat → Nat → Option Nat) (hQ : Sv L K G Q) (x0 m0 : Nat) (tx : GT) (tm : GT × Int) (sz : Nat) (I : Nat → Nat → Int32) (J : Nat → Nat → Int64) (hI : Iv L K x0 m0 tx tm I) (p0 : Nat) (hLp0 : p0 ∈ L) (hKp0 : K p0 = 3) (p1 : Nat) (hLp1 : p1 ∈ L) (hKp1 : K p1 = 3) (p2 : Int32) (p3 : Int32) : Met l yX3_boxPlaces (.code yX3_boxPlaces cX3_boxPlaces 4 (some .int) :: pw) ({ frames := 1, cells := 0, slots := 0, locals := 15 }) (sP (dC, dI) cs [.ref p0, .ref p1, .int p2, .int p3] sz L K I J Q) (va_Qi (fun (r : Int32) (_ : Unit) => (((-1000 ≤ p2.toInt ∧ p2.toInt ≤ 1000) ∧ -1000 ≤ p3.toInt ∧ p3.toInt ≤ 1000) → mko Q I J p0 → mko Q I J p1 → ¬ (I p0 3).toInt = 0 → ¬ (I p1 3).toInt = 0 → (((I p0 4).toInt ≤ (I p1 6).toInt + p2.toInt ∧ (I p1 4).toInt + p2.toInt ≤ (I p0 6).toInt) ∧ (I p0 5).toInt ≤ (I p1 7).toInt + p3.toInt ∧ (I p1 5).toInt + p3.toInt ≤ (I p0 7).toInt) → cmN (J (wo Q p0)) (J (wo Q p1)) p2.toInt p3.toInt ≤ r.toInt)) (fun _ _ => True) (fun _ => False)) 0 0 (fun _ => False) := by
  refine Met.ofW (cc := cX3_boxPlaces) (maxL := 4) (ret := (some .int)) (by decide +kernel) rfl ?_
  intro p e s m args below meth c s₁ B hml hv
  obtain ⟨rfl, hsz, hP, hK, hD0, hN⟩ := hv
  have hx := B.exec
  have hb := B.bytes
  have hr := B.returns
  have hts := fun w (h : w ∈ pw) => atoms_spec (ws := Cond.code yX3_boxPlaces cX3_boxPlaces 4 (some .int) :: pw) B.pre w (List.mem_cons_of_mem _ h)
  have hown : s.vm.findClass RX3 = some m.cls := findClass_of_methodNamed B.named
  have hlocks := B.notSynchronized
  subst hsz
  have hBB : 999 ≤ tm.2 ∧ tm.2 ≤ 6000000 := hI.2.2.2.2.1
  have hD := hD0
  obtain ⟨H, hHe⟩ : ∃ H : Heap, H = s.heap := ⟨_, rfl⟩
  have hS : va_S (fun _ => False) s.heap H [] := by rw [hHe]; exact va_S.rf
  rw [← hHe] at hP
  have hl := lv_entry ([.ref p0, .ref p1, .int p2, .int p3]) (n := 4) (Nat.le_of_ble_eq_true rfl)
  rw [lg_entry_eq]
  generalize (lg_sl ([.ref p0, .ref p1, .int p2, .int p3]) ++ List.replicate (4 - (lg_sl ([.ref p0, .ref p1, .int p2, .int p3])).length) Slot.unset).toArray = ls at hl ⊢
  have hl : lv_has ls 4 [(0, .ref p0), (1, .ref p1), (2, .int p2), (3, .int p3)] := hl
  rw [← hHe]
  refine namedW (fun R Qz hR hQz => ?_)
  refine lv_aload_n hx hb dX3_boxPlaces_0 rfl (lv_at hl 0 rfl) ?_
  refine p_get hx hb hts inX3 hown hK hP hLp0 hKp0 rfl rfl 6 (by decide) (hts _ pq140) rfl dX3_boxPlaces_1 ?_
  refine lv_topi (fun z1 ez1 => ?_)
  have bz1 := oI_3_6 (Iv_at hI hLp0 hKp0)
  rw [← ez1] at bz1
  refine lv_aload_n hx hb dX3_boxPlaces_4 rfl (lv_at hl 1 rfl) ?_
  refine p_get hx hb hts inX3 hown hK hP hLp1 hKp1 rfl rfl 6 (by decide) (hts _ pq140) rfl dX3_boxPlaces_5 ?_
  refine lv_topi (fun z5 ez5 => ?_)
  have bz5 := oI_3_6 (Iv_at hI hLp1 hKp1)
  rw [← ez5] at bz5
  refine lv_iload_n hx hb dX3_boxPlaces_8 rfl (lv_at hl 2 rfl) ?_
  refine lv_iadd hx hb dX3_boxPlaces_9 ?_
  refine lv_topi (fun z9 ez9 => ?_)
  refine va_mmin hx hb (hml.trans hl.1.symm) hown (hts _ pq776) (hts _ pq407) (hts _ pq82) (hts _ pq408) (by rw [hR]; exact (Nat.le_of_ble_eq_true rfl)) (by rw [hR]; exact (Nat.le_of_ble_eq_true rfl)) (by rw [hR]; exact (Nat.le_of_ble_eq_true rfl)) (by rw [hR]; exact (Nat.le_of_ble_eq_true rfl)) dX3_boxPlaces_10 ?_
  refine lv_topi (fun z10 ez10 => ?_)
  have bz10 := tq_min ez10
  refine lv_aload_n hx hb dX3_boxPlaces_13 rfl (lv_at hl 0 rfl) ?_
  refine p_get hx hb hts inX3 hown hK hP hLp0 hKp0 rfl rfl 4 (by decide) (hts _ pq134) rfl dX3_boxPlaces_14 ?_
  refine lv_topi (fun z14 ez14 => ?_)
  have bz14 := oI_3_4 (Iv_at hI hLp0 hKp0)
  rw [← ez14] at bz14
  refine lv_aload_n hx hb dX3_boxPlaces_17 rfl (lv_at hl 1 rfl) ?_
  refine p_get hx hb hts inX3 hown hK hP hLp1 hKp1 rfl rfl 4 (by decide) (hts _ pq134) rfl dX3_boxPlaces_18 ?_
  refine lv_topi (fun z18 ez18 => ?_)
  have bz18 := oI_3_4 (Iv_at hI hLp1 hKp1)
  rw [← ez18] at bz18
  refine lv_iload_n hx hb dX3_boxPlaces_21 rfl (lv_at hl 2 rfl) ?_
  refine lv_iadd hx hb dX3_boxPlaces_22 ?_
  refine lv_topi (fun z22 ez22 => ?_)
  refine va_mmax hx hb (hml.trans hl.1.symm) hown (hts _ pq777) (hts _ pq750) (hts _ pq82) (hts _ pq751) (by rw [hR]; exact (Nat.le_of_ble_eq_true rfl)) (by rw [hR]; exact (Nat.le_of_ble_eq_true rfl)) (by rw [hR]; exact (Nat.le_of_ble_eq_true rfl)) (by rw [hR]; exact (Nat.le_of_ble_eq_true rfl)) dX3_boxPlaces_23 ?_
  refine lv_topi (fun z23 ez23 => ?_)
  have bz23 := tq_max ez23
  refine lv_isub hx hb dX3_boxPlaces_26 ?_
  refine lv_topi (fun z26 ez26 => ?_)
  refine lv_iconst (v := 1) hx hb dX3_boxPlaces_27 (by decide +kernel) ?_
  refine lv_iadd hx hb dX3_boxPlaces_28 ?_
  refine lv_topi (fun z28 ez28 => ?_)
  refine lv_aload_n hx hb dX3_boxPlaces_29 rfl (lv_at hl 0 rfl) ?_
  refine p_get hx hb hts inX3 hown hK hP hLp0 hKp0 rfl rfl 7 (by decide) (hts _ pq143) rfl dX3_boxPlaces_30 ?_
  refine lv_topi (fun z30 ez30 => ?_)
  have bz30 := oI_3_7 (Iv_at hI hLp0 hKp0)
  rw [← ez30] at bz30
  refine lv_aload_n hx hb dX3_boxPlaces_33 rfl (lv_at hl 1 rfl) ?_
  refine p_get hx hb hts inX3 hown hK hP hLp1 hKp1 rfl rfl 7 (by decide) (hts _ pq143) rfl dX3_boxPlaces_34 ?_
  refine lv_topi (fun z34 ez34 => ?_)
  have bz34 := oI_3_7 (Iv_at hI hLp1 hKp1)
  rw [← ez34] at bz34
  refine lv_iload_n hx hb dX3_boxPlaces_37 rfl (lv_at hl 3 rfl) ?_
  refine lv_iadd hx hb dX3_boxPlaces_38 ?_
  refine lv_topi (fun z38 ez38 => ?_)
  refine va_mmin hx hb (hml.trans hl.1.symm) hown (hts _ pq776) (hts _ pq407) (hts _ pq82) (hts _ pq408) (by rw [hR]; exact (Nat.le_of_ble_eq_true rfl)) (by rw [hR]; exact (Nat.le_of_ble_eq_true rfl)) (by rw [hR]; exact (Nat.le_of_ble_eq_true rfl)) (by rw [hR]; exact (Nat.le_of_ble_eq_true rfl)) dX3_boxPlaces_39 ?_
  refine lv_topi (fun z39 ez39 => ?_)
  have bz39 := tq_min ez39
  refine lv_aload_n hx hb dX3_boxPlaces_42 rfl (lv_at hl 0 rfl) ?_
  refine p_get hx hb hts inX3 hown hK hP hLp0 hKp0 rfl rfl 5 (by decide) (hts _ pq137) rfl dX3_boxPlaces_43 ?_
  refine lv_topi (fun z43 ez43 => ?_)
  have bz43 := oI_3_5 (Iv_at hI hLp0 hKp0)
  rw [← ez43] at bz43
  refine lv_aload_n hx hb dX3_boxPlaces_46 rfl (lv_at hl 1 rfl) ?_
  refine p_get hx hb hts inX3 hown hK hP hLp1 hKp1 rfl rfl 5 (by decide) (hts _ pq137) rfl dX3_boxPlaces_47 ?_
  refine lv_topi (fun z47 ez47 => ?_)
  have bz47 := oI_3_5 (Iv_at hI hLp1 hKp1)
  rw [← ez47] at bz47
  refine lv_iload_n hx hb dX3_boxPlaces_50 rfl (lv_at hl 3 rfl) ?_
  refine lv_iadd hx hb dX3_boxPlaces_51 ?_
  refine lv_topi (fun z51 ez51 => ?_)
  refine va_mmax hx hb (hml.trans hl.1.symm) hown (hts _ pq777) (hts _ pq750) (hts _ pq82) (hts _ pq751) (by rw [hR]; exact (Nat.le_of_ble_eq_true rfl)) (by rw [hR]; exact (Nat.le_of_ble_eq_true rfl)) (by rw [hR]; exact (Nat.le_of_ble_eq_true rfl)) (by rw [hR]; exact (Nat.le_of_ble_eq_true rfl)) dX3_boxPlaces_52 ?_
  refine lv_topi (fun z52 ez52 => ?_)
  have bz52 := tq_max ez52
  refine lv_isub hx hb dX3_boxPlaces_55 ?_
  refine lv_topi (fun z55 ez55 => ?_)
  refine lv_iconst (v := 1) hx hb dX3_boxPlaces_56 (by decide +kernel) ?_
  refine lv_iadd hx hb dX3_boxPlaces_57 ?_
  refine lv_topi (fun z57 ez57 => ?_)
  refine lv_imul hx hb dX3_boxPlaces_58 ?_
  refine lv_topi (fun z58 ez58 => ?_)
  subst hR; subst hQz
  exact W.iret (v := z58) hx hb hr (fun t ht hW => ⟨⟨z58, (), rfl, (fun bd ma mb na nb_ ov => by obtain ⟨⟨ov1, ov2⟩, ov3, ov4⟩ := ov; obtain ⟨⟨_, q1⟩, ⟨_, q2⟩, -⟩ := ma.2.2.1 na; obtain ⟨⟨_, q3⟩, ⟨_, q4⟩, -⟩ := mb.2.2.1 nb_; have q1 := msr_pos ma.2 q1; have q2 := msr_pos ma.2 q2; have q3 := msr_pos mb.2 q3; have q4 := msr_pos mb.2 q4; obtain ⟨⟨bd1, bd2⟩, bd3, bd4⟩ := bd; have e1 : z1.toInt = (I p0 6).toInt := congrArg Int32.toInt ez1; have e5 : z5.toInt = (I p1 6).toInt := congrArg Int32.toInt ez5; have e14 : z14.toInt = (I p0 4).toInt := congrArg Int32.toInt ez14; have e18 : z18.toInt = (I p1 4).toInt := congrArg Int32.toInt ez18; have e30 : z30.toInt = (I p0 7).toInt := congrArg Int32.toInt ez30; have e34 : z34.toInt = (I p1 7).toInt := congrArg Int32.toInt ez34; have e43 : z43.toInt = (I p0 5).toInt := congrArg Int32.toInt ez43; have e47 : z47.toInt = (I p1 5).toInt := congrArg Int32.toInt ez47; have a9 := tq_add (k := z5.toInt) (q := p2.toInt) ez9 rfl rfl (by omega) (by omega); have a22 := tq_add (k := z18.toInt) (q := p2.toInt) ez22 rfl rfl (by omega) (by omega); have a26 := tq_sub (k := z10.toInt) (q := z23.toInt) ez26 rfl rfl (by omega) (by omega); have a28 := tq_add (k := z26.toInt) (q := 1) ez28 rfl (by decide +kernel) (by omega) (by omega); have a38 := tq_add (k := z34.toInt) (q := p3.toInt) ez38 rfl rfl (by omega) (by omega); have a51 := tq_add (k := z47.toInt) (q := p3.toInt) ez51 rfl rfl (by omega) (by omega); have a55 := tq_sub (k := z39.toInt) (q := z52.toInt) ez55 rfl rfl (by omega) (by omega); have a57 := tq_add (k := z55.toInt) (q := 1) ez57 rfl (by decide +kernel) (by omega) (by omega); have n1 := Int.mul_nonneg (show 0 ≤ z28.toInt by omega) (show 0 ≤ z57.toInt by omega); have n2 : z28.toInt * z57.toInt ≤ z28.toInt * 1000 := Int.mul_le_mul_of_nonneg_left (by omega) (by omega); have am := tq_mul (k := z28.toInt) (q := z57.toInt) ez58 rfl rfl (by omega) (by omega); rw [am]; exact cm_box ma.2 mb.2 (by omega) (by omega) (by omega) (by omega)), trivial⟩, hS.F ht⟩) hS.2.2 dX3_boxPlaces_59
