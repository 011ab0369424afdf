abbrev cX4_readField : ByteArray := prog_6_method_2_code
def yX4_readField : MethodName := ⟨RX4, "readField", "(ILMaskTouch$Field;)I"⟩
theorem dX4_readField_0 : decode cX4_readField 0 = .ok (.aload_n 0, 1) := by decide +kernel
theorem dX4_readField_1 : decode cX4_readField 1 = .ok (.iload_n 1, 1) := by decide +kernel
theorem dX4_readField_2 : decode cX4_readField 2 = .ok (.aload_n 0, 1) := by decide +kernel
theorem dX4_readField_3 : decode cX4_readField 3 = .ok (.getfield 27, 3) := by decide +kernel
theorem dX4_readField_6 : decode cX4_readField 6 = .ok (.arraylength, 1) := by decide +kernel
theorem dX4_readField_7 : decode cX4_readField 7 = .ok (.invokestatic 31, 3) := by decide +kernel
theorem dX4_readField_10 : decode cX4_readField 10 = .ok (.putfield 9, 3) := by decide +kernel
theorem dX4_readField_13 : decode cX4_readField 13 = .ok (.aload_n 0, 1) := by decide +kernel
theorem dX4_readField_14 : decode cX4_readField 14 = .ok (.iconst 0, 1) := by decide +kernel
theorem dX4_readField_15 : decode cX4_readField 15 = .ok (.putfield 15, 3) := by decide +kernel
theorem dX4_readField_18 : decode cX4_readField 18 = .ok (.aload_n 0, 1) := by decide +kernel
theorem dX4_readField_19 : decode cX4_readField 19 = .ok (.iconst 0, 1) := by decide +kernel
theorem dX4_readField_20 : decode cX4_readField 20 = .ok (.putfield 24, 3) := by decide +kernel
theorem dX4_readField_23 : decode cX4_readField 23 = .ok (.aload_n 2, 1) := by decide +kernel
theorem dX4_readField_24 : decode cX4_readField 24 = .ok (.invokevirtual 37, 3) := by decide +kernel
theorem dX4_readField_27 : decode cX4_readField 27 = .ok (.aload_n 0, 1) := by decide +kernel
theorem dX4_readField_28 : decode cX4_readField 28 = .ok (.invokevirtual 42, 3) := by decide +kernel
theorem dX4_readField_31 : decode cX4_readField 31 = .ok (.ifCond .eq 8, 3) := by decide +kernel
theorem dX4_readField_34 : decode cX4_readField 34 = .ok (.aload_n 0, 1) := by decide +kernel
theorem dX4_readField_35 : decode cX4_readField 35 = .ok (.getfield 24, 3) := by decide +kernel
theorem dX4_readField_38 : decode cX4_readField 38 = .ok (.ireturn, 1) := by decide +kernel
theorem dX4_readField_39 : decode cX4_readField 39 = .ok (.iconst 0, 1) := by decide +kernel
theorem dX4_readField_40 : decode cX4_readField 40 = .ok (.istore_n 3, 1) := by decide +kernel
theorem dX4_readField_41 : decode cX4_readField 41 = .ok (.iload_n 3, 1) := by decide +kernel
theorem dX4_readField_42 : decode cX4_readField 42 = .ok (.aload_n 0, 1) := by decide +kernel
theorem dX4_readField_43 : decode cX4_readField 43 = .ok (.getfield 9, 3) := by decide +kernel
theorem dX4_readField_46 : decode cX4_readField 46 = .ok (.if_icmp .ge 99, 3) := by decide +kernel
theorem dX4_readField_49 : decode cX4_readField 49 = .ok (.aload_n 0, 1) := by decide +kernel
theorem dX4_readField_50 : decode cX4_readField 50 = .ok (.invokevirtual 46, 3) := by decide +kernel
theorem dX4_readField_53 : decode cX4_readField 53 = .ok (.aload_n 0, 1) := by decide +kernel
theorem dX4_readField_54 : decode cX4_readField 54 = .ok (.ldc 49, 2) := by decide +kernel
theorem dX4_readField_56 : decode cX4_readField 56 = .ok (.invokevirtual 51, 3) := by decide +kernel
theorem dX4_readField_59 : decode cX4_readField 59 = .ok (.ifCond .eq 11, 3) := by decide +kernel
theorem dX4_readField_62 : decode cX4_readField 62 = .ok (.aload_n 0, 1) := by decide +kernel
theorem dX4_readField_63 : decode cX4_readField 63 = .ok (.aload_n 2, 1) := by decide +kernel
theorem dX4_readField_64 : decode cX4_readField 64 = .ok (.invokevirtual 55, 3) := by decide +kernel
theorem dX4_readField_67 : decode cX4_readField 67 = .ok (.goto 29, 3) := by decide +kernel
theorem dX4_readField_70 : decode cX4_readField 70 = .ok (.aload_n 0, 1) := by decide +kernel
theorem dX4_readField_71 : decode cX4_readField 71 = .ok (.ldc 59, 2) := by decide +kernel
theorem dX4_readField_73 : decode cX4_readField 73 = .ok (.invokevirtual 51, 3) := by decide +kernel
theorem dX4_readField_76 : decode cX4_readField 76 = .ok (.ifCond .eq 11, 3) := by decide +kernel
theorem dX4_readField_79 : decode cX4_readField 79 = .ok (.aload_n 0, 1) := by decide +kernel
theorem dX4_readField_80 : decode cX4_readField 80 = .ok (.aload_n 2, 1) := by decide +kernel
theorem dX4_readField_81 : decode cX4_readField 81 = .ok (.invokevirtual 61, 3) := by decide +kernel
theorem dX4_readField_84 : decode cX4_readField 84 = .ok (.goto 12, 3) := by decide +kernel
theorem dX4_readField_87 : decode cX4_readField 87 = .ok (.aload_n 0, 1) := by decide +kernel
theorem dX4_readField_88 : decode cX4_readField 88 = .ok (.aload_n 0, 1) := by decide +kernel
theorem dX4_readField_89 : decode cX4_readField 89 = .ok (.getfield 15, 3) := by decide +kernel
theorem dX4_readField_92 : decode cX4_readField 92 = .ok (.iconst 1, 1) := by decide +kernel
theorem dX4_readField_93 : decode cX4_readField 93 = .ok (.invokevirtual 64, 3) := by decide +kernel
theorem dX4_readField_96 : decode cX4_readField 96 = .ok (.istore 4, 2) := by decide +kernel
theorem dX4_readField_98 : decode cX4_readField 98 = .ok (.iload 4, 2) := by decide +kernel
theorem dX4_readField_100 : decode cX4_readField 100 = .ok (.ifCond .eq 10, 3) := by decide +kernel
theorem dX4_readField_103 : decode cX4_readField 103 = .ok (.aload_n 0, 1) := by decide +kernel
theorem dX4_readField_104 : decode cX4_readField 104 = .ok (.invokevirtual 42, 3) := by decide +kernel
theorem dX4_readField_107 : decode cX4_readField 107 = .ok (.ifCond .eq 8, 3) := by decide +kernel
theorem dX4_readField_110 : decode cX4_readField 110 = .ok (.aload_n 0, 1) := by decide +kernel
theorem dX4_readField_111 : decode cX4_readField 111 = .ok (.getfield 24, 3) := by decide +kernel
theorem dX4_readField_114 : decode cX4_readField 114 = .ok (.ireturn, 1) := by decide +kernel
theorem dX4_readField_115 : decode cX4_readField 115 = .ok (.aload_n 0, 1) := by decide +kernel
theorem dX4_readField_116 : decode cX4_readField 116 = .ok (.bipush 59, 2) := by decide +kernel
theorem dX4_readField_118 : decode cX4_readField 118 = .ok (.invokevirtual 68, 3) := by decide +kernel
theorem dX4_readField_121 : decode cX4_readField 121 = .ok (.ifCond .ne 18, 3) := by decide +kernel
theorem dX4_readField_124 : decode cX4_readField 124 = .ok (.aload_n 0, 1) := by decide +kernel
theorem dX4_readField_125 : decode cX4_readField 125 = .ok (.aload_n 0, 1) := by decide +kernel
theorem dX4_readField_126 : decode cX4_readField 126 = .ok (.getfield 15, 3) := by decide +kernel
theorem dX4_readField_129 : decode cX4_readField 129 = .ok (.iconst 1, 1) := by decide +kernel
theorem dX4_readField_130 : decode cX4_readField 130 = .ok (.invokevirtual 64, 3) := by decide +kernel
theorem dX4_readField_133 : decode cX4_readField 133 = .ok (.pop, 1) := by decide +kernel
theorem dX4_readField_134 : decode cX4_readField 134 = .ok (.aload_n 0, 1) := by decide +kernel
theorem dX4_readField_135 : decode cX4_readField 135 = .ok (.getfield 24, 3) := by decide +kernel
theorem dX4_readField_138 : decode cX4_readField 138 = .ok (.ireturn, 1) := by decide +kernel
theorem dX4_readField_139 : decode cX4_readField 139 = .ok (.iinc 3 1, 3) := by decide +kernel
theorem dX4_readField_142 : decode cX4_readField 142 = .ok (.goto (-101), 3) := by decide +kernel
theorem dX4_readField_145 : decode cX4_readField 145 = .ok (.aload_n 0, 1) := by decide +kernel
theorem dX4_readField_146 : decode cX4_readField 146 = .ok (.getfield 24, 3) := by decide +kernel
theorem dX4_readField_149 : decode cX4_readField 149 = .ok (.ireturn, 1) := by decide +kernel
set_option maxRecDepth 100000 in
theorem pq409 : Cond.methodLink RX4 37 yX1_clear ∈ pw := pw_mem (i := 409) (by decide +kernel) rfl
set_option maxRecDepth 100000 in
theorem pq410 : Cond.instanceMethod yX1_clear ∈ pw := pw_mem (i := 410) (by decide +kernel) rfl
set_option maxRecDepth 100000 in
theorem pq411 : Cond.selects RX1 yX1_clear yX1_clear ∈ pw := pw_mem (i := 411) (by decide +kernel) rfl
set_option maxRecDepth 100000 in
theorem pq412 : Cond.code yX1_clear cX1_clear 1 none ∈ pw := pw_mem (i := 412) (by rfl) rfl
set_option maxRecDepth 100000 in
theorem pq413 : Cond.methodLink RX4 42 yX4_isAtEnd ∈ pw := pw_mem (i := 413) (by decide +kernel) rfl
set_option maxRecDepth 100000 in
theorem pq414 : Cond.instanceMethod yX4_isAtEnd ∈ pw := pw_mem (i := 414) (by decide +kernel) rfl
set_option maxRecDepth 100000 in
theorem pq415 : Cond.selects RX4 yX4_isAtEnd yX4_isAtEnd ∈ pw := pw_mem (i := 415) (by decide +kernel) rfl
set_option maxRecDepth 100000 in
theorem pq416 : Cond.code yX4_isAtEnd cX4_isAtEnd 1 (some .boolean) ∈ pw := pw_mem (i := 416) (by rfl) rfl
set_option maxRecDepth 100000 in
theorem pq474 : Cond.methodLink RX4 55 yX4_readMask ∈ pw := pw_mem (i := 474) (by decide +kernel) rfl
set_option maxRecDepth 100000 in
theorem pq475 : Cond.instanceMethod yX4_readMask ∈ pw := pw_mem (i := 475) (by decide +kernel) rfl
set_option maxRecDepth 100000 in
theorem pq476 : Cond.selects RX4 yX4_readMask yX4_readMask ∈ pw := pw_mem (i := 476) (by decide +kernel) rfl
set_option maxRecDepth 100000 in
theorem pq477 : Cond.code yX4_readMask cX4_readMask 4 (some .boolean) ∈ pw := pw_mem (i := 477) (by rfl) rfl
set_option maxRecDepth 100000 in
theorem pq558 : Cond.methodLink RX4 61 yX4_readBody ∈ pw := pw_mem (i := 558) (by decide +kernel) rfl
set_option maxRecDepth 100000 in
theorem pq559 : Cond.instanceMethod yX4_readBody ∈ pw := pw_mem (i := 559) (by decide +kernel) rfl
set_option maxRecDepth 100000 in
theorem pq560 : Cond.selects RX4 yX4_readBody yX4_readBody ∈ pw := pw_mem (i := 560) (by decide +kernel) rfl
set_option maxRecDepth 100000 in
theorem pq561 : Cond.code yX4_readBody cX4_readBody 5 (some .boolean) ∈ pw := pw_mem (i := 561) (by rfl) rfl
set_option maxHeartbeats 4000000 in
set_option maxRecDepth 100000 in
theorem s_X4_readField (l : Launch) (dC : Nat → ClassId) (dI : Nat → Nat → Nat) (cs : Nat → ClassId) (L : List Nat) (K G : Nat → Nat) (Q : Nat → Nat → Option Nat) (hQ : Sv L K G Q) (x0 m0 : Nat) (tx : GT) (tm : GT × Int) (sz : Nat) (I : Nat → Nat → Int32) (J : Nat → Nat → Int64) (hI : Iv L K x0 m0 tx tm I) (p0 : Nat) (hLp0 : p0 ∈ L) (hKp0 : K p0 = 4) (p1 : Int32) (bp1 : (0) ≤ p1.toInt ∧ p1.toInt ≤ 400) (p2 : Nat) (hLp2 : p2 ∈ L) (hKp2 : K p2 = 1) : Met l yX4_readField (.code yX4_readField cX4_readField 5 (some .int) :: pw) ({ frames := 7, cells := 0, slots := 0, locals := 153 }) (sPX (dC, dI) cs [.ref p0, .int p1, .ref p2] sz L K I J Q (fun q => q ∈ L ∨ sz ≤ q) (fun A U H => xS A U H)) (va_Qi (fun (r : Int32) (u : Int32) => u = r ∧ ((0) ≤ r.toInt ∧ r.toInt ≤ 9000)) (fun u t => sB (dC, dI) cs L K Q (fun I1 => Iv L K x0 m0 tx tm I1 ∧ (∀ b, ¬ (K b = 0 ∨ K b = 3 ∨ K b = 4 ∨ b = p2) → I1 b = I b) ∧ ((u.toInt = 0 → tellR (tb tx.2.2 p1.toInt) = (I1 p2 3).toInt) ∧ (¬ u.toInt = 0 → tellR (tb tx.2.2 p1.toInt) = -2 - u.toInt))) t) (fun q => q ∈ L ∨ sz ≤ q)) 0 0 (fun q => q ∈ L ∨ sz ≤ q) := by
  refine Met.ofW (cc := cX4_readField) (maxL := 5) (ret := (some .int)) (by decide +kernel) rfl ?_
  intro p e s m args below meth c s₁ B hml hv
  obtain ⟨rfl, ⟨hsz, hP, hK, hD0, hN⟩, hXs⟩ := hv
  have hx := B.exec
  have hb := B.bytes
  have hr := B.returns
  have hts := fun w (h : w ∈ pw) => atoms_spec (ws := Cond.code yX4_readField cX4_readField 5 (some .int) :: pw) B.pre w (List.mem_cons_of_mem _ h)
  have hown : s.vm.findClass RX4 = some m.cls := findClass_of_methodNamed B.named
  have hlocks := B.notSynchronized
  subst hsz
  have hBB : 999 ≤ tm.2 ∧ tm.2 ≤ 6000000 := hI.2.2.2.2.1
  have fr_I : ∀ b, ¬ (K b = 0 ∨ K b = 3 ∨ K b = 4 ∨ b = p2) → I b = I b := fun _ _ => rfl
  obtain ⟨A, hAe⟩ : ∃ A : Nat → Prop, A = (fun q => q ∈ L ∨ s.heap.size ≤ q) := ⟨_, rfl⟩
  rw [← hAe]
  have hAL : ∀ q, q ∈ L → A q := fun q h => by rw [hAe]; exact Or.inl h
  have hA : ∀ q, s.heap.size ≤ q → A q := fun q h => by rw [hAe]; exact Or.inr h
  have hD : ∀ F, va_D A (va_pl L F) := fun F => (hD0 F).weaken (fun k q hk _ => hAL _ (pl_mem hk))
  rw [← hAe] at hXs
  have hxx := hXs
  have hxt := hxx.1
  obtain ⟨H, hHe⟩ : ∃ H : Heap, H = s.heap := ⟨_, rfl⟩
  have hS : va_S A s.heap H [] := by rw [hHe]; exact va_S.rf
  rw [← hHe] at hP
  have hl := lv_entry ([.ref p0, .int p1, .ref p2]) (n := 5) (Nat.le_of_ble_eq_true rfl)
  rw [lg_entry_eq]
  generalize (lg_sl ([.ref p0, .int p1, .ref p2]) ++ List.replicate (5 - (lg_sl ([.ref p0, .int p1, .ref p2])).length) Slot.unset).toArray = ls at hl ⊢
  have hl : lv_has ls 5 [(0, .ref p0), (1, .int p1), (2, .ref p2)] := hl
  rw [← hHe]
  refine namedW (fun R Qz hR hQz => ?_)
  refine lv_aload_n hx hb dX4_readField_0 rfl (lv_at hl 0 rfl) ?_
  refine lv_iload_n hx hb dX4_readField_1 rfl (lv_at hl 1 rfl) ?_
  refine lv_aload_n hx hb dX4_readField_2 rfl (lv_at hl 0 rfl) ?_
  obtain ⟨y3, ey3, hLy3, hKy3⟩ := oQ_4_0 (Sv_at hQ hLp0 hKp0)
  refine p_get (v := .ref y3) hx hb hts inX4 hown hK hP hLp0 hKp0 rfl rfl 0 (by decide) (hts _ pq247) (congrArg (fun q => some (va_rf q)) ey3) dX4_readField_3 ?_
  refine p_alen (v := 400) hx hb hK hP 0 hLy3 hKy3 rfl rfl rfl dX4_readField_6 ?_
  refine va_mmin hx hb (hml.trans hl.1.symm) hown (hts _ pq406) (hts _ pq407) (hts _ pq82) (hts _ pq408) (by rw [hR]; exact (Nat.le_of_ble_eq_true rfl)) (by rw [hR]; exact (Nat.le_of_ble_eq_true rfl)) (by rw [hR]; exact (Nat.le_of_ble_eq_true rfl)) (by rw [hR]; exact (Nat.le_of_ble_eq_true rfl)) dX4_readField_7 ?_
  refine lv_topi (fun z7 ez7 => ?_)
  have bz7 := tq_min ez7
  have bz7y : (400 : Int32).toInt = 400 := by decide +kernel
  refine p_put hx hb hts inX4 tyX4 tyX4_ok nmX4 hown hK hP hD hS hLp0 hKp0 rfl rfl 1 (by decide) (hts _ pq248) rfl (by decide +kernel) (Nat.le_of_ble_eq_true rfl) (oS_4_1 cs _ _ _ _) dX4_readField_10 (fun H locs hP hS => ?_)
  obtain ⟨Iz10, hP, hIz10, qIz10⟩ : ∃ Iz10, va_P (dC, dI) vwCl (Wd cs L K Iz10 J Q) H ∧ Iv L K x0 m0 tx tm Iz10 ∧ Iz10 = va_up I p0 (upd (I p0) 1 z7) := ⟨_, hP, Iv_put hI hKp0 (oP_4_1 (Iv_at hI hLp0 hKp0) ⟨by omega, by omega⟩) (by decide) (by decide), rfl⟩
  have fr_Iz10 : ∀ b, ¬ (K b = 0 ∨ K b = 3 ∨ K b = 4 ∨ b = p2) → Iz10 b = I b := fun b q => (congrFun qIz10 b).trans ((va_up_ne _ _ (fun z => q (by rw [z]; have := hKp0; omega))).trans (fr_I b q))
  refine lv_aload_n hx hb dX4_readField_13 rfl (lv_at hl 0 rfl) ?_
  refine lv_iconst (v := 0) hx hb dX4_readField_14 (by decide +kernel) ?_
  refine p_put hx hb hts inX4 tyX4 tyX4_ok nmX4 hown hK hP hD hS hLp0 hKp0 rfl rfl 2 (by decide) (hts _ pq249) rfl (by decide +kernel) (Nat.le_of_ble_eq_true rfl) (oS_4_2 cs _ _ _ _) dX4_readField_15 (fun H locs hP hS => ?_)
  obtain ⟨Iz15, hP, hIz15, qIz15⟩ : ∃ Iz15, va_P (dC, dI) vwCl (Wd cs L K Iz15 J Q) H ∧ Iv L K x0 m0 tx tm Iz15 ∧ Iz15 = va_up Iz10 p0 (upd (Iz10 p0) 2 (0 : Int32)) := ⟨_, hP, Iv_put hIz10 hKp0 (oP_4_2 (Iv_at hIz10 hLp0 hKp0) ⟨by decide +kernel, by decide +kernel⟩) (by decide) (by decide), rfl⟩
  have fr_Iz15 : ∀ b, ¬ (K b = 0 ∨ K b = 3 ∨ K b = 4 ∨ b = p2) → Iz15 b = I b := fun b q => (congrFun qIz15 b).trans ((va_up_ne _ _ (fun z => q (by rw [z]; have := hKp0; omega))).trans (fr_Iz10 b q))
  refine lv_aload_n hx hb dX4_readField_18 rfl (lv_at hl 0 rfl) ?_
  refine lv_iconst (v := 0) hx hb dX4_readField_19 (by decide +kernel) ?_
  refine p_put hx hb hts inX4 tyX4 tyX4_ok nmX4 hown hK hP hD hS hLp0 hKp0 rfl rfl 5 (by decide) (hts _ pq252) rfl (by decide +kernel) (Nat.le_of_ble_eq_true rfl) (oS_4_5 cs _ _ _ _) dX4_readField_20 (fun H locs hP hS => ?_)
  obtain ⟨Iz20, hP, hIz20, qIz20⟩ : ∃ Iz20, va_P (dC, dI) vwCl (Wd cs L K Iz20 J Q) H ∧ Iv L K x0 m0 tx tm Iz20 ∧ Iz20 = va_up Iz15 p0 (upd (Iz15 p0) 5 (0 : Int32)) := ⟨_, hP, Iv_put hIz15 hKp0 (oP_4_5 (Iv_at hIz15 hLp0 hKp0) ⟨by decide +kernel, by decide +kernel⟩) (by decide) (by decide), rfl⟩
  have fr_Iz20 : ∀ b, ¬ (K b = 0 ∨ K b = 3 ∨ K b = 4 ∨ b = p2) → Iz20 b = I b := fun b q => (congrFun qIz20 b).trans ((va_up_ne _ _ (fun z => q (by rw [z]; have := hKp0; omega))).trans (fr_Iz15 b q))
  refine lv_aload_n hx hb dX4_readField_23 rfl (lv_at hl 2 rfl) ?_
  refine sw_v (Z := (fun I1 => Iv L K x0 m0 tx tm I1 ∧ (∀ b, ¬ (b = p2) → I1 b = Iz20 b) ∧ ((I1 p2 2).toInt = 0 ∧ (I1 p2 3).toInt = 0))) (va_runV (As := []) (rest := []) ⟨hx, hb, hml, hown, hts⟩ (s_X1_clear l dC dI cs L K G Q hQ x0 m0 tx tm H.size Iz20 J hIz20 p2 hLp2 hKp2) (cwV 0 hts (gV pq409 pq410 pq411 pq75 pq412) rfl rfl rfl (by decide +kernel) ⟨(by rw [hR]; exact (Nat.le_of_ble_eq_true rfl)), (by rw [hR]; exact (Nat.le_of_ble_eq_true rfl))⟩) (sP_V hP hD hK hN hLp2 hKp2 rfl rfl) rfl rfl hl.1 rfl (lv_room (Nat.le_of_ble_eq_true rfl)) dX4_readField_24 ⟨(by rw [hR]; exact (Nat.le_of_ble_eq_true rfl)), (by rw [hR]; exact (Nat.le_of_ble_eq_true rfl))⟩) hS hAL hA (fun Iz24 Jz24 H locs hz24 hIz24 hP hS => ?_)
  obtain ⟨hIz24, frc24, fz24⟩ := hIz24
  have fr_Iz24 : ∀ b, ¬ (K b = 0 ∨ K b = 3 ∨ K b = 4 ∨ b = p2) → Iz24 b = I b := fun b q => (frc24 b (fun z => q (by rw [z]; have := hKp2; omega))).trans (fr_Iz20 b q)
  refine lv_aload_n hx hb dX4_readField_27 rfl (lv_at hl 0 rfl) ?_
  refine sw_ir (Z := (fun u => (fun I1 => Iv L K x0 m0 tx tm I1 ∧ (∀ b, ¬ (b = p0) → I1 b = Iz24 b) ∧ (rdA Iz24 I1 p0 (sk (tb tx.2.2 (Iz24 p0 1).toInt) (Iz24 p0 2).toInt) ∧ (u.toInt = 1 → (tb tx.2.2 (Iz24 p0 1).toInt) (sk (tb tx.2.2 (Iz24 p0 1).toInt) (Iz24 p0 2).toInt) = -1000) ∧ (u.toInt = 0 → (sk (tb tx.2.2 (Iz24 p0 1).toInt) (Iz24 p0 2).toInt) < (Iz24 p0 1).toInt))))) (va_runV (As := []) (rest := []) ⟨hx, hb, hml, hown, hts⟩ (s_X4_isAtEnd l dC dI cs L K G Q hQ x0 m0 tx tm H.size Iz24 Jz24 hIz24 p0 hLp0 hKp0) (cwV 0 hts (gV pq413 pq414 pq415 pq78 pq416) rfl rfl rfl (by decide +kernel) ⟨(by rw [hR]; exact (Nat.le_of_ble_eq_true rfl)), (by rw [hR]; exact (Nat.le_of_ble_eq_true rfl))⟩) (sP_V hP hD hK hN hLp0 hKp0 rfl rfl) rfl rfl hl.1 rfl (lv_room (Nat.le_of_ble_eq_true rfl)) dX4_readField_28 ⟨(by rw [hR]; exact (Nat.le_of_ble_eq_true rfl)), (by rw [hR]; exact (Nat.le_of_ble_eq_true rfl))⟩) hS hAL hA (fun z28 Iz28 Jz28 H locs hz28 hIz28 hP hS => ?_)
  obtain ⟨hIz28, frc28, fz28⟩ := hIz28
  have fr_Iz28 : ∀ b, ¬ (K b = 0 ∨ K b = 3 ∨ K b = 4 ∨ b = p2) → Iz28 b = I b := fun b q => (frc28 b (fun z => q (by rw [z]; have := hKp0; omega))).trans (fr_Iz24 b q)
  have bz28 := hz28
  have n20 : ¬ p2 = p0 := ne_k hKp2 hKp0 (by decide)
  have l1 : (Iz24 p0 1).toInt = p1.toInt := by rw [frc24 p0 (fun z => n20 z.symm), qIz20, rz_fr _ _ _ _ (by decide), qIz15, rz_fr _ _ _ _ (by decide), qIz10, rz_at]; omega
  have l2 : (Iz24 p0 2).toInt = 0 := by rw [frc24 p0 (fun z => n20 z.symm), qIz20, rz_fr _ _ _ _ (by decide), qIz15, rz_at]; decide +kernel
  have l5 : (Iz24 p0 5).toInt = 0 := by rw [frc24 p0 (fun z => n20 z.symm), qIz20, rz_at]; decide +kernel
  have hby := tpC hQ hI hLp0 hKp0
  rw [l1, l2] at fz28
  refine lv_if_eq (tgt := 39) hx hb dX4_readField_31 (by decide) (fun c31 => ?_) (fun c31 => ?_)
  · have t31 := tq_eq (k := z28.toInt) (q := (0)) c31 rfl (by decide +kernel)
    refine lv_iconst (v := 0) hx hb dX4_readField_39 (by decide +kernel) ?_
    refine lv_istore_n (lv' := [(3, .int 0), (0, .ref p0), (1, .int p1), (2, .ref p2)]) hx hb dX4_readField_40 rfl hl (by decide) rfl (fun ls hl => ?_)
    have key41 := blocks (fun n => ∀ (v41_3 : Int32) (I41 : Nat → Nat → Int32) (J41 : Nat → Nat → Int64) (H : Heap) (lo : List Loc) (ls : Array Slot), (402 - v41_3.toInt).toNat = n → ((0) ≤ v41_3.toInt ∧ v41_3.toInt ≤ 401) → Iv L K x0 m0 tx tm I41 → (∀ b, ¬ (K b = 0 ∨ K b = 3 ∨ K b = 4 ∨ b = p2) → I41 b = I b) → (tellR (tb tx.2.2 p1.toInt) = prs (tb tx.2.2 p1.toInt) (401 - v41_3.toInt).toNat (I41 p2 2).toInt (I41 p2 3).toInt (I41 p0 2).toInt ∧ ((I41 p0 1).toInt = p1.toInt ∧ (I41 p0 5).toInt = 0) ∧ 2 * v41_3.toInt ≤ (I41 p0 2).toInt ∧ 0 < p1.toInt ∧ (I41 p0 2).toInt ≤ p1.toInt) → va_P (dC, dI) vwCl (Wd cs L K I41 J41 Q) H → va_S A s.heap H lo → lv_has ls 5 [(0, .ref p0), (1, .int p1), (2, .ref p2), (3, .int v41_3)] → W p l e R s m (([.ref p0, .int p1, .ref p2] : List Value).toArray) below meth c H lo 0 0 Qz (F0 m 41 ls [])) (by
      intro n ih41
      intro v41_3 I41 J41 H lo ls hmu41 bv41_3 hI41 fr_I41 h41 hP hS hl
      refine lv_iload_n hx hb dX4_readField_41 rfl (lv_at hl 3 rfl) ?_
      refine lv_aload_n hx hb dX4_readField_42 rfl (lv_at hl 0 rfl) ?_
      refine p_get hx hb hts inX4 hown hK hP hLp0 hKp0 rfl rfl 1 (by decide) (hts _ pq248) rfl dX4_readField_43 ?_
      refine lv_topi (fun z43 ez43 => ?_)
      have bz43 := oI_4_1 (Iv_at hI41 hLp0 hKp0)
      rw [← ez43] at bz43
      refine lv_icmp_ge (tgt := 145) hx hb dX4_readField_46 (by decide) (fun c46 => ?_) (fun c46 => ?_)
      · have t46 := tq_le (k := z43.toInt) (q := v41_3.toInt) c46 rfl rfl
        refine lv_aload_n hx hb dX4_readField_145 rfl (lv_at hl 0 rfl) ?_
        refine p_get hx hb hts inX4 hown hK hP hLp0 hKp0 rfl rfl 5 (by decide) (hts _ pq252) rfl dX4_readField_146 ?_
        refine lv_topi (fun z146 ez146 => ?_)
        have bz146 := oI_4_5 (Iv_at hI41 hLp0 hKp0)
        rw [← ez146] at bz146
        subst hR; subst hQz
        exact W.iret (v := z146) hx hb hr (fun t ht hW => ⟨⟨z146, z146, rfl, ⟨rfl, ⟨by omega, by omega⟩⟩, ⟨I41, J41, ⟨hI41, fr_I41, (by have q1 := h41.2.2; have q2 := h41.2.1.1; have q3 := congrArg Int32.toInt ez43; omega)⟩, by rw [ht]; exact hP⟩⟩, hS.F ht⟩) hS.2.2 dX4_readField_149
      · have t46 := tq_nle (k := z43.toInt) (q := v41_3.toInt) c46 rfl rfl
        have b41 := (oI_4_2 (Iv_at hI41 hLp0 hKp0)).1
        have n41 := (oI_4_1 (Iv_at hI41 hLp0 hKp0)).2
        refine lv_aload_n hx hb dX4_readField_49 rfl (lv_at hl 0 rfl) ?_
        refine sw_v (Z := (fun I1 => Iv L K x0 m0 tx tm I1 ∧ (∀ b, ¬ (b = p0) → I1 b = I41 b) ∧ I1 p0 1 = I41 p0 1 ∧ I1 p0 4 = I41 p0 4 ∧ rdA I41 I1 p0 (sk (tb tx.2.2 (I41 p0 1).toInt) (I41 p0 2).toInt))) (va_runV (As := []) (rest := []) ⟨hx, hb, hml, hown, hts⟩ (s_X4_skipBlanks l dC dI cs L K G Q hQ x0 m0 tx tm H.size I41 J41 hI41 p0 hLp0 hKp0) (cwV 0 hts (gV pq417 pq418 pq419 pq78 pq420) rfl rfl rfl (by decide +kernel) ⟨(by rw [hR]; exact (Nat.le_of_ble_eq_true rfl)), (by rw [hR]; exact (Nat.le_of_ble_eq_true rfl))⟩) (sP_V hP hD hK hN hLp0 hKp0 rfl rfl) rfl rfl hl.1 rfl (lv_room (Nat.le_of_ble_eq_true rfl)) dX4_readField_50 ⟨(by rw [hR]; exact (Nat.le_of_ble_eq_true rfl)), (by rw [hR]; exact (Nat.le_of_ble_eq_true rfl))⟩) hS hAL hA (fun Iz50 Jz50 H locs hz50 hIz50 hP hS => ?_)
        obtain ⟨hIz50, frc50, kc50_0_1, kc50_0_4, fz50⟩ := hIz50
        have fr_Iz50 : ∀ b, ¬ (K b = 0 ∨ K b = 3 ∨ K b = 4 ∨ b = p2) → Iz50 b = I b := fun b q => (frc50 b (fun z => q (by rw [z]; have := hKp0; omega))).trans (fr_I41 b q)
        refine lv_aload_n hx hb dX4_readField_53 rfl (lv_at hl 0 rfl) ?_
        obtain ⟨y54, hv54, hx_y54⟩ := hxx.2 (RX4, 49, "mask", wMask) (by simp [lits])
        dsimp only at hv54 hx_y54
        refine va_ldcS hx hb hown hv54 dX4_readField_54 ?_
        refine sw_ir (Z := (fun u => (fun I1 => Iv L K x0 m0 tx tm I1 ∧ (∀ b, ¬ (b = p0) → I1 b = Iz50 b) ∧ rdW tx.2.2 Iz50 I1 p0 u wMask))) (va_runV (As := [.ref y54]) (rest := []) ⟨hx, hb, hml, hown, hts⟩ (s_X4_takeWord l dC dI cs L K G Q hQ x0 m0 tx tm H.size Iz50 Jz50 hIz50 p0 hLp0 hKp0 y54 wMask) (cwV 1 hts (gV pq422 pq423 pq424 pq78 pq425) rfl rfl rfl (by decide +kernel) ⟨(by rw [hR]; exact (Nat.le_of_ble_eq_true rfl)), (by rw [hR]; exact (Nat.le_of_ble_eq_true rfl))⟩) (sPX_V hP hD hK hN hLp0 hKp0 rfl rfl (gX_and (gX_s _ _) gX_t) hS ⟨hx_y54, hxt⟩ (fun q h => h.elim (hAL q) (fun h => hA q (Nat.le_trans hS.1 h)))) rfl rfl hl.1 rfl (lv_room (Nat.le_of_ble_eq_true rfl)) dX4_readField_56 ⟨(by rw [hR]; exact (Nat.le_of_ble_eq_true rfl)), (by rw [hR]; exact (Nat.le_of_ble_eq_true rfl))⟩) hS hAL hA (fun z56 Iz56 Jz56 H locs hz56 hIz56 hP hS => ?_)
        obtain ⟨hIz56, frc56, fz56⟩ := hIz56
        have fr_Iz56 : ∀ b, ¬ (K b = 0 ∨ K b = 3 ∨ K b = 4 ∨ b = p2) → Iz56 b = I b := fun b q => (frc56 b (fun z => q (by rw [z]; have := hKp0; omega))).trans (fr_Iz50 b q)
        have bz56 := hz56
        have j96 : ∀ (w96_0 : Int32) (I96 : Nat → Nat → Int32) (J96 : Nat → Nat → Int64) (H : Heap) (lo : List Loc) (ls : Array Slot), ((0) ≤ w96_0.toInt ∧ w96_0.toInt ≤ 1) → Iv L K x0 m0 tx tm I96 → (∀ b, ¬ (K b = 0 ∨ K b = 3 ∨ K b = 4 ∨ b = p2) → I96 b = I b) → (rdP I41 I96 p0 w96_0 (ppt (tb tx.2.2 p1.toInt) (I41 p2 2).toInt (I41 p2 3).toInt (I41 p0 2).toInt).1 ∧ (w96_0.toInt = 1 → (I96 p2 2).toInt = (ppt (tb tx.2.2 p1.toInt) (I41 p2 2).toInt (I41 p2 3).toInt (I41 p0 2).toInt).2.1 ∧ (I96 p2 3).toInt = (ppt (tb tx.2.2 p1.toInt) (I41 p2 2).toInt (I41 p2 3).toInt (I41 p0 2).toInt).2.2)) → va_P (dC, dI) vwCl (Wd cs L K I96 J96 Q) H → va_S A s.heap H lo → lv_has ls 5 [(0, .ref p0), (1, .int p1), (2, .ref p2), (3, .int v41_3)] → W p l e R s m (([.ref p0, .int p1, .ref p2] : List Value).toArray) below meth c H lo 0 0 Qz (F0 m 96 ls [.int w96_0]) := by
          intro w96_0 I96 J96 H lo ls bw96_0 hI96 fr_I96 h96 hP hS hl
          refine lv_istore (lv' := [(4, .int w96_0), (0, .ref p0), (1, .int p1), (2, .ref p2), (3, .int v41_3)]) hx hb dX4_readField_96 hl (by decide) rfl (fun ls hl => ?_)
          refine lv_iload hx hb dX4_readField_98 (lv_at hl 0 rfl) ?_
          refine lv_if_eq (tgt := 110) hx hb dX4_readField_100 (by decide) (fun c100 => ?_) (fun c100 => ?_)
          · have t100 := tq_eq (k := w96_0.toInt) (q := (0)) c100 rfl (by decide +kernel)
            refine lv_aload_n hx hb dX4_readField_110 rfl (lv_at hl 1 rfl) ?_
            refine p_get hx hb hts inX4 hown hK hP hLp0 hKp0 rfl rfl 5 (by decide) (hts _ pq252) rfl dX4_readField_111 ?_
            refine lv_topi (fun z111 ez111 => ?_)
            have bz111 := oI_4_5 (Iv_at hI96 hLp0 hKp0)
            rw [← ez111] at bz111
            subst hR; subst hQz
            exact W.iret (v := z111) hx hb hr (fun t ht hW => ⟨⟨z111, z111, rfl, ⟨rfl, ⟨by omega, by omega⟩⟩, ⟨I96, J96, ⟨hI96, fr_I96, (by have q := rdP_no h96.1 t100; exact ⟨fun h => absurd (by rw [← q.2.1, ← ez111]; exact h) q.1, fun _ => by rw [h41.1, show (401 - v41_3.toInt).toNat = (400 - v41_3.toInt).toNat + 1 by omega, prs_bad q.1, ez111, q.2.1]⟩)⟩, by rw [ht]; exact hP⟩⟩, hS.F ht⟩) hS.2.2 dX4_readField_114
          · have t100 := tq_ne (k := w96_0.toInt) (q := (0)) c100 rfl (by decide +kernel)
            refine lv_aload_n hx hb dX4_readField_103 rfl (lv_at hl 1 rfl) ?_
            refine sw_ir (Z := (fun u => (fun I1 => Iv L K x0 m0 tx tm I1 ∧ (∀ b, ¬ (b = p0) → I1 b = I96 b) ∧ (rdA I96 I1 p0 (sk (tb tx.2.2 (I96 p0 1).toInt) (I96 p0 2).toInt) ∧ (u.toInt = 1 → (tb tx.2.2 (I96 p0 1).toInt) (sk (tb tx.2.2 (I96 p0 1).toInt) (I96 p0 2).toInt) = -1000) ∧ (u.toInt = 0 → (sk (tb tx.2.2 (I96 p0 1).toInt) (I96 p0 2).toInt) < (I96 p0 1).toInt))))) (va_runV (As := []) (rest := []) ⟨hx, hb, hml, hown, hts⟩ (s_X4_isAtEnd l dC dI cs L K G Q hQ x0 m0 tx tm H.size I96 J96 hI96 p0 hLp0 hKp0) (cwV 0 hts (gV pq413 pq414 pq415 pq78 pq416) rfl rfl rfl (by decide +kernel) ⟨(by rw [hR]; exact (Nat.le_of_ble_eq_true rfl)), (by rw [hR]; exact (Nat.le_of_ble_eq_true rfl))⟩) (sP_V hP hD hK hN hLp0 hKp0 rfl rfl) rfl rfl hl.1 rfl (lv_room (Nat.le_of_ble_eq_true rfl)) dX4_readField_104 ⟨(by rw [hR]; exact (Nat.le_of_ble_eq_true rfl)), (by rw [hR]; exact (Nat.le_of_ble_eq_true rfl))⟩) hS hAL hA (fun z104 Iz104 Jz104 H locs hz104 hIz104 hP hS => ?_)
            obtain ⟨hIz104, frc104, fz104⟩ := hIz104
            have fr_Iz104 : ∀ b, ¬ (K b = 0 ∨ K b = 3 ∨ K b = 4 ∨ b = p2) → Iz104 b = I b := fun b q => (frc104 b (fun z => q (by rw [z]; have := hKp0; omega))).trans (fr_I96 b q)
            have bz104 := hz104
            refine lv_if_eq (tgt := 115) hx hb dX4_readField_107 (by decide) (fun c107 => ?_) (fun c107 => ?_)
            · have t107 := tq_eq (k := z104.toInt) (q := (0)) c107 rfl (by decide +kernel)
              have ok := rdP_ok h96.1 t100
              have k1 : (Iz104 p0 1).toInt = p1.toInt := by rw [fz104.1.2.1, ok.2.2.1]; exact h41.2.1.1
              have k5 : (Iz104 p0 5).toInt = 0 := by rw [fz104.1.2.2, ok.2.2.2]; exact h41.2.1.2
              have k2 : (Iz104 p0 2).toInt = sk (tb tx.2.2 p1.toInt) (ppt (tb tx.2.2 p1.toInt) (I41 p2 2).toInt (I41 p2 3).toInt (I41 p0 2).toInt).1.2 := by have q := fz104.1.1; rw [ok.2.1, ok.2.2.1, h41.2.1.1] at q; exact q
              have hlt : sk (tb tx.2.2 p1.toInt) (ppt (tb tx.2.2 p1.toInt) (I41 p2 2).toInt (I41 p2 3).toInt (I41 p0 2).toInt).1.2 < p1.toInt := by have q := fz104.2.2 t107; rw [ok.2.1, ok.2.2.1, h41.2.1.1] at q; exact q
              have b104 := (oI_4_2 (Iv_at hIz104 hLp0 hKp0)).1
              have hne : ¬ (tb tx.2.2 p1.toInt) (sk (tb tx.2.2 p1.toInt) (ppt (tb tx.2.2 p1.toInt) (I41 p2 2).toInt (I41 p2 3).toInt (I41 p0 2).toInt).1.2) = -1000 := tb_ne hby (by rw [← k2]; exact b104) hlt
              have b96 := (oI_4_2 (Iv_at hI96 hLp0 hKp0)).1
              have ki : sk (tb tx.2.2 p1.toInt) (sk (tb tx.2.2 p1.toInt) (ppt (tb tx.2.2 p1.toInt) (I41 p2 2).toInt (I41 p2 3).toInt (I41 p0 2).toInt).1.2) = sk (tb tx.2.2 p1.toInt) (ppt (tb tx.2.2 p1.toInt) (I41 p2 2).toInt (I41 p2 3).toInt (I41 p0 2).toInt).1.2 := sk_idem (by rw [← ok.2.1]; exact b96) (by omega)
              refine lv_aload_n hx hb dX4_readField_115 rfl (lv_at hl 1 rfl) ?_
              refine lv_bipush (v := 59) hx hb dX4_readField_116 (by decide +kernel) ?_
              refine sw_ir (Z := (fun u => (fun I1 => Iv L K x0 m0 tx tm I1 ∧ (∀ b, ¬ (b = p0) → I1 b = Iz104 b) ∧ (((tb tx.2.2 (Iz104 p0 1).toInt) (sk (tb tx.2.2 (Iz104 p0 1).toInt) (Iz104 p0 2).toInt) = (59 : Int32).toInt → u.toInt = 1 ∧ rdA Iz104 I1 p0 ((sk (tb tx.2.2 (Iz104 p0 1).toInt) (Iz104 p0 2).toInt) + 1)) ∧ (¬ (tb tx.2.2 (Iz104 p0 1).toInt) (sk (tb tx.2.2 (Iz104 p0 1).toInt) (Iz104 p0 2).toInt) = (59 : Int32).toInt → u.toInt = 0 ∧ rdA Iz104 I1 p0 (sk (tb tx.2.2 (Iz104 p0 1).toInt) (Iz104 p0 2).toInt)))))) (va_runV (As := [.int 59]) (rest := []) ⟨hx, hb, hml, hown, hts⟩ (s_X4_takeSign l dC dI cs L K G Q hQ x0 m0 tx tm H.size Iz104 Jz104 hIz104 p0 hLp0 hKp0 59 ⟨by decide +kernel, by decide +kernel⟩) (cwV 1 hts (gV pq537 pq538 pq539 pq78 pq540) rfl rfl rfl (by decide +kernel) ⟨(by rw [hR]; exact (Nat.le_of_ble_eq_true rfl)), (by rw [hR]; exact (Nat.le_of_ble_eq_true rfl))⟩) (sP_V hP hD hK hN hLp0 hKp0 rfl rfl) rfl rfl hl.1 rfl (lv_room (Nat.le_of_ble_eq_true rfl)) dX4_readField_118 ⟨(by rw [hR]; exact (Nat.le_of_ble_eq_true rfl)), (by rw [hR]; exact (Nat.le_of_ble_eq_true rfl))⟩) hS hAL hA (fun z118 Iz118 Jz118 H locs hz118 hIz118 hP hS => ?_)
              obtain ⟨hIz118, frc118, fz118⟩ := hIz118
              have fr_Iz118 : ∀ b, ¬ (K b = 0 ∨ K b = 3 ∨ K b = 4 ∨ b = p2) → Iz118 b = I b := fun b q => (frc118 b (fun z => q (by rw [z]; have := hKp0; omega))).trans (fr_Iz104 b q)
              have cst118_59 : (59 : Int32).toInt = 59 := by decide +kernel
              have bz118 := hz118
              rw [k1, k2, ki, show (59 : Int32).toInt = 59 from by decide +kernel] at fz118
              refine lv_if_ne (tgt := 139) hx hb dX4_readField_121 (by decide) (fun c121 => ?_) (fun c121 => ?_)
              · have t121 := tq_ne (k := z118.toInt) (q := (0)) c121 rfl (by decide +kernel)
                have hg : (tb tx.2.2 p1.toInt) (sk (tb tx.2.2 p1.toInt) (ppt (tb tx.2.2 p1.toInt) (I41 p2 2).toInt (I41 p2 3).toInt (I41 p0 2).toInt).1.2) = 59 := Classical.byContradiction (fun q => t121 (fz118.2 q).1)
                have gA := (fz118.1 hg).2
                have g2 : (Iz118 p0 2).toInt = sk (tb tx.2.2 p1.toInt) (ppt (tb tx.2.2 p1.toInt) (I41 p2 2).toInt (I41 p2 3).toInt (I41 p0 2).toInt).1.2 + 1 := gA.1
                obtain ⟨z139, ez139⟩ : ∃ y : Int32, y = v41_3 + 1 := ⟨_, rfl⟩
                refine lv_iinc (v := z139) (lv' := [(3, .int z139), (4, .int w96_0), (0, .ref p0), (1, .int p1), (2, .ref p2)]) hx hb dX4_readField_139 hl (k := 4) rfl (by rw [ez139]; rfl) (by decide) rfl (fun ls hl => ?_)
                have bz139 := tq_add (k := v41_3.toInt) (q := 1) ez139 rfl (by decide +kernel) (by omega) (by omega)
                refine lv_goto (tgt := 41) hx hb dX4_readField_142 (by decide) ?_
                exact ih41 _ (by omega) z139 Iz118 Jz118 _ _ _ rfl ⟨by omega, by omega⟩ hIz118 fr_Iz118 ⟨h41.1.trans (by rw [show (401 - v41_3.toInt).toNat = (401 - z139.toInt).toNat + 1 by omega, prs_go ok.1 hne hg, g2, show (Iz118 p2 2).toInt = (ppt (tb tx.2.2 p1.toInt) (I41 p2 2).toInt (I41 p2 3).toInt (I41 p0 2).toInt).2.1 by rw [frc118 p2 n20, frc104 p2 n20]; exact (h96.2 (by omega)).1, show (Iz118 p2 3).toInt = (ppt (tb tx.2.2 p1.toInt) (I41 p2 2).toInt (I41 p2 3).toInt (I41 p0 2).toInt).2.2 by rw [frc118 p2 n20, frc104 p2 n20]; exact (h96.2 (by omega)).2]), ⟨by rw [gA.2.1]; exact k1, by rw [gA.2.2]; exact k5⟩, by rw [g2]; have a1 := ppt_adv ok.1 b41; have a2 : (ppt (tb tx.2.2 p1.toInt) (I41 p2 2).toInt (I41 p2 3).toInt (I41 p0 2).toInt).1.2 ≤ sk (tb tx.2.2 p1.toInt) (ppt (tb tx.2.2 p1.toInt) (I41 p2 2).toInt (I41 p2 3).toInt (I41 p0 2).toInt).1.2 := rn_le; omega, h41.2.2.2.1, by rw [g2]; have := tb_in hne; omega⟩ hP hS (lv_sub hl [2, 3, 4, 0] rfl)
              · have t121 := tq_eq (k := z118.toInt) (q := (0)) c121 rfl (by decide +kernel)
                have hg : ¬ (tb tx.2.2 p1.toInt) (sk (tb tx.2.2 p1.toInt) (ppt (tb tx.2.2 p1.toInt) (I41 p2 2).toInt (I41 p2 3).toInt (I41 p0 2).toInt).1.2) = 59 := fun q => by have := (fz118.1 q).1; omega
                have g3 : (Iz118 p0 2).toInt = sk (tb tx.2.2 p1.toInt) (ppt (tb tx.2.2 p1.toInt) (I41 p2 2).toInt (I41 p2 3).toInt (I41 p0 2).toInt).1.2 := (fz118.2 hg).2.1
                refine lv_aload_n hx hb dX4_readField_124 rfl (lv_at hl 1 rfl) ?_
                refine lv_aload_n hx hb dX4_readField_125 rfl (lv_at hl 1 rfl) ?_
                refine p_get hx hb hts inX4 hown hK hP hLp0 hKp0 rfl rfl 2 (by decide) (hts _ pq249) rfl dX4_readField_126 ?_
                refine lv_topi (fun z126 ez126 => ?_)
                have cgz126 := congrArg Int32.toInt ez126
                have bz126 := oI_4_2 (Iv_at hIz118 hLp0 hKp0)
                rw [← ez126] at bz126
                refine lv_iconst (v := 1) hx hb dX4_readField_129 (by decide +kernel) ?_
                refine sw_ir (Z := (fun u => (fun I1 => Iv L K x0 m0 tx tm I1 ∧ (∀ b, ¬ (b = p0) → I1 b = Iz118 b) ∧ rdF Iz118 I1 p0 (8 * z126.toInt + (1 : Int32).toInt)))) (va_runV (As := [.int z126, .int 1]) (rest := []) ⟨hx, hb, hml, hown, hts⟩ (s_X4_failAt l dC dI cs L K G Q hQ x0 m0 tx tm H.size Iz118 Jz118 hIz118 p0 hLp0 hKp0 z126 ⟨by omega, by omega⟩ 1 ⟨by decide +kernel, by decide +kernel⟩) (cwV 2 hts (gV pq478 pq479 pq480 pq78 pq481) rfl rfl rfl (by decide +kernel) ⟨(by rw [hR]; exact (Nat.le_of_ble_eq_true rfl)), (by rw [hR]; exact (Nat.le_of_ble_eq_true rfl))⟩) (sP_V hP hD hK hN hLp0 hKp0 rfl rfl) rfl rfl hl.1 rfl (lv_room (Nat.le_of_ble_eq_true rfl)) dX4_readField_130 ⟨(by rw [hR]; exact (Nat.le_of_ble_eq_true rfl)), (by rw [hR]; exact (Nat.le_of_ble_eq_true rfl))⟩) hS hAL hA (fun z130 Iz130 Jz130 H locs hz130 hIz130 hP hS => ?_)
                obtain ⟨hIz130, frc130, fz130⟩ := hIz130
                have fr_Iz130 : ∀ b, ¬ (K b = 0 ∨ K b = 3 ∨ K b = 4 ∨ b = p2) → Iz130 b = I b := fun b q => (frc130 b (fun z => q (by rw [z]; have := hKp0; omega))).trans (fr_Iz118 b q)
                have cst130_1 : (1 : Int32).toInt = 1 := by decide +kernel
                have bz130 := hz130
                refine lv_pop hx hb dX4_readField_133 rfl ?_
                refine lv_aload_n hx hb dX4_readField_134 rfl (lv_at hl 1 rfl) ?_
                refine p_get hx hb hts inX4 hown hK hP hLp0 hKp0 rfl rfl 5 (by decide) (hts _ pq252) rfl dX4_readField_135 ?_
                refine lv_topi (fun z135 ez135 => ?_)
                have bz135 := oI_4_5 (Iv_at hIz130 hLp0 hKp0)
                rw [← ez135] at bz135
                subst hR; subst hQz
                exact W.iret (v := z135) hx hb hr (fun t ht hW => ⟨⟨z135, z135, rfl, ⟨rfl, ⟨by omega, by omega⟩⟩, ⟨Iz130, Jz130, ⟨hIz130, fr_Iz130, (by have e : (Iz130 p0 5).toInt = 8 * sk (tb tx.2.2 p1.toInt) (ppt (tb tx.2.2 p1.toInt) (I41 p2 2).toInt (I41 p2 3).toInt (I41 p0 2).toInt).1.2 + 1 := (by have q := fz130.1; rw [cst130_1, congrArg Int32.toInt ez126, g3] at q; exact q); have b0 := (oI_4_2 (Iv_at hIz118 hLp0 hKp0)).1; rw [g3] at b0; exact ⟨fun h => absurd h (by rw [ez135, e]; omega), fun _ => by rw [h41.1, show (401 - v41_3.toInt).toNat = (400 - v41_3.toInt).toNat + 1 by omega, prs_sig ok.1 hne hg, ez135, e]⟩)⟩, by rw [ht]; exact hP⟩⟩, hS.F ht⟩) hS.2.2 dX4_readField_138
            · have t107 := tq_ne (k := z104.toInt) (q := (0)) c107 rfl (by decide +kernel)
              refine lv_aload_n hx hb dX4_readField_110 rfl (lv_at hl 1 rfl) ?_
              refine p_get hx hb hts inX4 hown hK hP hLp0 hKp0 rfl rfl 5 (by decide) (hts _ pq252) rfl dX4_readField_111 ?_
              refine lv_topi (fun z111 ez111 => ?_)
              have bz111 := oI_4_5 (Iv_at hIz104 hLp0 hKp0)
              rw [← ez111] at bz111
              subst hR; subst hQz
              exact W.iret (v := z111) hx hb hr (fun t ht hW => ⟨⟨z111, z111, rfl, ⟨rfl, ⟨by omega, by omega⟩⟩, ⟨Iz104, Jz104, ⟨hIz104, fr_Iz104, (by have q := rdP_ok h96.1 t100; exact ⟨fun _ => by rw [h41.1, show (401 - v41_3.toInt).toNat = (400 - v41_3.toInt).toNat + 1 by omega, prs_end q.1 (by have w := fz104.2.1 (by omega); rw [q.2.1, q.2.2.1, h41.2.1.1] at w; exact w), frc104 p2 n20]; exact (h96.2 (by omega)).2.symm, fun h => absurd (by rw [ez111, fz104.1.2.2, q.2.2.2]; exact h41.2.1.2) h⟩)⟩, by rw [ht]; exact hP⟩⟩, hS.F ht⟩) hS.2.2 dX4_readField_114
        refine lv_if_eq (tgt := 70) hx hb dX4_readField_59 (by decide) (fun c59 => ?_) (fun c59 => ?_)
        · have t59 := tq_eq (k := z56.toInt) (q := (0)) c59 rfl (by decide +kernel)
          refine lv_aload_n hx hb dX4_readField_70 rfl (lv_at hl 0 rfl) ?_
          obtain ⟨y71, hv71, hx_y71⟩ := hxx.2 (RX4, 59, "body", wBody) (by simp [lits])
          dsimp only at hv71 hx_y71
          refine va_ldcS hx hb hown hv71 dX4_readField_71 ?_
          refine sw_ir (Z := (fun u => (fun I1 => Iv L K x0 m0 tx tm I1 ∧ (∀ b, ¬ (b = p0) → I1 b = Iz56 b) ∧ rdW tx.2.2 Iz56 I1 p0 u wBody))) (va_runV (As := [.ref y71]) (rest := []) ⟨hx, hb, hml, hown, hts⟩ (s_X4_takeWord l dC dI cs L K G Q hQ x0 m0 tx tm H.size Iz56 Jz56 hIz56 p0 hLp0 hKp0 y71 wBody) (cwV 1 hts (gV pq422 pq423 pq424 pq78 pq425) rfl rfl rfl (by decide +kernel) ⟨(by rw [hR]; exact (Nat.le_of_ble_eq_true rfl)), (by rw [hR]; exact (Nat.le_of_ble_eq_true rfl))⟩) (sPX_V hP hD hK hN hLp0 hKp0 rfl rfl (gX_and (gX_s _ _) gX_t) hS ⟨hx_y71, hxt⟩ (fun q h => h.elim (hAL q) (fun h => hA q (Nat.le_trans hS.1 h)))) rfl rfl hl.1 rfl (lv_room (Nat.le_of_ble_eq_true rfl)) dX4_readField_73 ⟨(by rw [hR]; exact (Nat.le_of_ble_eq_true rfl)), (by rw [hR]; exact (Nat.le_of_ble_eq_true rfl))⟩) hS hAL hA (fun z73 Iz73 Jz73 H locs hz73 hIz73 hP hS => ?_)
          obtain ⟨hIz73, frc73, fz73⟩ := hIz73
          have fr_Iz73 : ∀ b, ¬ (K b = 0 ∨ K b = 3 ∨ K b = 4 ∨ b = p2) → Iz73 b = I b := fun b q => (frc73 b (fun z => q (by rw [z]; have := hKp0; omega))).trans (fr_Iz56 b q)
          have bz73 := hz73
          refine lv_if_eq (tgt := 87) hx hb dX4_readField_76 (by decide) (fun c76 => ?_) (fun c76 => ?_)
          · have t76 := tq_eq (k := z73.toInt) (q := (0)) c76 rfl (by decide +kernel)
            refine lv_aload_n hx hb dX4_readField_87 rfl (lv_at hl 0 rfl) ?_
            refine lv_aload_n hx hb dX4_readField_88 rfl (lv_at hl 0 rfl) ?_
            refine p_get hx hb hts inX4 hown hK hP hLp0 hKp0 rfl rfl 2 (by decide) (hts _ pq249) rfl dX4_readField_89 ?_
            refine lv_topi (fun z89 ez89 => ?_)
            have cgz89 := congrArg Int32.toInt ez89
            have bz89 := oI_4_2 (Iv_at hIz73 hLp0 hKp0)
            rw [← ez89] at bz89
            refine lv_iconst (v := 1) hx hb dX4_readField_92 (by decide +kernel) ?_
            refine sw_ir (Z := (fun u => (fun I1 => Iv L K x0 m0 tx tm I1 ∧ (∀ b, ¬ (b = p0) → I1 b = Iz73 b) ∧ rdF Iz73 I1 p0 (8 * z89.toInt + (1 : Int32).toInt)))) (va_runV (As := [.int z89, .int 1]) (rest := []) ⟨hx, hb, hml, hown, hts⟩ (s_X4_failAt l dC dI cs L K G Q hQ x0 m0 tx tm H.size Iz73 Jz73 hIz73 p0 hLp0 hKp0 z89 ⟨by omega, by omega⟩ 1 ⟨by decide +kernel, by decide +kernel⟩) (cwV 2 hts (gV pq478 pq479 pq480 pq78 pq481) rfl rfl rfl (by decide +kernel) ⟨(by rw [hR]; exact (Nat.le_of_ble_eq_true rfl)), (by rw [hR]; exact (Nat.le_of_ble_eq_true rfl))⟩) (sP_V hP hD hK hN hLp0 hKp0 rfl rfl) rfl rfl hl.1 rfl (lv_room (Nat.le_of_ble_eq_true rfl)) dX4_readField_93 ⟨(by rw [hR]; exact (Nat.le_of_ble_eq_true rfl)), (by rw [hR]; exact (Nat.le_of_ble_eq_true rfl))⟩) hS hAL hA (fun z93 Iz93 Jz93 H locs hz93 hIz93 hP hS => ?_)
            obtain ⟨hIz93, frc93, fz93⟩ := hIz93
            have fr_Iz93 : ∀ b, ¬ (K b = 0 ∨ K b = 3 ∨ K b = 4 ∨ b = p2) → Iz93 b = I b := fun b q => (frc93 b (fun z => q (by rw [z]; have := hKp0; omega))).trans (fr_Iz73 b q)
            have cst93_1 : (1 : Int32).toInt = 1 := by decide +kernel
            have bz93 := hz93
            exact j96 z93 Iz93 Jz93 _ _ _ ⟨by omega, by omega⟩ hIz93 fr_Iz93 (by have q := ppt_none (q := p2) (rdW_next fz50 b41 n41 fz56) t59 fz73 t76 ⟨(show z93.toInt = 0 by omega), by have q := fz93; rw [cst93_1, congrArg Int32.toInt ez89] at q; exact q⟩ b41 n41; rw [h41.2.1.1] at q; exact q) hP hS (lv_sub hl [0, 1, 2, 3] rfl)
          · have t76 := tq_ne (k := z73.toInt) (q := (0)) c76 rfl (by decide +kernel)
            refine lv_aload_n hx hb dX4_readField_79 rfl (lv_at hl 0 rfl) ?_
            refine lv_aload_n hx hb dX4_readField_80 rfl (lv_at hl 2 rfl) ?_
            refine sw_ir (Z := (fun u => (fun I1 => Iv L K x0 m0 tx tm I1 ∧ (∀ b, ¬ (K b = 0 ∨ K b = 4 ∨ b = p2) → I1 b = Iz73 b) ∧ ((10 ≤ (Iz73 p2 3).toInt → u.toInt = 0 ∧ rdF Iz73 I1 p0 (8 * (Iz73 p0 3).toInt + 3)) ∧ ((Iz73 p2 3).toInt < 10 → rdP Iz73 I1 p0 u (pbd (tb tx.2.2 (Iz73 p0 1).toInt) (Iz73 p2 2).toInt (Iz73 p0 2).toInt) ∧ (u.toInt = 1 → (I1 p2 3).toInt = (Iz73 p2 3).toInt + 1 ∧ I1 p2 2 = Iz73 p2 2)))))) (va_runV (As := [.ref p2]) (rest := []) ⟨hx, hb, hml, hown, hts⟩ (s_X4_readBody l dC dI cs L K G Q hQ x0 m0 tx tm H.size Iz73 Jz73 hIz73 p0 hLp0 hKp0 p2 hLp2 hKp2) (cwV 1 hts (gV pq558 pq559 pq560 pq78 pq561) rfl rfl rfl (by decide +kernel) ⟨(by rw [hR]; exact (Nat.le_of_ble_eq_true rfl)), (by rw [hR]; exact (Nat.le_of_ble_eq_true rfl))⟩) (sPX_V hP hD hK hN hLp0 hKp0 rfl rfl gX_x hS hxx (fun q h => h.elim (hAL q) (fun h => hA q (Nat.le_trans hS.1 h)))) rfl rfl hl.1 rfl (lv_room (Nat.le_of_ble_eq_true rfl)) dX4_readField_81 ⟨(by rw [hR]; exact (Nat.le_of_ble_eq_true rfl)), (by rw [hR]; exact (Nat.le_of_ble_eq_true rfl))⟩) hS hAL hA (fun z81 Iz81 Jz81 H locs hz81 hIz81 hP hS => ?_)
            obtain ⟨hIz81, frc81, fz81⟩ := hIz81
            have fr_Iz81 : ∀ b, ¬ (K b = 0 ∨ K b = 3 ∨ K b = 4 ∨ b = p2) → Iz81 b = I b := fun b q => (frc81 b (fun z => q (by omega))).trans (fr_Iz73 b q)
            have bz81 := hz81
            refine lv_goto (tgt := 96) hx hb dX4_readField_84 (by decide) ?_
            exact j96 z81 Iz81 Jz81 _ _ _ ⟨by omega, by omega⟩ hIz81 fr_Iz81 (by have q := ppt_body (rdW_next fz50 b41 n41 fz56) t59 fz73 t76 (by rw [frc73 p2 n20, frc56 p2 n20, frc50 p2 n20]) fz81 b41 n41; rw [h41.2.1.1] at q; exact q) hP hS (lv_sub hl [0, 1, 2, 3] rfl)
        · have t59 := tq_ne (k := z56.toInt) (q := (0)) c59 rfl (by decide +kernel)
          refine lv_aload_n hx hb dX4_readField_62 rfl (lv_at hl 0 rfl) ?_
          refine lv_aload_n hx hb dX4_readField_63 rfl (lv_at hl 2 rfl) ?_
          refine sw_ir (Z := (fun u => (fun I1 => Iv L K x0 m0 tx tm I1 ∧ (∀ b, ¬ (K b = 3 ∨ K b = 4 ∨ b = p2) → I1 b = Iz56 b) ∧ ((8 ≤ (Iz56 p2 2).toInt → u.toInt = 0 ∧ rdF Iz56 I1 p0 (8 * (Iz56 p0 3).toInt + 3)) ∧ ((Iz56 p2 2).toInt < 8 → rdP Iz56 I1 p0 u (pfm (tb tx.2.2 (Iz56 p0 1).toInt) (Iz56 p0 2).toInt) ∧ (I1 p2 2).toInt = (Iz56 p2 2).toInt + 1 ∧ I1 p2 3 = Iz56 p2 3))))) (va_runV (As := [.ref p2]) (rest := []) ⟨hx, hb, hml, hown, hts⟩ (s_X4_readMask l dC dI cs L K G Q hQ x0 m0 tx tm H.size Iz56 Jz56 hIz56 p0 hLp0 hKp0 p2 hLp2 hKp2) (cwV 1 hts (gV pq474 pq475 pq476 pq78 pq477) rfl rfl rfl (by decide +kernel) ⟨(by rw [hR]; exact (Nat.le_of_ble_eq_true rfl)), (by rw [hR]; exact (Nat.le_of_ble_eq_true rfl))⟩) (sPX_V hP hD hK hN hLp0 hKp0 rfl rfl gX_x hS hxx (fun q h => h.elim (hAL q) (fun h => hA q (Nat.le_trans hS.1 h)))) rfl rfl hl.1 rfl (lv_room (Nat.le_of_ble_eq_true rfl)) dX4_readField_64 ⟨(by rw [hR]; exact (Nat.le_of_ble_eq_true rfl)), (by rw [hR]; exact (Nat.le_of_ble_eq_true rfl))⟩) hS hAL hA (fun z64 Iz64 Jz64 H locs hz64 hIz64 hP hS => ?_)
          obtain ⟨hIz64, frc64, fz64⟩ := hIz64
          have fr_Iz64 : ∀ b, ¬ (K b = 0 ∨ K b = 3 ∨ K b = 4 ∨ b = p2) → Iz64 b = I b := fun b q => (frc64 b (fun z => q (by omega))).trans (fr_Iz56 b q)
          have bz64 := hz64
          refine lv_goto (tgt := 96) hx hb dX4_readField_67 (by decide) ?_
          exact j96 z64 Iz64 Jz64 _ _ _ ⟨by omega, by omega⟩ hIz64 fr_Iz64 (by have q := ppt_mask (rdW_next fz50 b41 n41 fz56) t59 (by rw [frc56 p2 n20, frc50 p2 n20]) fz64 b41; rw [h41.2.1.1] at q; exact q) hP hS (lv_sub hl [0, 1, 2, 3] rfl))
    exact key41 _ 0 Iz28 Jz28 _ _ _ rfl ⟨by decide +kernel, by decide +kernel⟩ hIz28 fr_Iz28 ⟨by rw [show (Iz28 p2 2).toInt = 0 by rw [frc28 p2 n20]; exact fz24.1, show (Iz28 p2 3).toInt = 0 by rw [frc28 p2 n20]; exact fz24.2, fz28.1.1]; unfold tellR; rw [if_neg (tb_ne hby (by have := (oI_4_2 (Iv_at hIz28 hLp0 hKp0)).1; rw [fz28.1.1] at this; exact this) (fz28.2.2 t31))]; exact (prs_sk (k := 400) (sk_idem (Int.le_refl _) (by omega))).symm, ⟨by rw [fz28.1.2.1]; exact l1, by rw [fz28.1.2.2]; exact l5⟩, by have := (oI_4_2 (Iv_at hIz28 hLp0 hKp0)).1; rw [show (0 : Int32).toInt = 0 from by decide +kernel]; omega, by have h1 := fz28.2.2 t31; have h2 := (oI_4_2 (Iv_at hIz28 hLp0 hKp0)).1; rw [fz28.1.1] at h2; omega, by rw [fz28.1.1]; have := fz28.2.2 t31; omega⟩ hP hS (lv_sub hl [1, 2, 3, 0] rfl)
  · have t31 := tq_ne (k := z28.toInt) (q := (0)) c31 rfl (by decide +kernel)
    refine lv_aload_n hx hb dX4_readField_34 rfl (lv_at hl 0 rfl) ?_
    refine p_get hx hb hts inX4 hown hK hP hLp0 hKp0 rfl rfl 5 (by decide) (hts _ pq252) rfl dX4_readField_35 ?_
    refine lv_topi (fun z35 ez35 => ?_)
    have bz35 := oI_4_5 (Iv_at hIz28 hLp0 hKp0)
    rw [← ez35] at bz35
    subst hR; subst hQz
    exact W.iret (v := z35) hx hb hr (fun t ht hW => ⟨⟨z35, z35, rfl, ⟨rfl, ⟨by omega, by omega⟩⟩, ⟨Iz28, Jz28, ⟨hIz28, fr_Iz28, ⟨fun _ => by unfold tellR; rw [if_pos (fz28.2.1 (by omega)), frc28 p2 n20, fz24.2], fun h => absurd (by rw [ez35, fz28.1.2.2]; exact l5) h⟩⟩, by rw [ht]; exact hP⟩⟩, hS.F ht⟩) hS.2.2 dX4_readField_38
