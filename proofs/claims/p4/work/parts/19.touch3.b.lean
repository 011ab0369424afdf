abbrev cX6_quarter : ByteArray := prog_1_method_17_code
def yX6_quarter : MethodName := ⟨RX6, "quarter", "(I)I"⟩
theorem dX6_quarter_0 : decode cX6_quarter 0 = .ok (.aload_n 0, 1) := by decide +kernel
theorem dX6_quarter_1 : decode cX6_quarter 1 = .ok (.iload_n 1, 1) := by decide +kernel
theorem dX6_quarter_2 : decode cX6_quarter 2 = .ok (.invokevirtual 130, 3) := by decide +kernel
theorem dX6_quarter_5 : decode cX6_quarter 5 = .ok (.ifCond .ne 5, 3) := by decide +kernel
theorem dX6_quarter_8 : decode cX6_quarter 8 = .ok (.iconst (-1), 1) := by decide +kernel
theorem dX6_quarter_9 : decode cX6_quarter 9 = .ok (.ireturn, 1) := by decide +kernel
theorem dX6_quarter_10 : decode cX6_quarter 10 = .ok (.aload_n 0, 1) := by decide +kernel
theorem dX6_quarter_11 : decode cX6_quarter 11 = .ok (.getfield 20, 3) := by decide +kernel
theorem dX6_quarter_14 : decode cX6_quarter 14 = .ok (.getfield 133, 3) := by decide +kernel
theorem dX6_quarter_17 : decode cX6_quarter 17 = .ok (.iload_n 1, 1) := by decide +kernel
theorem dX6_quarter_18 : decode cX6_quarter 18 = .ok (.aaload, 1) := by decide +kernel
theorem dX6_quarter_19 : decode cX6_quarter 19 = .ok (.getfield 170, 3) := by decide +kernel
theorem dX6_quarter_22 : decode cX6_quarter 22 = .ok (.bipush 40, 2) := by decide +kernel
theorem dX6_quarter_24 : decode cX6_quarter 24 = .ok (.if_icmp .le 6, 3) := by decide +kernel
theorem dX6_quarter_27 : decode cX6_quarter 27 = .ok (.bipush (-2), 2) := by decide +kernel
theorem dX6_quarter_29 : decode cX6_quarter 29 = .ok (.ireturn, 1) := by decide +kernel
theorem dX6_quarter_30 : decode cX6_quarter 30 = .ok (.aload_n 0, 1) := by decide +kernel
theorem dX6_quarter_31 : decode cX6_quarter 31 = .ok (.getfield 48, 3) := by decide +kernel
theorem dX6_quarter_34 : decode cX6_quarter 34 = .ok (.aload_n 0, 1) := by decide +kernel
theorem dX6_quarter_35 : decode cX6_quarter 35 = .ok (.getfield 20, 3) := by decide +kernel
theorem dX6_quarter_38 : decode cX6_quarter 38 = .ok (.getfield 133, 3) := by decide +kernel
theorem dX6_quarter_41 : decode cX6_quarter 41 = .ok (.iload_n 1, 1) := by decide +kernel
theorem dX6_quarter_42 : decode cX6_quarter 42 = .ok (.aaload, 1) := by decide +kernel
theorem dX6_quarter_43 : decode cX6_quarter 43 = .ok (.invokevirtual 201, 3) := by decide +kernel
theorem dX6_quarter_46 : decode cX6_quarter 46 = .ok (.aload_n 0, 1) := by decide +kernel
theorem dX6_quarter_47 : decode cX6_quarter 47 = .ok (.iload_n 1, 1) := by decide +kernel
theorem dX6_quarter_48 : decode cX6_quarter 48 = .ok (.invokevirtual 157, 3) := by decide +kernel
theorem dX6_quarter_51 : decode cX6_quarter 51 = .ok (.aload_n 0, 1) := by decide +kernel
theorem dX6_quarter_52 : decode cX6_quarter 52 = .ok (.getfield 48, 3) := by decide +kernel
theorem dX6_quarter_55 : decode cX6_quarter 55 = .ok (.getfield 170, 3) := by decide +kernel
theorem dX6_quarter_58 : decode cX6_quarter 58 = .ok (.ireturn, 1) := by decide +kernel
set_option maxRecDepth 100000 in
theorem pq729 : Cond.methodLink RX6 201 yX3_becomeQuartered ∈ pw := pw_mem (i := 729) (by decide +kernel) rfl
set_option maxRecDepth 100000 in
theorem pq730 : Cond.instanceMethod yX3_becomeQuartered ∈ pw := pw_mem (i := 730) (by decide +kernel) rfl
set_option maxRecDepth 100000 in
theorem pq731 : Cond.selects RX3 yX3_becomeQuartered yX3_becomeQuartered ∈ pw := pw_mem (i := 731) (by decide +kernel) rfl
set_option maxRecDepth 100000 in
theorem pq732 : Cond.code yX3_becomeQuartered cX3_becomeQuartered 4 none ∈ pw := pw_mem (i := 732) (by rfl) rfl
set_option maxHeartbeats 4000000 in
set_option maxRecDepth 100000 in
theorem s_X6_quarter (l : Launch) (dC : Nat → ClassId) (dI : Nat → Nat → Nat) (cs : Nat → ClassId) (L0 : List Nat) (K0 G0 : Nat → Nat) (Q0 : Nat → Nat → Option Nat) (hQ : Sv L0 K0 G0 Q0) (x0 m0 : Nat) (tx : GT) (tm : GT × Int) (hx0 : x0 ∈ L0) (hm0 : m0 ∈ L0) (sz : Nat) (I : Nat → Nat → Int32) (J : Nat → Nat → Int64) (hI : Iv L0 K0 x0 m0 tx tm I) (p0 : Nat) (hLp0 : p0 ∈ L0) (hKp0 : K0 p0 = 6) (p1 : Int32) : Met l yX6_quarter (.code yX6_quarter cX6_quarter 2 (some .int) :: pw) ({ frames := 6, cells := 29, slots := 807, locals := 152 }) (sP (dC, dI) cs [.ref p0, .int p1] sz L0 K0 I J Q0) (va_Qi (fun (r : Int32) (_ : Unit) => True) (fun _ t => sA (dC, dI) cs L0 K0 G0 Q0 x0 m0 tx tm sz (fun L K G Q I1 => True) t) (fun q => q ∈ L0 ∨ sz ≤ q)) 29 807 (fun q => q ∈ L0 ∨ sz ≤ q) := by
  refine Met.ofW (cc := cX6_quarter) (maxL := 2) (ret := (some .int)) (by decide +kernel) rfl ?_
  intro p e s m args below meth c s₁ B hml hv
  obtain ⟨rfl, hsz, hP, hK, hD0, hN⟩ := hv
  have hx := B.exec
  have hb := B.bytes
  have hr := B.returns
  have hts := fun w (h : w ∈ pw) => atoms_spec (ws := Cond.code yX6_quarter cX6_quarter 2 (some .int) :: pw) B.pre w (List.mem_cons_of_mem _ h)
  have hown : s.vm.findClass RX6 = some m.cls := findClass_of_methodNamed B.named
  have hlocks := B.notSynchronized
  subst hsz
  have hBB : 999 ≤ tm.2 ∧ tm.2 ≤ 6000000 := hI.2.2.2.2.1
  obtain ⟨A, hAe⟩ : ∃ A : Nat → Prop, A = (fun q => q ∈ L0 ∨ s.heap.size ≤ q) := ⟨_, rfl⟩
  rw [← hAe]
  have hAL : ∀ q, q ∈ L0 → A q := fun q h => by rw [hAe]; exact Or.inl h
  have hA : ∀ q, s.heap.size ≤ q → A q := fun q h => by rw [hAe]; exact Or.inr h
  have hD : ∀ F, va_D A (va_pl L0 F) := fun F => (hD0 F).weaken (fun k q hk _ => hAL _ (pl_mem hk))
  obtain ⟨H, hHe⟩ : ∃ H : Heap, H = s.heap := ⟨_, rfl⟩
  have hS : va_S A s.heap H [] := by rw [hHe]; exact va_S.rf
  rw [← hHe] at hP
  have hl := lv_entry ([.ref p0, .int p1]) (n := 2) (Nat.le_of_ble_eq_true rfl)
  rw [lg_entry_eq]
  generalize (lg_sl ([.ref p0, .int p1]) ++ List.replicate (2 - (lg_sl ([.ref p0, .int p1])).length) Slot.unset).toArray = ls at hl ⊢
  have hl : lv_has ls 2 [(0, .ref p0), (1, .int p1)] := hl
  rw [← hHe]
  refine namedW (fun R Qz hR hQz => ?_)
  have hAe2 : ∀ q, A q → q ∈ L0 ∨ H.size ≤ q := fun q h => by rw [hHe]; rw [hAe] at h; exact h
  have hQ0 := hQ
  have hK0p0 := hKp0
  have hL0p0 := hLp0
  obtain ⟨L, K, G, Q, hX, hQ, hI, hP, hD, hAL, hx0, hm0, hLp0, hKp0⟩ : ∃ L K G Q, extW L0 K0 G0 Q0 L K G Q ∧ Sv L K G Q ∧ Iv L K x0 m0 tx tm I ∧ va_P (dC, dI) vwCl (Wd cs L K I J Q) H ∧ (∀ F, va_D A (va_pl L F)) ∧ (∀ q, q ∈ L → A q) ∧ x0 ∈ L ∧ m0 ∈ L ∧ p0 ∈ L ∧ K p0 = 6 := ⟨L0, K0, G0, Q0, extW_refl, hQ, hI, hP, hD, hAL, hx0, hm0, hLp0, hKp0⟩
  refine lv_aload_n hx hb dX6_quarter_0 rfl (lv_at hl 0 rfl) ?_
  refine lv_iload_n hx hb dX6_quarter_1 rfl (lv_at hl 1 rfl) ?_
  refine ro_i (va_runV (As := [.int p1]) (rest := []) ⟨hx, hb, hml, hown, hts⟩ (s_X6_isMask l dC dI cs L K G Q hQ x0 m0 tx tm H.size I J hI p0 hLp0 hKp0 p1) (cwV 1 hts (gV pq666 pq668 pq4 pq74 pq669) rfl rfl rfl (by decide +kernel) ⟨(by rw [hR]; exact (Nat.le_of_ble_eq_true rfl)), (by rw [hR]; exact (Nat.le_of_ble_eq_true rfl))⟩) (sP_V hP hD hK hN hLp0 hKp0 rfl rfl) rfl rfl hl.1 rfl (lv_room (Nat.le_of_ble_eq_true rfl)) dX6_quarter_2 ⟨(by rw [hR]; exact (Nat.le_of_ble_eq_true rfl)), (by rw [hR]; exact (Nat.le_of_ble_eq_true rfl))⟩) hS hP (fun z2 H locs hz2 hP hS => ?_)
  obtain ⟨bz2, imz2⟩ := hz2
  refine lv_if_ne (tgt := 10) hx hb dX6_quarter_5 (by decide) (fun c5 => ?_) (fun c5 => ?_)
  · have t5 := tq_ne (k := z2.toInt) (q := (0)) c5 rfl (by decide +kernel)
    have i5 := imz2 t5
    refine lv_aload_n hx hb dX6_quarter_10 rfl (lv_at hl 0 rfl) ?_
    obtain ⟨y11, ey11, hLy11, hKy11, hGy11⟩ := oQ_6_2 (Sv_at hQ hLp0 hKp0)
    refine p_get (v := .ref y11) hx hb hts inX6 hown hK hP hLp0 hKp0 rfl rfl 2 (by decide) (hts _ pq351) (congrArg (fun q => some (va_rf q)) ey11) dX6_quarter_11 ?_
    obtain ⟨y14, ey14, hLy14, hKy14, hGy14⟩ := oQ_1_0 (Sv_at hQ hLy11 hKy11)
    refine p_get (v := .ref y14) hx hb hts inX1 hown hK hP hLy11 hKy11 rfl rfl 0 (by decide) (hts _ pq216) (congrArg (fun q => some (va_rf q)) ey14) dX6_quarter_14 ?_
    refine lv_iload_n hx hb dX6_quarter_17 rfl (lv_at hl 1 rfl) ?_
    obtain ⟨y18, ey18, hLy18, hKy18, hGy18⟩ := (Sv_at hQ hLy14 hKy14).1 p1.toNatClampNeg (clamp_lt (n := 8) (in_of (by omega) (by omega)))
    refine p_aaldR hx hb hK hP 3 hLy14 hKy14 rfl rfl (in_of (by omega) (by omega)) ey18 dX6_quarter_18 ?_
    refine p_get hx hb hts inX3 hown hK hP hLy18 hKy18 rfl rfl 0 (by decide) (hts _ pq119) rfl dX6_quarter_19 ?_
    refine lv_topi (fun z19 ez19 => ?_)
    have bz19 := oI_3_0 (Iv_at hI hLy18 hKy18)
    rw [← ez19] at bz19
    refine lv_bipush (v := 40) hx hb dX6_quarter_22 (by decide +kernel) ?_
    refine lv_icmp_le (tgt := 30) hx hb dX6_quarter_24 (by decide) (fun c24 => ?_) (fun c24 => ?_)
    · have t24 := tq_le (k := z19.toInt) (q := (40)) c24 rfl (by decide +kernel)
      refine lv_aload_n hx hb dX6_quarter_30 rfl (lv_at hl 0 rfl) ?_
      obtain ⟨y31, ey31, hLy31, hKy31⟩ := oQ_6_6 (Sv_at hQ hLp0 hKp0)
      refine p_get (v := .ref y31) hx hb hts inX6 hown hK hP hLp0 hKp0 rfl rfl 6 (by decide) (hts _ pq355) (congrArg (fun q => some (va_rf q)) ey31) dX6_quarter_31 ?_
      refine lv_aload_n hx hb dX6_quarter_34 rfl (lv_at hl 0 rfl) ?_
      refine p_get (v := .ref y11) hx hb hts inX6 hown hK hP hLp0 hKp0 rfl rfl 2 (by decide) (hts _ pq351) (congrArg (fun q => some (va_rf q)) ey11) dX6_quarter_35 ?_
      refine p_get (v := .ref y14) hx hb hts inX1 hown hK hP hLy11 hKy11 rfl rfl 0 (by decide) (hts _ pq216) (congrArg (fun q => some (va_rf q)) ey14) dX6_quarter_38 ?_
      refine lv_iload_n hx hb dX6_quarter_41 rfl (lv_at hl 1 rfl) ?_
      refine p_aaldR hx hb hK hP 3 hLy14 hKy14 rfl rfl (in_of (by omega) (by omega)) ey18 dX6_quarter_42 ?_
      refine sw_v (Z := (Iv L K x0 m0 tx tm)) (va_runV (As := [.ref y18]) (rest := []) ⟨hx, hb, hml, hown, hts⟩ (s_X3_becomeQuartered l dC dI cs L K G Q hQ x0 m0 tx tm H.size I J hI y31 hLy31 hKy31 y18 hLy18 hKy18 (by rw [← ez19]; omega)) (cwV 1 hts (gV pq729 pq730 pq731 pq76 pq732) rfl rfl rfl (by decide +kernel) ⟨(by rw [hR]; exact (Nat.le_of_ble_eq_true rfl)), (by rw [hR]; exact (Nat.le_of_ble_eq_true rfl))⟩) (sP_V hP hD hK hN hLy31 hKy31 rfl rfl) rfl rfl hl.1 rfl (lv_room (Nat.le_of_ble_eq_true rfl)) dX6_quarter_43 ⟨(by rw [hR]; exact (Nat.le_of_ble_eq_true rfl)), (by rw [hR]; exact (Nat.le_of_ble_eq_true rfl))⟩) hS hAL hA (fun Iz43 Jz43 H locs hz43 hIz43 hP hS => ?_)
      refine lv_aload_n hx hb dX6_quarter_46 rfl (lv_at hl 0 rfl) ?_
      refine lv_iload_n hx hb dX6_quarter_47 rfl (lv_at hl 1 rfl) ?_
      refine sa_v (va_runV (As := [.int p1]) (rest := []) ⟨hx, hb, hml, hown, hts⟩ (s_X6_actBySketch l dC dI cs L K G Q hQ x0 m0 tx tm hx0 hm0 H.size Iz43 Jz43 hIz43 p0 hLp0 hKp0 p1 ⟨by omega, by omega⟩) (cwV 1 hts (gV pq687 pq689 pq5 pq74 pq690) rfl rfl rfl (by decide +kernel) ⟨(by rw [hR]; exact (Nat.le_of_ble_eq_true rfl)), (by rw [hR]; exact (Nat.le_of_ble_eq_true rfl))⟩) (sP_V hP hD hK hN hLp0 hKp0 rfl rfl) rfl rfl hl.1 rfl (lv_room (Nat.le_of_ble_eq_true rfl)) dX6_quarter_48 ⟨(by rw [hR]; exact (Nat.le_of_ble_eq_true rfl)), (by rw [hR]; exact (Nat.le_of_ble_eq_true rfl))⟩) hS hAL hA (fun L K G Q Iz48 Jz48 H locs hz48 hE hQn hIz48 hDn hALn hP zp48 hS => ?_)
      have hKp0 := (hE p0 hLp0).2.1.trans hKp0
      have hLp0 := (hE p0 hLp0).1
      have hx0 := (hE x0 hx0).1
      have hm0 := (hE m0 hm0).1
      have hX := extW_trans hX hE
      have hQ := hQn
      have hD := hDn
      have hAL := hALn
      refine W.widen (k := 29) (n := 807) (Nat.le_of_ble_eq_true rfl) (Nat.le_of_ble_eq_true rfl) ?_
      refine lv_aload_n hx hb dX6_quarter_51 rfl (lv_at hl 0 rfl) ?_
      obtain ⟨y52, ey52, hLy52, hKy52⟩ := oQ_6_6 (Sv_at hQ hLp0 hKp0)
      refine p_get (v := .ref y52) hx hb hts inX6 hown hK hP hLp0 hKp0 rfl rfl 6 (by decide) (hts _ pq355) (congrArg (fun q => some (va_rf q)) ey52) dX6_quarter_52 ?_
      refine p_get hx hb hts inX3 hown hK hP hLy52 hKy52 rfl rfl 0 (by decide) (hts _ pq119) rfl dX6_quarter_55 ?_
      refine lv_topi (fun z55 ez55 => ?_)
      have bz55 := oI_3_0 (Iv_at hIz48 hLy52 hKy52)
      rw [← ez55] at bz55
      subst hR; subst hQz
      exact W.iret (v := z55) hx hb hr (fun t ht hW => ⟨⟨z55, (), rfl, trivial, ⟨L, K, G, Q, Iz48, Jz48, hX, hQ, hIz48, fun F => (hD F).weaken (fun _ _ _ _ => trivial), fun q h => hAe2 q (hAL q h), by rw [ht]; exact hP, trivial⟩⟩, hS.F ht⟩) hS.2.2 dX6_quarter_58
    · have t24 := tq_nle (k := z19.toInt) (q := (40)) c24 rfl (by decide +kernel)
      refine lv_bipush (v := (-2)) hx hb dX6_quarter_27 (by decide +kernel) ?_
      subst hR; subst hQz
      refine W.widen (k := 29) (n := 807) (Nat.le_of_ble_eq_true rfl) (Nat.le_of_ble_eq_true rfl) ?_
      exact W.iret (v := (-2)) hx hb hr (fun t ht hW => ⟨⟨(-2), (), rfl, trivial, ⟨L, K, G, Q, I, J, hX, hQ, hI, fun F => (hD F).weaken (fun _ _ _ _ => trivial), fun q h => hAe2 q (hAL q h), by rw [ht]; exact hP, trivial⟩⟩, hS.F ht⟩) hS.2.2 dX6_quarter_29
  · have t5 := tq_eq (k := z2.toInt) (q := (0)) c5 rfl (by decide +kernel)
    refine lv_iconst (v := (-1)) hx hb dX6_quarter_8 (by decide +kernel) ?_
    subst hR; subst hQz
    refine W.widen (k := 29) (n := 807) (Nat.le_of_ble_eq_true rfl) (Nat.le_of_ble_eq_true rfl) ?_
    exact W.iret (v := (-1)) hx hb hr (fun t ht hW => ⟨⟨(-1), (), rfl, trivial, ⟨L, K, G, Q, I, J, hX, hQ, hI, fun F => (hD F).weaken (fun _ _ _ _ => trivial), fun q h => hAe2 q (hAL q h), by rw [ht]; exact hP, trivial⟩⟩, hS.F ht⟩) hS.2.2 dX6_quarter_9
