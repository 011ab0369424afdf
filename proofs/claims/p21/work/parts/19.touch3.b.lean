abbrev cX6_join : ByteArray := prog_1_method_13_code
abbrev cX6_quarter : ByteArray := prog_1_method_17_code
def yX6_join : MethodName := ⟨RX6, "join", "(IIIII)I"⟩
def yX6_quarter : MethodName := ⟨RX6, "quarter", "(I)I"⟩
theorem dX6_join_0 : decode cX6_join 0 = .ok (.aload_n 0, 1) := by decide +kernel
theorem dX6_join_1 : decode cX6_join 1 = .ok (.iload_n 1, 1) := by decide +kernel
theorem dX6_join_2 : decode cX6_join 2 = .ok (.invokevirtual 130, 3) := by decide +kernel
theorem dX6_join_5 : decode cX6_join 5 = .ok (.ifCond .eq 39, 3) := by decide +kernel
theorem dX6_join_8 : decode cX6_join 8 = .ok (.aload_n 0, 1) := by decide +kernel
theorem dX6_join_9 : decode cX6_join 9 = .ok (.iload_n 2, 1) := by decide +kernel
theorem dX6_join_10 : decode cX6_join 10 = .ok (.invokevirtual 130, 3) := by decide +kernel
theorem dX6_join_13 : decode cX6_join 13 = .ok (.ifCond .eq 31, 3) := by decide +kernel
theorem dX6_join_16 : decode cX6_join 16 = .ok (.iload_n 3, 1) := by decide +kernel
theorem dX6_join_17 : decode cX6_join 17 = .ok (.bipush 99, 2) := by decide +kernel
theorem dX6_join_19 : decode cX6_join 19 = .ok (.invokestatic 90, 3) := by decide +kernel
theorem dX6_join_22 : decode cX6_join 22 = .ok (.ifCond .eq 22, 3) := by decide +kernel
theorem dX6_join_25 : decode cX6_join 25 = .ok (.iload 4, 2) := by decide +kernel
theorem dX6_join_27 : decode cX6_join 27 = .ok (.bipush 99, 2) := by decide +kernel
theorem dX6_join_29 : decode cX6_join 29 = .ok (.invokestatic 90, 3) := by decide +kernel
theorem dX6_join_32 : decode cX6_join 32 = .ok (.ifCond .eq 12, 3) := by decide +kernel
theorem dX6_join_35 : decode cX6_join 35 = .ok (.iload 5, 2) := by decide +kernel
theorem dX6_join_37 : decode cX6_join 37 = .ok (.iconst 3, 1) := by decide +kernel
theorem dX6_join_38 : decode cX6_join 38 = .ok (.invokestatic 109, 3) := by decide +kernel
theorem dX6_join_41 : decode cX6_join 41 = .ok (.ifCond .ne 5, 3) := by decide +kernel
theorem dX6_join_44 : decode cX6_join 44 = .ok (.iconst (-1), 1) := by decide +kernel
theorem dX6_join_45 : decode cX6_join 45 = .ok (.ireturn, 1) := by decide +kernel
theorem dX6_join_46 : decode cX6_join 46 = .ok (.aload_n 0, 1) := by decide +kernel
theorem dX6_join_47 : decode cX6_join 47 = .ok (.getfield 48, 3) := by decide +kernel
theorem dX6_join_50 : decode cX6_join 50 = .ok (.aload_n 0, 1) := by decide +kernel
theorem dX6_join_51 : decode cX6_join 51 = .ok (.getfield 20, 3) := by decide +kernel
theorem dX6_join_54 : decode cX6_join 54 = .ok (.getfield 133, 3) := by decide +kernel
theorem dX6_join_57 : decode cX6_join 57 = .ok (.iload_n 1, 1) := by decide +kernel
theorem dX6_join_58 : decode cX6_join 58 = .ok (.aaload, 1) := by decide +kernel
theorem dX6_join_59 : decode cX6_join 59 = .ok (.aload_n 0, 1) := by decide +kernel
theorem dX6_join_60 : decode cX6_join 60 = .ok (.getfield 20, 3) := by decide +kernel
theorem dX6_join_63 : decode cX6_join 63 = .ok (.getfield 133, 3) := by decide +kernel
theorem dX6_join_66 : decode cX6_join 66 = .ok (.iload_n 2, 1) := by decide +kernel
theorem dX6_join_67 : decode cX6_join 67 = .ok (.aaload, 1) := by decide +kernel
theorem dX6_join_68 : decode cX6_join 68 = .ok (.iload_n 3, 1) := by decide +kernel
theorem dX6_join_69 : decode cX6_join 69 = .ok (.iload 4, 2) := by decide +kernel
theorem dX6_join_71 : decode cX6_join 71 = .ok (.iload 5, 2) := by decide +kernel
theorem dX6_join_73 : decode cX6_join 73 = .ok (.invokevirtual 163, 3) := by decide +kernel
theorem dX6_join_76 : decode cX6_join 76 = .ok (.aload_n 0, 1) := by decide +kernel
theorem dX6_join_77 : decode cX6_join 77 = .ok (.iload_n 1, 1) := by decide +kernel
theorem dX6_join_78 : decode cX6_join 78 = .ok (.invokevirtual 157, 3) := by decide +kernel
theorem dX6_join_81 : decode cX6_join 81 = .ok (.aload_n 0, 1) := by decide +kernel
theorem dX6_join_82 : decode cX6_join 82 = .ok (.getfield 48, 3) := by decide +kernel
theorem dX6_join_85 : decode cX6_join 85 = .ok (.getfield 150, 3) := by decide +kernel
theorem dX6_join_88 : decode cX6_join 88 = .ok (.ireturn, 1) := by decide +kernel
theorem dX6_quarter_0 : decode cX6_quarter 0 = .ok (.aload_n 0, 1) := by decide +kernel
theorem dX6_quarter_1 : decode cX6_quarter 1 = .ok (.iload_n 1, 1) := by decide +kernel
theorem dX6_quarter_2 : decode cX6_quarter 2 = .ok (.invokevirtual 130, 3) := by decide +kernel
theorem dX6_quarter_5 : decode cX6_quarter 5 = .ok (.ifCond .ne 5, 3) := by decide +kernel
theorem dX6_quarter_8 : decode cX6_quarter 8 = .ok (.iconst (-1), 1) := by decide +kernel
theorem dX6_quarter_9 : decode cX6_quarter 9 = .ok (.ireturn, 1) := by decide +kernel
theorem dX6_quarter_10 : decode cX6_quarter 10 = .ok (.aload_n 0, 1) := by decide +kernel
theorem dX6_quarter_11 : decode cX6_quarter 11 = .ok (.getfield 20, 3) := by decide +kernel
theorem dX6_quarter_14 : decode cX6_quarter 14 = .ok (.getfield 133, 3) := by decide +kernel
theorem dX6_quarter_17 : decode cX6_quarter 17 = .ok (.iload_n 1, 1) := by decide +kernel
theorem dX6_quarter_18 : decode cX6_quarter 18 = .ok (.aaload, 1) := by decide +kernel
theorem dX6_quarter_19 : decode cX6_quarter 19 = .ok (.getfield 170, 3) := by decide +kernel
theorem dX6_quarter_22 : decode cX6_quarter 22 = .ok (.bipush 40, 2) := by decide +kernel
theorem dX6_quarter_24 : decode cX6_quarter 24 = .ok (.if_icmp .le 6, 3) := by decide +kernel
theorem dX6_quarter_27 : decode cX6_quarter 27 = .ok (.bipush (-2), 2) := by decide +kernel
theorem dX6_quarter_29 : decode cX6_quarter 29 = .ok (.ireturn, 1) := by decide +kernel
theorem dX6_quarter_30 : decode cX6_quarter 30 = .ok (.aload_n 0, 1) := by decide +kernel
theorem dX6_quarter_31 : decode cX6_quarter 31 = .ok (.getfield 48, 3) := by decide +kernel
theorem dX6_quarter_34 : decode cX6_quarter 34 = .ok (.aload_n 0, 1) := by decide +kernel
theorem dX6_quarter_35 : decode cX6_quarter 35 = .ok (.getfield 20, 3) := by decide +kernel
theorem dX6_quarter_38 : decode cX6_quarter 38 = .ok (.getfield 133, 3) := by decide +kernel
theorem dX6_quarter_41 : decode cX6_quarter 41 = .ok (.iload_n 1, 1) := by decide +kernel
theorem dX6_quarter_42 : decode cX6_quarter 42 = .ok (.aaload, 1) := by decide +kernel
theorem dX6_quarter_43 : decode cX6_quarter 43 = .ok (.invokevirtual 201, 3) := by decide +kernel
theorem dX6_quarter_46 : decode cX6_quarter 46 = .ok (.aload_n 0, 1) := by decide +kernel
theorem dX6_quarter_47 : decode cX6_quarter 47 = .ok (.iload_n 1, 1) := by decide +kernel
theorem dX6_quarter_48 : decode cX6_quarter 48 = .ok (.invokevirtual 157, 3) := by decide +kernel
theorem dX6_quarter_51 : decode cX6_quarter 51 = .ok (.aload_n 0, 1) := by decide +kernel
theorem dX6_quarter_52 : decode cX6_quarter 52 = .ok (.getfield 48, 3) := by decide +kernel
theorem dX6_quarter_55 : decode cX6_quarter 55 = .ok (.getfield 170, 3) := by decide +kernel
theorem dX6_quarter_58 : decode cX6_quarter 58 = .ok (.ireturn, 1) := by decide +kernel
set_option maxRecDepth 100000 in
theorem pq704 : Cond.methodLink RX6 163 yX3_becomeJoined ∈ pw := pw_mem (i := 704) (by decide +kernel) rfl
set_option maxRecDepth 100000 in
theorem pq705 : Cond.instanceMethod yX3_becomeJoined ∈ pw := pw_mem (i := 705) (by decide +kernel) rfl
set_option maxRecDepth 100000 in
theorem pq706 : Cond.selects RX3 yX3_becomeJoined yX3_becomeJoined ∈ pw := pw_mem (i := 706) (by decide +kernel) rfl
set_option maxRecDepth 100000 in
theorem pq707 : Cond.code yX3_becomeJoined cX3_becomeJoined 12 none ∈ pw := pw_mem (i := 707) (by rfl) rfl
set_option maxRecDepth 100000 in
theorem pq729 : Cond.methodLink RX6 201 yX3_becomeQuartered ∈ pw := pw_mem (i := 729) (by decide +kernel) rfl
set_option maxRecDepth 100000 in
theorem pq730 : Cond.instanceMethod yX3_becomeQuartered ∈ pw := pw_mem (i := 730) (by decide +kernel) rfl
set_option maxRecDepth 100000 in
theorem pq731 : Cond.selects RX3 yX3_becomeQuartered yX3_becomeQuartered ∈ pw := pw_mem (i := 731) (by decide +kernel) rfl
set_option maxRecDepth 100000 in
theorem pq732 : Cond.code yX3_becomeQuartered cX3_becomeQuartered 4 none ∈ pw := pw_mem (i := 732) (by rfl) rfl
set_option maxHeartbeats 4000000 in
set_option maxRecDepth 100000 in
theorem s_X6_join (l : Launch) (dC : Nat → ClassId) (dI : Nat → Nat → Nat) (cs : Nat → ClassId) (L0 : List Nat) (K0 G0 : Nat → Nat) (Q0 : Nat → Nat → Option Nat) (hQ : Sv L0 K0 G0 Q0) (x0 m0 : Nat) (tx : GT) (tm : GT × Int) (hx0 : x0 ∈ L0) (hm0 : m0 ∈ L0) (sz : Nat) (I : Nat → Nat → Int32) (J : Nat → Nat → Int64) (hI : Iv L0 K0 x0 m0 tx tm I) (p0 : Nat) (hLp0 : p0 ∈ L0) (hKp0 : K0 p0 = 6) (p1 : Int32) (p2 : Int32) (p3 : Int32) (p4 : Int32) (p5 : Int32) : Met l yX6_join (.code yX6_join cX6_join 6 (some .int) :: pw) ({ frames := 6, cells := 29, slots := 807, locals := 152 }) (sP (dC, dI) cs [.ref p0, .int p1, .int p2, .int p3, .int p4, .int p5] sz L0 K0 I J Q0) (va_Qi (fun (r : Int32) (_ : Unit) => True) (fun _ t => sA (dC, dI) cs L0 K0 G0 Q0 x0 m0 tx tm sz (fun L K G Q I1 => cxT Q0 I p0 Q I1 ∧ (∀ b, b ∈ L0 → (K0 b = 7 ∨ K0 b = 18 ∨ K0 b = 19 ∨ K0 b = 20 ∨ K0 b = 24) → I1 b = I b)) t) (fun q => q ∈ L0 ∨ sz ≤ q)) 29 807 (fun q => q ∈ L0 ∨ sz ≤ q) := by
  refine Met.ofW (cc := cX6_join) (maxL := 6) (ret := (some .int)) (by decide +kernel) rfl ?_
  intro p e s m args below meth c s₁ B hml hv
  obtain ⟨rfl, hsz, hP, hK, hD0, hN⟩ := hv
  have hx := B.exec
  have hb := B.bytes
  have hr := B.returns
  have hts := fun w (h : w ∈ pw) => atoms_spec (ws := Cond.code yX6_join cX6_join 6 (some .int) :: pw) B.pre w (List.mem_cons_of_mem _ h)
  have hown : s.vm.findClass RX6 = some m.cls := findClass_of_methodNamed B.named
  have hlocks := B.notSynchronized
  subst hsz
  have hBB : 999 ≤ tm.2 ∧ tm.2 ≤ 6000000 := hI.2.2.2.2.1
  have dn_I : (∀ b, b ∈ L0 → (K0 b = 7 ∨ K0 b = 18 ∨ K0 b = 19 ∨ K0 b = 20 ∨ K0 b = 24) → I b = I b) := fun _ _ _ => rfl
  obtain ⟨A, hAe⟩ : ∃ A : Nat → Prop, A = (fun q => q ∈ L0 ∨ s.heap.size ≤ q) := ⟨_, rfl⟩
  rw [← hAe]
  have hAL : ∀ q, q ∈ L0 → A q := fun q h => by rw [hAe]; exact Or.inl h
  have hA : ∀ q, s.heap.size ≤ q → A q := fun q h => by rw [hAe]; exact Or.inr h
  have hD : ∀ F, va_D A (va_pl L0 F) := fun F => (hD0 F).weaken (fun k q hk _ => hAL _ (pl_mem hk))
  obtain ⟨H, hHe⟩ : ∃ H : Heap, H = s.heap := ⟨_, rfl⟩
  have hS : va_S A s.heap H [] := by rw [hHe]; exact va_S.rf
  rw [← hHe] at hP
  have hl := lv_entry ([.ref p0, .int p1, .int p2, .int p3, .int p4, .int p5]) (n := 6) (Nat.le_of_ble_eq_true rfl)
  rw [lg_entry_eq]
  generalize (lg_sl ([.ref p0, .int p1, .int p2, .int p3, .int p4, .int p5]) ++ List.replicate (6 - (lg_sl ([.ref p0, .int p1, .int p2, .int p3, .int p4, .int p5])).length) Slot.unset).toArray = ls at hl ⊢
  have hl : lv_has ls 6 [(0, .ref p0), (1, .int p1), (2, .int p2), (3, .int p3), (4, .int p4), (5, .int p5)] := hl
  rw [← hHe]
  refine namedW (fun R Qz hR hQz => ?_)
  have hAe2 : ∀ q, A q → q ∈ L0 ∨ H.size ≤ q := fun q h => by rw [hHe]; rw [hAe] at h; exact h
  have hQ0 := hQ
  have hK0p0 := hKp0
  have hL0p0 := hLp0
  obtain ⟨L, K, G, Q, hX, hQ, hI, hP, hD, hAL, hx0, hm0, hLp0, hKp0, cn_I⟩ : ∃ L K G Q, extW L0 K0 G0 Q0 L K G Q ∧ Sv L K G Q ∧ Iv L K x0 m0 tx tm I ∧ va_P (dC, dI) vwCl (Wd cs L K I J Q) H ∧ (∀ F, va_D A (va_pl L F)) ∧ (∀ q, q ∈ L → A q) ∧ x0 ∈ L ∧ m0 ∈ L ∧ p0 ∈ L ∧ K p0 = 6 ∧ cxT Q0 I p0 Q I := ⟨L0, K0, G0, Q0, extW_refl, hQ, hI, hP, hD, hAL, hx0, hm0, hLp0, hKp0, cxT_refl⟩
  refine lv_aload_n hx hb dX6_join_0 rfl (lv_at hl 0 rfl) ?_
  refine lv_iload_n hx hb dX6_join_1 rfl (lv_at hl 1 rfl) ?_
  refine ro_i (va_runV (As := [.int p1]) (rest := []) ⟨hx, hb, hml, hown, hts⟩ (s_X6_isMask l dC dI cs L K G Q hQ x0 m0 tx tm H.size I J hI p0 hLp0 hKp0 p1) (cwV 1 hts (gV pq666 pq668 pq4 pq74 pq669) rfl rfl rfl (by decide +kernel) ⟨(by rw [hR]; exact (Nat.le_of_ble_eq_true rfl)), (by rw [hR]; exact (Nat.le_of_ble_eq_true rfl))⟩) (sP_V hP hD hK hN hLp0 hKp0 rfl rfl) rfl rfl hl.1 rfl (lv_room (Nat.le_of_ble_eq_true rfl)) dX6_join_2 ⟨(by rw [hR]; exact (Nat.le_of_ble_eq_true rfl)), (by rw [hR]; exact (Nat.le_of_ble_eq_true rfl))⟩) hS hP (fun z2 H locs hz2 hP hS => ?_)
  obtain ⟨bz2, imz2⟩ := hz2
  refine lv_if_eq (tgt := 44) hx hb dX6_join_5 (by decide) (fun c5 => ?_) (fun c5 => ?_)
  · have t5 := tq_eq (k := z2.toInt) (q := (0)) c5 rfl (by decide +kernel)
    refine lv_iconst (v := (-1)) hx hb dX6_join_44 (by decide +kernel) ?_
    subst hR; subst hQz
    refine W.widen (k := 29) (n := 807) (Nat.le_of_ble_eq_true rfl) (Nat.le_of_ble_eq_true rfl) ?_
    exact W.iret (v := (-1)) hx hb hr (fun t ht hW => ⟨⟨(-1), (), rfl, trivial, ⟨L, K, G, Q, I, J, hX, hQ, hI, fun F => (hD F).weaken (fun _ _ _ _ => trivial), fun q h => hAe2 q (hAL q h), by rw [ht]; exact hP, ⟨cn_I, dn_I⟩⟩⟩, hS.F ht⟩) hS.2.2 dX6_join_45
  · have t5 := tq_ne (k := z2.toInt) (q := (0)) c5 rfl (by decide +kernel)
    have i5 := imz2 t5
    refine lv_aload_n hx hb dX6_join_8 rfl (lv_at hl 0 rfl) ?_
    refine lv_iload_n hx hb dX6_join_9 rfl (lv_at hl 2 rfl) ?_
    refine ro_i (va_runV (As := [.int p2]) (rest := []) ⟨hx, hb, hml, hown, hts⟩ (s_X6_isMask l dC dI cs L K G Q hQ x0 m0 tx tm H.size I J hI p0 hLp0 hKp0 p2) (cwV 1 hts (gV pq666 pq668 pq4 pq74 pq669) rfl rfl rfl (by decide +kernel) ⟨(by rw [hR]; exact (Nat.le_of_ble_eq_true rfl)), (by rw [hR]; exact (Nat.le_of_ble_eq_true rfl))⟩) (sP_V hP hD hK hN hLp0 hKp0 rfl rfl) rfl rfl hl.1 rfl (lv_room (Nat.le_of_ble_eq_true rfl)) dX6_join_10 ⟨(by rw [hR]; exact (Nat.le_of_ble_eq_true rfl)), (by rw [hR]; exact (Nat.le_of_ble_eq_true rfl))⟩) hS hP (fun z10 H locs hz10 hP hS => ?_)
    obtain ⟨bz10, imz10⟩ := hz10
    refine lv_if_eq (tgt := 44) hx hb dX6_join_13 (by decide) (fun c13 => ?_) (fun c13 => ?_)
    · have t13 := tq_eq (k := z10.toInt) (q := (0)) c13 rfl (by decide +kernel)
      refine lv_iconst (v := (-1)) hx hb dX6_join_44 (by decide +kernel) ?_
      subst hR; subst hQz
      refine W.widen (k := 29) (n := 807) (Nat.le_of_ble_eq_true rfl) (Nat.le_of_ble_eq_true rfl) ?_
      exact W.iret (v := (-1)) hx hb hr (fun t ht hW => ⟨⟨(-1), (), rfl, trivial, ⟨L, K, G, Q, I, J, hX, hQ, hI, fun F => (hD F).weaken (fun _ _ _ _ => trivial), fun q h => hAe2 q (hAL q h), by rw [ht]; exact hP, ⟨cn_I, dn_I⟩⟩⟩, hS.F ht⟩) hS.2.2 dX6_join_45
    · have t13 := tq_ne (k := z10.toInt) (q := (0)) c13 rfl (by decide +kernel)
      have i13 := imz10 t13
      refine lv_iload_n hx hb dX6_join_16 rfl (lv_at hl 3 rfl) ?_
      refine lv_bipush (v := 99) hx hb dX6_join_17 (by decide +kernel) ?_
      refine ro_i (va_runS (As := [.int p3, .int 99]) (rest := []) ⟨hx, hb, hml, hown, hts⟩ (s_X6_isWithin l dC dI cs L K G Q hQ x0 m0 tx tm H.size I J hI p3 99 ⟨by decide +kernel, by decide +kernel⟩) (va_cwS 2 hts (gS pq640 pq641 pq74 pq642) rfl rfl rfl (by decide +kernel) ⟨(by rw [hR]; exact (Nat.le_of_ble_eq_true rfl)), (by rw [hR]; exact (Nat.le_of_ble_eq_true rfl))⟩) (sP_S hP hD hK hN) rfl rfl hl.1 rfl (lv_room (Nat.le_of_ble_eq_true rfl)) dX6_join_19 ⟨(by rw [hR]; exact (Nat.le_of_ble_eq_true rfl)), (by rw [hR]; exact (Nat.le_of_ble_eq_true rfl))⟩) hS hP (fun z19 H locs hz19 hP hS => ?_)
      have cst19_99 : (99 : Int32).toInt = 99 := by decide +kernel
      obtain ⟨bz19, imz19⟩ := hz19
      refine lv_if_eq (tgt := 44) hx hb dX6_join_22 (by decide) (fun c22 => ?_) (fun c22 => ?_)
      · have t22 := tq_eq (k := z19.toInt) (q := (0)) c22 rfl (by decide +kernel)
        refine lv_iconst (v := (-1)) hx hb dX6_join_44 (by decide +kernel) ?_
        subst hR; subst hQz
        refine W.widen (k := 29) (n := 807) (Nat.le_of_ble_eq_true rfl) (Nat.le_of_ble_eq_true rfl) ?_
        exact W.iret (v := (-1)) hx hb hr (fun t ht hW => ⟨⟨(-1), (), rfl, trivial, ⟨L, K, G, Q, I, J, hX, hQ, hI, fun F => (hD F).weaken (fun _ _ _ _ => trivial), fun q h => hAe2 q (hAL q h), by rw [ht]; exact hP, ⟨cn_I, dn_I⟩⟩⟩, hS.F ht⟩) hS.2.2 dX6_join_45
      · have t22 := tq_ne (k := z19.toInt) (q := (0)) c22 rfl (by decide +kernel)
        have i22 := imz19 t22
        refine lv_iload hx hb dX6_join_25 (lv_at hl 4 rfl) ?_
        refine lv_bipush (v := 99) hx hb dX6_join_27 (by decide +kernel) ?_
        refine ro_i (va_runS (As := [.int p4, .int 99]) (rest := []) ⟨hx, hb, hml, hown, hts⟩ (s_X6_isWithin l dC dI cs L K G Q hQ x0 m0 tx tm H.size I J hI p4 99 ⟨by decide +kernel, by decide +kernel⟩) (va_cwS 2 hts (gS pq640 pq641 pq74 pq642) rfl rfl rfl (by decide +kernel) ⟨(by rw [hR]; exact (Nat.le_of_ble_eq_true rfl)), (by rw [hR]; exact (Nat.le_of_ble_eq_true rfl))⟩) (sP_S hP hD hK hN) rfl rfl hl.1 rfl (lv_room (Nat.le_of_ble_eq_true rfl)) dX6_join_29 ⟨(by rw [hR]; exact (Nat.le_of_ble_eq_true rfl)), (by rw [hR]; exact (Nat.le_of_ble_eq_true rfl))⟩) hS hP (fun z29 H locs hz29 hP hS => ?_)
        have cst29_99 : (99 : Int32).toInt = 99 := by decide +kernel
        obtain ⟨bz29, imz29⟩ := hz29
        refine lv_if_eq (tgt := 44) hx hb dX6_join_32 (by decide) (fun c32 => ?_) (fun c32 => ?_)
        · have t32 := tq_eq (k := z29.toInt) (q := (0)) c32 rfl (by decide +kernel)
          refine lv_iconst (v := (-1)) hx hb dX6_join_44 (by decide +kernel) ?_
          subst hR; subst hQz
          refine W.widen (k := 29) (n := 807) (Nat.le_of_ble_eq_true rfl) (Nat.le_of_ble_eq_true rfl) ?_
          exact W.iret (v := (-1)) hx hb hr (fun t ht hW => ⟨⟨(-1), (), rfl, trivial, ⟨L, K, G, Q, I, J, hX, hQ, hI, fun F => (hD F).weaken (fun _ _ _ _ => trivial), fun q h => hAe2 q (hAL q h), by rw [ht]; exact hP, ⟨cn_I, dn_I⟩⟩⟩, hS.F ht⟩) hS.2.2 dX6_join_45
        · have t32 := tq_ne (k := z29.toInt) (q := (0)) c32 rfl (by decide +kernel)
          have i32 := imz29 t32
          refine lv_iload hx hb dX6_join_35 (lv_at hl 5 rfl) ?_
          refine lv_iconst (v := 3) hx hb dX6_join_37 (by decide +kernel) ?_
          refine ro_i (va_runS (As := [.int p5, .int 3]) (rest := []) ⟨hx, hb, hml, hown, hts⟩ (s_X6_isFrom0To l dC dI cs L K G Q hQ x0 m0 tx tm H.size I J hI p5 3) (va_cwS 2 hts (gS pq651 pq652 pq74 pq653) rfl rfl rfl (by decide +kernel) ⟨(by rw [hR]; exact (Nat.le_of_ble_eq_true rfl)), (by rw [hR]; exact (Nat.le_of_ble_eq_true rfl))⟩) (sP_S hP hD hK hN) rfl rfl hl.1 rfl (lv_room (Nat.le_of_ble_eq_true rfl)) dX6_join_38 ⟨(by rw [hR]; exact (Nat.le_of_ble_eq_true rfl)), (by rw [hR]; exact (Nat.le_of_ble_eq_true rfl))⟩) hS hP (fun z38 H locs hz38 hP hS => ?_)
          have cst38_3 : (3 : Int32).toInt = 3 := by decide +kernel
          obtain ⟨bz38, imz38, xpz38⟩ := hz38
          try rw [cst38_3] at xpz38
          refine lv_if_ne (tgt := 46) hx hb dX6_join_41 (by decide) (fun c41 => ?_) (fun c41 => ?_)
          · have t41 := tq_ne (k := z38.toInt) (q := (0)) c41 rfl (by decide +kernel)
            have i41 := imz38 t41
            refine lv_aload_n hx hb dX6_join_46 rfl (lv_at hl 0 rfl) ?_
            obtain ⟨y47, ey47, hLy47, hKy47⟩ := oQ_6_6 (Sv_at hQ hLp0 hKp0)
            refine p_get (v := .ref y47) hx hb hts inX6 hown hK hP hLp0 hKp0 rfl rfl 6 (by decide) (hts _ pq355) (congrArg (fun q => some (va_rf q)) ey47) dX6_join_47 ?_
            refine lv_aload_n hx hb dX6_join_50 rfl (lv_at hl 0 rfl) ?_
            obtain ⟨y51, ey51, hLy51, hKy51, hGy51⟩ := oQ_6_2 (Sv_at hQ hLp0 hKp0)
            refine p_get (v := .ref y51) hx hb hts inX6 hown hK hP hLp0 hKp0 rfl rfl 2 (by decide) (hts _ pq351) (congrArg (fun q => some (va_rf q)) ey51) dX6_join_51 ?_
            obtain ⟨y54, ey54, hLy54, hKy54, hGy54⟩ := oQ_1_0 (Sv_at hQ hLy51 hKy51)
            refine p_get (v := .ref y54) hx hb hts inX1 hown hK hP hLy51 hKy51 rfl rfl 0 (by decide) (hts _ pq216) (congrArg (fun q => some (va_rf q)) ey54) dX6_join_54 ?_
            refine lv_iload_n hx hb dX6_join_57 rfl (lv_at hl 1 rfl) ?_
            obtain ⟨y58, ey58, hLy58, hKy58, hGy58⟩ := (Sv_at hQ hLy54 hKy54).1 p1.toNatClampNeg (clamp_lt (n := 8) (in_of (by omega) (by omega)))
            refine p_aaldR hx hb hK hP 3 hLy54 hKy54 rfl rfl (in_of (by omega) (by omega)) ey58 dX6_join_58 ?_
            refine lv_aload_n hx hb dX6_join_59 rfl (lv_at hl 0 rfl) ?_
            refine p_get (v := .ref y51) hx hb hts inX6 hown hK hP hLp0 hKp0 rfl rfl 2 (by decide) (hts _ pq351) (congrArg (fun q => some (va_rf q)) ey51) dX6_join_60 ?_
            refine p_get (v := .ref y54) hx hb hts inX1 hown hK hP hLy51 hKy51 rfl rfl 0 (by decide) (hts _ pq216) (congrArg (fun q => some (va_rf q)) ey54) dX6_join_63 ?_
            refine lv_iload_n hx hb dX6_join_66 rfl (lv_at hl 2 rfl) ?_
            obtain ⟨y67, ey67, hLy67, hKy67, hGy67⟩ := (Sv_at hQ hLy54 hKy54).1 p2.toNatClampNeg (clamp_lt (n := 8) (in_of (by omega) (by omega)))
            refine p_aaldR hx hb hK hP 3 hLy54 hKy54 rfl rfl (in_of (by omega) (by omega)) ey67 dX6_join_67 ?_
            refine lv_iload_n hx hb dX6_join_68 rfl (lv_at hl 3 rfl) ?_
            refine lv_iload hx hb dX6_join_69 (lv_at hl 4 rfl) ?_
            refine lv_iload hx hb dX6_join_71 (lv_at hl 5 rfl) ?_
            refine sw_v (Z := (fun I1 => Iv L K x0 m0 tx tm I1 ∧ (∀ b, ¬ (b = y47) → I1 b = I b))) (va_runV (As := [.ref y58, .ref y67, .int p3, .int p4, .int p5]) (rest := []) ⟨hx, hb, hml, hown, hts⟩ (s_X3_becomeJoined l dC dI cs L K G Q hQ x0 m0 tx tm H.size I J hI y47 hLy47 hKy47 y58 hLy58 hKy58 y67 hLy67 hKy67 p3 p4 p5) (cwV 5 hts (gV pq704 pq705 pq706 pq76 pq707) rfl rfl rfl (by decide +kernel) ⟨(by rw [hR]; exact (Nat.le_of_ble_eq_true rfl)), (by rw [hR]; exact (Nat.le_of_ble_eq_true rfl))⟩) (sP_V hP hD hK hN hLy47 hKy47 rfl rfl) rfl rfl hl.1 rfl (lv_room (Nat.le_of_ble_eq_true rfl)) dX6_join_73 ⟨(by rw [hR]; exact (Nat.le_of_ble_eq_true rfl)), (by rw [hR]; exact (Nat.le_of_ble_eq_true rfl))⟩) hS hAL hA (fun Iz73 Jz73 H locs hz73 hIz73 hP hS => ?_)
            obtain ⟨hIz73, frc73⟩ := hIz73
            have dn_Iz73 : (∀ b, b ∈ L0 → (K0 b = 7 ∨ K0 b = 18 ∨ K0 b = 19 ∨ K0 b = 20 ∨ K0 b = 24) → Iz73 b = I b) := fun b hb hc => (frc73 b (fun z => by have w := (hX b hb).2.1; have q := hKy47; rw [← z] at q; omega)).trans (dn_I b hb hc)
            have cn_Iz73 := cxT_fr hQ hLp0 hKp0 cn_I (fun b hb => congrFun (frc73 b (ne_k hb hKy47 (by decide))) 3) (congrFun (frc73 p0 (ne_k hKp0 hKy47 (by decide))) 9) (congrFun (frc73 p0 (ne_k hKp0 hKy47 (by decide))) 10)
            refine lv_aload_n hx hb dX6_join_76 rfl (lv_at hl 0 rfl) ?_
            refine lv_iload_n hx hb dX6_join_77 rfl (lv_at hl 1 rfl) ?_
            refine sa_v (va_runV (As := [.int p1]) (rest := []) ⟨hx, hb, hml, hown, hts⟩ (s_X6_actBySketch l dC dI cs L K G Q hQ x0 m0 tx tm hx0 hm0 H.size Iz73 Jz73 hIz73 p0 hLp0 hKp0 p1 ⟨by omega, by omega⟩) (cwV 1 hts (gV pq687 pq689 pq5 pq74 pq690) rfl rfl rfl (by decide +kernel) ⟨(by rw [hR]; exact (Nat.le_of_ble_eq_true rfl)), (by rw [hR]; exact (Nat.le_of_ble_eq_true rfl))⟩) (sP_V hP hD hK hN hLp0 hKp0 rfl rfl) rfl rfl hl.1 rfl (lv_room (Nat.le_of_ble_eq_true rfl)) dX6_join_78 ⟨(by rw [hR]; exact (Nat.le_of_ble_eq_true rfl)), (by rw [hR]; exact (Nat.le_of_ble_eq_true rfl))⟩) hS hAL hA (fun L K G Q Iz78 Jz78 H locs hz78 hE hQn hIz78 hDn hALn hP zp78 hS => ?_)
            obtain ⟨cnc78, dnc78⟩ := zp78
            have dn_Iz78 : (∀ b, b ∈ L0 → (K0 b = 7 ∨ K0 b = 18 ∨ K0 b = 19 ∨ K0 b = 20 ∨ K0 b = 24) → Iz78 b = I b) := fun b hb hc => (dnc78 b (hX b hb).1 (by have w := (hX b hb).2.1; omega)).trans (dn_Iz73 b hb hc)
            have hKp0 := (hE p0 hLp0).2.1.trans hKp0
            have hLp0 := (hE p0 hLp0).1
            have hx0 := (hE x0 hx0).1
            have hm0 := (hE m0 hm0).1
            have hX := extW_trans hX hE
            have hQ := hQn
            have hD := hDn
            have hAL := hALn
            have cn_Iz78 := cxT_tr cn_Iz73 cnc78
            refine W.widen (k := 29) (n := 807) (Nat.le_of_ble_eq_true rfl) (Nat.le_of_ble_eq_true rfl) ?_
            refine lv_aload_n hx hb dX6_join_81 rfl (lv_at hl 0 rfl) ?_
            obtain ⟨y82, ey82, hLy82, hKy82⟩ := oQ_6_6 (Sv_at hQ hLp0 hKp0)
            refine p_get (v := .ref y82) hx hb hts inX6 hown hK hP hLp0 hKp0 rfl rfl 6 (by decide) (hts _ pq355) (congrArg (fun q => some (va_rf q)) ey82) dX6_join_82 ?_
            refine p_get hx hb hts inX3 hown hK hP hLy82 hKy82 rfl rfl 3 (by decide) (hts _ pq132) rfl dX6_join_85 ?_
            refine lv_topi (fun z85 ez85 => ?_)
            subst hR; subst hQz
            exact W.iret (v := z85) hx hb hr (fun t ht hW => ⟨⟨z85, (), rfl, trivial, ⟨L, K, G, Q, Iz78, Jz78, hX, hQ, hIz78, fun F => (hD F).weaken (fun _ _ _ _ => trivial), fun q h => hAe2 q (hAL q h), by rw [ht]; exact hP, ⟨cn_Iz78, dn_Iz78⟩⟩⟩, hS.F ht⟩) hS.2.2 dX6_join_88
          · have t41 := tq_eq (k := z38.toInt) (q := (0)) c41 rfl (by decide +kernel)
            refine lv_iconst (v := (-1)) hx hb dX6_join_44 (by decide +kernel) ?_
            subst hR; subst hQz
            refine W.widen (k := 29) (n := 807) (Nat.le_of_ble_eq_true rfl) (Nat.le_of_ble_eq_true rfl) ?_
            exact W.iret (v := (-1)) hx hb hr (fun t ht hW => ⟨⟨(-1), (), rfl, trivial, ⟨L, K, G, Q, I, J, hX, hQ, hI, fun F => (hD F).weaken (fun _ _ _ _ => trivial), fun q h => hAe2 q (hAL q h), by rw [ht]; exact hP, ⟨cn_I, dn_I⟩⟩⟩, hS.F ht⟩) hS.2.2 dX6_join_45

set_option maxHeartbeats 4000000 in
set_option maxRecDepth 100000 in
theorem s_X6_quarter (l : Launch) (dC : Nat → ClassId) (dI : Nat → Nat → Nat) (cs : Nat → ClassId) (L0 : List Nat) (K0 G0 : Nat → Nat) (Q0 : Nat → Nat → Option Nat) (hQ : Sv L0 K0 G0 Q0) (x0 m0 : Nat) (tx : GT) (tm : GT × Int) (hx0 : x0 ∈ L0) (hm0 : m0 ∈ L0) (sz : Nat) (I : Nat → Nat → Int32) (J : Nat → Nat → Int64) (hI : Iv L0 K0 x0 m0 tx tm I) (p0 : Nat) (hLp0 : p0 ∈ L0) (hKp0 : K0 p0 = 6) (p1 : Int32) : Met l yX6_quarter (.code yX6_quarter cX6_quarter 2 (some .int) :: pw) ({ frames := 6, cells := 29, slots := 807, locals := 152 }) (sP (dC, dI) cs [.ref p0, .int p1] sz L0 K0 I J Q0) (va_Qi (fun (r : Int32) (_ : Unit) => True) (fun _ t => sA (dC, dI) cs L0 K0 G0 Q0 x0 m0 tx tm sz (fun L K G Q I1 => cxT Q0 I p0 Q I1 ∧ (∀ b, b ∈ L0 → (K0 b = 7 ∨ K0 b = 18 ∨ K0 b = 19 ∨ K0 b = 20 ∨ K0 b = 24) → I1 b = I b)) t) (fun q => q ∈ L0 ∨ sz ≤ q)) 29 807 (fun q => q ∈ L0 ∨ sz ≤ q) := by
  refine Met.ofW (cc := cX6_quarter) (maxL := 2) (ret := (some .int)) (by decide +kernel) rfl ?_
  intro p e s m args below meth c s₁ B hml hv
  obtain ⟨rfl, hsz, hP, hK, hD0, hN⟩ := hv
  have hx := B.exec
  have hb := B.bytes
  have hr := B.returns
  have hts := fun w (h : w ∈ pw) => atoms_spec (ws := Cond.code yX6_quarter cX6_quarter 2 (some .int) :: pw) B.pre w (List.mem_cons_of_mem _ h)
  have hown : s.vm.findClass RX6 = some m.cls := findClass_of_methodNamed B.named
  have hlocks := B.notSynchronized
  subst hsz
  have hBB : 999 ≤ tm.2 ∧ tm.2 ≤ 6000000 := hI.2.2.2.2.1
  have dn_I : (∀ b, b ∈ L0 → (K0 b = 7 ∨ K0 b = 18 ∨ K0 b = 19 ∨ K0 b = 20 ∨ K0 b = 24) → I b = I b) := fun _ _ _ => rfl
  obtain ⟨A, hAe⟩ : ∃ A : Nat → Prop, A = (fun q => q ∈ L0 ∨ s.heap.size ≤ q) := ⟨_, rfl⟩
  rw [← hAe]
  have hAL : ∀ q, q ∈ L0 → A q := fun q h => by rw [hAe]; exact Or.inl h
  have hA : ∀ q, s.heap.size ≤ q → A q := fun q h => by rw [hAe]; exact Or.inr h
  have hD : ∀ F, va_D A (va_pl L0 F) := fun F => (hD0 F).weaken (fun k q hk _ => hAL _ (pl_mem hk))
  obtain ⟨H, hHe⟩ : ∃ H : Heap, H = s.heap := ⟨_, rfl⟩
  have hS : va_S A s.heap H [] := by rw [hHe]; exact va_S.rf
  rw [← hHe] at hP
  have hl := lv_entry ([.ref p0, .int p1]) (n := 2) (Nat.le_of_ble_eq_true rfl)
  rw [lg_entry_eq]
  generalize (lg_sl ([.ref p0, .int p1]) ++ List.replicate (2 - (lg_sl ([.ref p0, .int p1])).length) Slot.unset).toArray = ls at hl ⊢
  have hl : lv_has ls 2 [(0, .ref p0), (1, .int p1)] := hl
  rw [← hHe]
  refine namedW (fun R Qz hR hQz => ?_)
  have hAe2 : ∀ q, A q → q ∈ L0 ∨ H.size ≤ q := fun q h => by rw [hHe]; rw [hAe] at h; exact h
  have hQ0 := hQ
  have hK0p0 := hKp0
  have hL0p0 := hLp0
  obtain ⟨L, K, G, Q, hX, hQ, hI, hP, hD, hAL, hx0, hm0, hLp0, hKp0, cn_I⟩ : ∃ L K G Q, extW L0 K0 G0 Q0 L K G Q ∧ Sv L K G Q ∧ Iv L K x0 m0 tx tm I ∧ va_P (dC, dI) vwCl (Wd cs L K I J Q) H ∧ (∀ F, va_D A (va_pl L F)) ∧ (∀ q, q ∈ L → A q) ∧ x0 ∈ L ∧ m0 ∈ L ∧ p0 ∈ L ∧ K p0 = 6 ∧ cxT Q0 I p0 Q I := ⟨L0, K0, G0, Q0, extW_refl, hQ, hI, hP, hD, hAL, hx0, hm0, hLp0, hKp0, cxT_refl⟩
  refine lv_aload_n hx hb dX6_quarter_0 rfl (lv_at hl 0 rfl) ?_
  refine lv_iload_n hx hb dX6_quarter_1 rfl (lv_at hl 1 rfl) ?_
  refine ro_i (va_runV (As := [.int p1]) (rest := []) ⟨hx, hb, hml, hown, hts⟩ (s_X6_isMask l dC dI cs L K G Q hQ x0 m0 tx tm H.size I J hI p0 hLp0 hKp0 p1) (cwV 1 hts (gV pq666 pq668 pq4 pq74 pq669) rfl rfl rfl (by decide +kernel) ⟨(by rw [hR]; exact (Nat.le_of_ble_eq_true rfl)), (by rw [hR]; exact (Nat.le_of_ble_eq_true rfl))⟩) (sP_V hP hD hK hN hLp0 hKp0 rfl rfl) rfl rfl hl.1 rfl (lv_room (Nat.le_of_ble_eq_true rfl)) dX6_quarter_2 ⟨(by rw [hR]; exact (Nat.le_of_ble_eq_true rfl)), (by rw [hR]; exact (Nat.le_of_ble_eq_true rfl))⟩) hS hP (fun z2 H locs hz2 hP hS => ?_)
  obtain ⟨bz2, imz2⟩ := hz2
  refine lv_if_ne (tgt := 10) hx hb dX6_quarter_5 (by decide) (fun c5 => ?_) (fun c5 => ?_)
  · have t5 := tq_ne (k := z2.toInt) (q := (0)) c5 rfl (by decide +kernel)
    have i5 := imz2 t5
    refine lv_aload_n hx hb dX6_quarter_10 rfl (lv_at hl 0 rfl) ?_
    obtain ⟨y11, ey11, hLy11, hKy11, hGy11⟩ := oQ_6_2 (Sv_at hQ hLp0 hKp0)
    refine p_get (v := .ref y11) hx hb hts inX6 hown hK hP hLp0 hKp0 rfl rfl 2 (by decide) (hts _ pq351) (congrArg (fun q => some (va_rf q)) ey11) dX6_quarter_11 ?_
    obtain ⟨y14, ey14, hLy14, hKy14, hGy14⟩ := oQ_1_0 (Sv_at hQ hLy11 hKy11)
    refine p_get (v := .ref y14) hx hb hts inX1 hown hK hP hLy11 hKy11 rfl rfl 0 (by decide) (hts _ pq216) (congrArg (fun q => some (va_rf q)) ey14) dX6_quarter_14 ?_
    refine lv_iload_n hx hb dX6_quarter_17 rfl (lv_at hl 1 rfl) ?_
    obtain ⟨y18, ey18, hLy18, hKy18, hGy18⟩ := (Sv_at hQ hLy14 hKy14).1 p1.toNatClampNeg (clamp_lt (n := 8) (in_of (by omega) (by omega)))
    refine p_aaldR hx hb hK hP 3 hLy14 hKy14 rfl rfl (in_of (by omega) (by omega)) ey18 dX6_quarter_18 ?_
    refine p_get hx hb hts inX3 hown hK hP hLy18 hKy18 rfl rfl 0 (by decide) (hts _ pq119) rfl dX6_quarter_19 ?_
    refine lv_topi (fun z19 ez19 => ?_)
    have bz19 := oI_3_0 (Iv_at hI hLy18 hKy18)
    rw [← ez19] at bz19
    refine lv_bipush (v := 40) hx hb dX6_quarter_22 (by decide +kernel) ?_
    refine lv_icmp_le (tgt := 30) hx hb dX6_quarter_24 (by decide) (fun c24 => ?_) (fun c24 => ?_)
    · have t24 := tq_le (k := z19.toInt) (q := (40)) c24 rfl (by decide +kernel)
      refine lv_aload_n hx hb dX6_quarter_30 rfl (lv_at hl 0 rfl) ?_
      obtain ⟨y31, ey31, hLy31, hKy31⟩ := oQ_6_6 (Sv_at hQ hLp0 hKp0)
      refine p_get (v := .ref y31) hx hb hts inX6 hown hK hP hLp0 hKp0 rfl rfl 6 (by decide) (hts _ pq355) (congrArg (fun q => some (va_rf q)) ey31) dX6_quarter_31 ?_
      refine lv_aload_n hx hb dX6_quarter_34 rfl (lv_at hl 0 rfl) ?_
      refine p_get (v := .ref y11) hx hb hts inX6 hown hK hP hLp0 hKp0 rfl rfl 2 (by decide) (hts _ pq351) (congrArg (fun q => some (va_rf q)) ey11) dX6_quarter_35 ?_
      refine p_get (v := .ref y14) hx hb hts inX1 hown hK hP hLy11 hKy11 rfl rfl 0 (by decide) (hts _ pq216) (congrArg (fun q => some (va_rf q)) ey14) dX6_quarter_38 ?_
      refine lv_iload_n hx hb dX6_quarter_41 rfl (lv_at hl 1 rfl) ?_
      refine p_aaldR hx hb hK hP 3 hLy14 hKy14 rfl rfl (in_of (by omega) (by omega)) ey18 dX6_quarter_42 ?_
      refine sw_v (Z := (fun I1 => Iv L K x0 m0 tx tm I1 ∧ (∀ b, ¬ (b = y31) → I1 b = I b))) (va_runV (As := [.ref y18]) (rest := []) ⟨hx, hb, hml, hown, hts⟩ (s_X3_becomeQuartered l dC dI cs L K G Q hQ x0 m0 tx tm H.size I J hI y31 hLy31 hKy31 y18 hLy18 hKy18 (by rw [← ez19]; omega)) (cwV 1 hts (gV pq729 pq730 pq731 pq76 pq732) rfl rfl rfl (by decide +kernel) ⟨(by rw [hR]; exact (Nat.le_of_ble_eq_true rfl)), (by rw [hR]; exact (Nat.le_of_ble_eq_true rfl))⟩) (sP_V hP hD hK hN hLy31 hKy31 rfl rfl) rfl rfl hl.1 rfl (lv_room (Nat.le_of_ble_eq_true rfl)) dX6_quarter_43 ⟨(by rw [hR]; exact (Nat.le_of_ble_eq_true rfl)), (by rw [hR]; exact (Nat.le_of_ble_eq_true rfl))⟩) hS hAL hA (fun Iz43 Jz43 H locs hz43 hIz43 hP hS => ?_)
      obtain ⟨hIz43, frc43⟩ := hIz43
      have dn_Iz43 : (∀ b, b ∈ L0 → (K0 b = 7 ∨ K0 b = 18 ∨ K0 b = 19 ∨ K0 b = 20 ∨ K0 b = 24) → Iz43 b = I b) := fun b hb hc => (frc43 b (fun z => by have w := (hX b hb).2.1; have q := hKy31; rw [← z] at q; omega)).trans (dn_I b hb hc)
      have cn_Iz43 := cxT_fr hQ hLp0 hKp0 cn_I (fun b hb => congrFun (frc43 b (ne_k hb hKy31 (by decide))) 3) (congrFun (frc43 p0 (ne_k hKp0 hKy31 (by decide))) 9) (congrFun (frc43 p0 (ne_k hKp0 hKy31 (by decide))) 10)
      refine lv_aload_n hx hb dX6_quarter_46 rfl (lv_at hl 0 rfl) ?_
      refine lv_iload_n hx hb dX6_quarter_47 rfl (lv_at hl 1 rfl) ?_
      refine sa_v (va_runV (As := [.int p1]) (rest := []) ⟨hx, hb, hml, hown, hts⟩ (s_X6_actBySketch l dC dI cs L K G Q hQ x0 m0 tx tm hx0 hm0 H.size Iz43 Jz43 hIz43 p0 hLp0 hKp0 p1 ⟨by omega, by omega⟩) (cwV 1 hts (gV pq687 pq689 pq5 pq74 pq690) rfl rfl rfl (by decide +kernel) ⟨(by rw [hR]; exact (Nat.le_of_ble_eq_true rfl)), (by rw [hR]; exact (Nat.le_of_ble_eq_true rfl))⟩) (sP_V hP hD hK hN hLp0 hKp0 rfl rfl) rfl rfl hl.1 rfl (lv_room (Nat.le_of_ble_eq_true rfl)) dX6_quarter_48 ⟨(by rw [hR]; exact (Nat.le_of_ble_eq_true rfl)), (by rw [hR]; exact (Nat.le_of_ble_eq_true rfl))⟩) hS hAL hA (fun L K G Q Iz48 Jz48 H locs hz48 hE hQn hIz48 hDn hALn hP zp48 hS => ?_)
      obtain ⟨cnc48, dnc48⟩ := zp48
      have dn_Iz48 : (∀ b, b ∈ L0 → (K0 b = 7 ∨ K0 b = 18 ∨ K0 b = 19 ∨ K0 b = 20 ∨ K0 b = 24) → Iz48 b = I b) := fun b hb hc => (dnc48 b (hX b hb).1 (by have w := (hX b hb).2.1; omega)).trans (dn_Iz43 b hb hc)
      have hKp0 := (hE p0 hLp0).2.1.trans hKp0
      have hLp0 := (hE p0 hLp0).1
      have hx0 := (hE x0 hx0).1
      have hm0 := (hE m0 hm0).1
      have hX := extW_trans hX hE
      have hQ := hQn
      have hD := hDn
      have hAL := hALn
      have cn_Iz48 := cxT_tr cn_Iz43 cnc48
      refine W.widen (k := 29) (n := 807) (Nat.le_of_ble_eq_true rfl) (Nat.le_of_ble_eq_true rfl) ?_
      refine lv_aload_n hx hb dX6_quarter_51 rfl (lv_at hl 0 rfl) ?_
      obtain ⟨y52, ey52, hLy52, hKy52⟩ := oQ_6_6 (Sv_at hQ hLp0 hKp0)
      refine p_get (v := .ref y52) hx hb hts inX6 hown hK hP hLp0 hKp0 rfl rfl 6 (by decide) (hts _ pq355) (congrArg (fun q => some (va_rf q)) ey52) dX6_quarter_52 ?_
      refine p_get hx hb hts inX3 hown hK hP hLy52 hKy52 rfl rfl 0 (by decide) (hts _ pq119) rfl dX6_quarter_55 ?_
      refine lv_topi (fun z55 ez55 => ?_)
      have bz55 := oI_3_0 (Iv_at hIz48 hLy52 hKy52)
      rw [← ez55] at bz55
      subst hR; subst hQz
      exact W.iret (v := z55) hx hb hr (fun t ht hW => ⟨⟨z55, (), rfl, trivial, ⟨L, K, G, Q, Iz48, Jz48, hX, hQ, hIz48, fun F => (hD F).weaken (fun _ _ _ _ => trivial), fun q h => hAe2 q (hAL q h), by rw [ht]; exact hP, ⟨cn_Iz48, dn_Iz48⟩⟩⟩, hS.F ht⟩) hS.2.2 dX6_quarter_58
    · have t24 := tq_nle (k := z19.toInt) (q := (40)) c24 rfl (by decide +kernel)
      refine lv_bipush (v := (-2)) hx hb dX6_quarter_27 (by decide +kernel) ?_
      subst hR; subst hQz
      refine W.widen (k := 29) (n := 807) (Nat.le_of_ble_eq_true rfl) (Nat.le_of_ble_eq_true rfl) ?_
      exact W.iret (v := (-2)) hx hb hr (fun t ht hW => ⟨⟨(-2), (), rfl, trivial, ⟨L, K, G, Q, I, J, hX, hQ, hI, fun F => (hD F).weaken (fun _ _ _ _ => trivial), fun q h => hAe2 q (hAL q h), by rw [ht]; exact hP, ⟨cn_I, dn_I⟩⟩⟩, hS.F ht⟩) hS.2.2 dX6_quarter_29
  · have t5 := tq_eq (k := z2.toInt) (q := (0)) c5 rfl (by decide +kernel)
    refine lv_iconst (v := (-1)) hx hb dX6_quarter_8 (by decide +kernel) ?_
    subst hR; subst hQz
    refine W.widen (k := 29) (n := 807) (Nat.le_of_ble_eq_true rfl) (Nat.le_of_ble_eq_true rfl) ?_
    exact W.iret (v := (-1)) hx hb hr (fun t ht hW => ⟨⟨(-1), (), rfl, trivial, ⟨L, K, G, Q, I, J, hX, hQ, hI, fun F => (hD F).weaken (fun _ _ _ _ => trivial), fun q h => hAe2 q (hAL q h), by rw [ht]; exact hP, ⟨cn_I, dn_I⟩⟩⟩, hS.F ht⟩) hS.2.2 dX6_quarter_9
