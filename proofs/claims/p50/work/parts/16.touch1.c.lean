abbrev cX6_alike : ByteArray := prog_1_method_41_code
def yX6_alike : MethodName := ⟨RX6, "alike", "(III)I"⟩
theorem dX6_alike_0 : decode cX6_alike 0 = .ok (.aload_n 0, 1) := by decide +kernel
theorem dX6_alike_1 : decode cX6_alike 1 = .ok (.iload_n 1, 1) := by decide +kernel
theorem dX6_alike_2 : decode cX6_alike 2 = .ok (.invokevirtual 130, 3) := by decide +kernel
theorem dX6_alike_5 : decode cX6_alike 5 = .ok (.ifCond .eq 19, 3) := by decide +kernel
theorem dX6_alike_8 : decode cX6_alike 8 = .ok (.aload_n 0, 1) := by decide +kernel
theorem dX6_alike_9 : decode cX6_alike 9 = .ok (.iload_n 2, 1) := by decide +kernel
theorem dX6_alike_10 : decode cX6_alike 10 = .ok (.invokevirtual 130, 3) := by decide +kernel
theorem dX6_alike_13 : decode cX6_alike 13 = .ok (.ifCond .eq 11, 3) := by decide +kernel
theorem dX6_alike_16 : decode cX6_alike 16 = .ok (.iload_n 3, 1) := by decide +kernel
theorem dX6_alike_17 : decode cX6_alike 17 = .ok (.iconst 3, 1) := by decide +kernel
theorem dX6_alike_18 : decode cX6_alike 18 = .ok (.invokestatic 109, 3) := by decide +kernel
theorem dX6_alike_21 : decode cX6_alike 21 = .ok (.ifCond .ne 5, 3) := by decide +kernel
theorem dX6_alike_24 : decode cX6_alike 24 = .ok (.iconst (-1), 1) := by decide +kernel
theorem dX6_alike_25 : decode cX6_alike 25 = .ok (.ireturn, 1) := by decide +kernel
theorem dX6_alike_26 : decode cX6_alike 26 = .ok (.aload_n 0, 1) := by decide +kernel
theorem dX6_alike_27 : decode cX6_alike 27 = .ok (.getfield 48, 3) := by decide +kernel
theorem dX6_alike_30 : decode cX6_alike 30 = .ok (.aload_n 0, 1) := by decide +kernel
theorem dX6_alike_31 : decode cX6_alike 31 = .ok (.getfield 20, 3) := by decide +kernel
theorem dX6_alike_34 : decode cX6_alike 34 = .ok (.getfield 133, 3) := by decide +kernel
theorem dX6_alike_37 : decode cX6_alike 37 = .ok (.iload_n 2, 1) := by decide +kernel
theorem dX6_alike_38 : decode cX6_alike 38 = .ok (.aaload, 1) := by decide +kernel
theorem dX6_alike_39 : decode cX6_alike 39 = .ok (.iload_n 3, 1) := by decide +kernel
theorem dX6_alike_40 : decode cX6_alike 40 = .ok (.invokevirtual 270, 3) := by decide +kernel
theorem dX6_alike_43 : decode cX6_alike 43 = .ok (.aload_n 0, 1) := by decide +kernel
theorem dX6_alike_44 : decode cX6_alike 44 = .ok (.getfield 48, 3) := by decide +kernel
theorem dX6_alike_47 : decode cX6_alike 47 = .ok (.aload_n 0, 1) := by decide +kernel
theorem dX6_alike_48 : decode cX6_alike 48 = .ok (.getfield 20, 3) := by decide +kernel
theorem dX6_alike_51 : decode cX6_alike 51 = .ok (.getfield 133, 3) := by decide +kernel
theorem dX6_alike_54 : decode cX6_alike 54 = .ok (.iload_n 1, 1) := by decide +kernel
theorem dX6_alike_55 : decode cX6_alike 55 = .ok (.aaload, 1) := by decide +kernel
theorem dX6_alike_56 : decode cX6_alike 56 = .ok (.invokevirtual 274, 3) := by decide +kernel
theorem dX6_alike_59 : decode cX6_alike 59 = .ok (.ifCond .eq 7, 3) := by decide +kernel
theorem dX6_alike_62 : decode cX6_alike 62 = .ok (.iconst 1, 1) := by decide +kernel
theorem dX6_alike_63 : decode cX6_alike 63 = .ok (.goto 4, 3) := by decide +kernel
theorem dX6_alike_66 : decode cX6_alike 66 = .ok (.iconst 0, 1) := by decide +kernel
theorem dX6_alike_67 : decode cX6_alike 67 = .ok (.ireturn, 1) := by decide +kernel
set_option maxHeartbeats 4000000 in
set_option maxRecDepth 100000 in
theorem s_X6_alike (l : Launch) (dC : Nat → ClassId) (dI : Nat → Nat → Nat) (cs : Nat → ClassId) (L : List Nat) (K G : Nat → Nat) (Q : Nat → Nat → Option Nat) (hQ : Sv L K G Q) (x0 m0 : Nat) (tx : GT) (tm : GT × Int) (sz : Nat) (I : Nat → Nat → Int32) (J : Nat → Nat → Int64) (hI : Iv L K x0 m0 tx tm I) (p0 : Nat) (hLp0 : p0 ∈ L) (hKp0 : K p0 = 6) (p1 : Int32) (p2 : Int32) (p3 : Int32) : Met l yX6_alike (.code yX6_alike cX6_alike 4 (some .int) :: pw) ({ frames := 4, cells := 0, slots := 0, locals := 109 }) (sP (dC, dI) cs [.ref p0, .int p1, .int p2, .int p3] sz L K I J Q) (va_Qi (fun (r : Int32) (_ : Unit) => (∀ σ : Sx, cxA Q I J p0 σ → r.toInt = alR σ p1 p2 p3)) (fun _ t => sB (dC, dI) cs L K Q (fun I1 J1 => Iv L K x0 m0 tx tm I1 ∧ (∀ b, ¬ (K b = 2 ∨ K b = 5 ∨ K b = 11 ∨ (K b = 3 ∧ G b / 100 = 4)) → I1 b = I b) ∧ (∀ b, K b = 7 ∨ K b = 18 ∨ K b = 19 ∨ K b = 20 ∨ K b = 24 → I1 b = I b) ∧ (∀ σ : Sx, cxA Q I J p0 σ → cxA Q I1 J1 p0 σ) ∧ (∀ b, ¬ (K b = 12 ∧ (G b = 400)) → J1 b = J b)) t) (fun q => q ∈ L ∨ sz ≤ q)) 0 0 (fun q => q ∈ L ∨ sz ≤ q) := by
  refine Met.ofW (cc := cX6_alike) (maxL := 4) (ret := (some .int)) (by decide +kernel) rfl ?_
  intro p e s m args below meth c s₁ B hml hv
  obtain ⟨rfl, hsz, hP, hK, hD0, hN⟩ := hv
  have hx := B.exec
  have hb := B.bytes
  have hr := B.returns
  have hts := fun w (h : w ∈ pw) => atoms_spec (ws := Cond.code yX6_alike cX6_alike 4 (some .int) :: pw) B.pre w (List.mem_cons_of_mem _ h)
  have hown : s.vm.findClass RX6 = some m.cls := findClass_of_methodNamed B.named
  have hlocks := B.notSynchronized
  subst hsz
  have hBB : 999 ≤ tm.2 ∧ tm.2 ≤ 6000000 := hI.2.2.2.2.1
  have dn_I : (∀ b, K b = 7 ∨ K b = 18 ∨ K b = 19 ∨ K b = 20 ∨ K b = 24 → I b = I b) := fun _ _ => rfl
  have dj_J : (∀ b, ¬ (K b = 12 ∧ (G b = 400)) → J b = J b) := fun _ _ => rfl
  have fr_I : ∀ b, ¬ (K b = 2 ∨ K b = 5 ∨ K b = 11 ∨ (K b = 3 ∧ G b / 100 = 4)) → I b = I b := fun _ _ => rfl
  obtain ⟨A, hAe⟩ : ∃ A : Nat → Prop, A = (fun q => q ∈ L ∨ s.heap.size ≤ q) := ⟨_, rfl⟩
  rw [← hAe]
  have hAL : ∀ q, q ∈ L → A q := fun q h => by rw [hAe]; exact Or.inl h
  have hA : ∀ q, s.heap.size ≤ q → A q := fun q h => by rw [hAe]; exact Or.inr h
  have hD : ∀ F, va_D A (va_pl L F) := fun F => (hD0 F).weaken (fun k q hk _ => hAL _ (pl_mem hk))
  obtain ⟨H, hHe⟩ : ∃ H : Heap, H = s.heap := ⟨_, rfl⟩
  have hS : va_S A s.heap H [] := by rw [hHe]; exact va_S.rf
  rw [← hHe] at hP
  have hl := lv_entry ([.ref p0, .int p1, .int p2, .int p3]) (n := 4) (Nat.le_of_ble_eq_true rfl)
  rw [lg_entry_eq]
  generalize (lg_sl ([.ref p0, .int p1, .int p2, .int p3]) ++ List.replicate (4 - (lg_sl ([.ref p0, .int p1, .int p2, .int p3])).length) Slot.unset).toArray = ls at hl ⊢
  have hl : lv_has ls 4 [(0, .ref p0), (1, .int p1), (2, .int p2), (3, .int p3)] := hl
  rw [← hHe]
  refine namedW (fun R Qz hR hQz => ?_)
  refine lv_aload_n hx hb dX6_alike_0 rfl (lv_at hl 0 rfl) ?_
  refine lv_iload_n hx hb dX6_alike_1 rfl (lv_at hl 1 rfl) ?_
  refine ro_i (va_runV (As := [.int p1]) (rest := []) ⟨hx, hb, hml, hown, hts⟩ (s_X6_isMask l dC dI cs L K G Q hQ x0 m0 tx tm H.size I J hI p0 hLp0 hKp0 p1) (cwV 1 hts (gV pq666 pq668 pq4 pq74 pq669) rfl rfl rfl (by decide +kernel) ⟨(by rw [hR]; exact (Nat.le_of_ble_eq_true rfl)), (by rw [hR]; exact (Nat.le_of_ble_eq_true rfl))⟩) (sP_V hP hD hK hN hLp0 hKp0 rfl rfl) rfl rfl hl.1 rfl (lv_room (Nat.le_of_ble_eq_true rfl)) dX6_alike_2 ⟨(by rw [hR]; exact (Nat.le_of_ble_eq_true rfl)), (by rw [hR]; exact (Nat.le_of_ble_eq_true rfl))⟩) hS hP (fun z2 H locs hz2 hP hS => ?_)
  obtain ⟨bz2, imz2, xpz2⟩ := hz2
  refine lv_if_eq (tgt := 24) hx hb dX6_alike_5 (by decide) (fun c5 => ?_) (fun c5 => ?_)
  · have t5 := tq_eq (k := z2.toInt) (q := (0)) c5 rfl (by decide +kernel)
    refine lv_iconst (v := (-1)) hx hb dX6_alike_24 (by decide +kernel) ?_
    subst hR; subst hQz
    exact W.iret (v := (-1)) hx hb hr (fun t ht hW => ⟨⟨(-1), (), rfl, (fun σ h => by rw [alr_n (fun w => by first | exact xpz2.2 t5 (by rw [cx_0 h]; exact w.1) | exact xpz10.2 t13 (by rw [cx_0 h]; exact w.2.1) | exact xpz18 t21 w.2.2)]; decide +kernel), ⟨I, J, ⟨hI, fr_I, dn_I, (fun σ A => cxA_scr hQ hLp0 hKp0 fr_I (fun _ _ _ => rfl) A), dj_J⟩, by rw [ht]; exact hP⟩⟩, hS.F ht⟩) hS.2.2 dX6_alike_25
  · have t5 := tq_ne (k := z2.toInt) (q := (0)) c5 rfl (by decide +kernel)
    have i5 := imz2 t5
    refine lv_aload_n hx hb dX6_alike_8 rfl (lv_at hl 0 rfl) ?_
    refine lv_iload_n hx hb dX6_alike_9 rfl (lv_at hl 2 rfl) ?_
    refine ro_i (va_runV (As := [.int p2]) (rest := []) ⟨hx, hb, hml, hown, hts⟩ (s_X6_isMask l dC dI cs L K G Q hQ x0 m0 tx tm H.size I J hI p0 hLp0 hKp0 p2) (cwV 1 hts (gV pq666 pq668 pq4 pq74 pq669) rfl rfl rfl (by decide +kernel) ⟨(by rw [hR]; exact (Nat.le_of_ble_eq_true rfl)), (by rw [hR]; exact (Nat.le_of_ble_eq_true rfl))⟩) (sP_V hP hD hK hN hLp0 hKp0 rfl rfl) rfl rfl hl.1 rfl (lv_room (Nat.le_of_ble_eq_true rfl)) dX6_alike_10 ⟨(by rw [hR]; exact (Nat.le_of_ble_eq_true rfl)), (by rw [hR]; exact (Nat.le_of_ble_eq_true rfl))⟩) hS hP (fun z10 H locs hz10 hP hS => ?_)
    obtain ⟨bz10, imz10, xpz10⟩ := hz10
    refine lv_if_eq (tgt := 24) hx hb dX6_alike_13 (by decide) (fun c13 => ?_) (fun c13 => ?_)
    · have t13 := tq_eq (k := z10.toInt) (q := (0)) c13 rfl (by decide +kernel)
      refine lv_iconst (v := (-1)) hx hb dX6_alike_24 (by decide +kernel) ?_
      subst hR; subst hQz
      exact W.iret (v := (-1)) hx hb hr (fun t ht hW => ⟨⟨(-1), (), rfl, (fun σ h => by rw [alr_n (fun w => by first | exact xpz2.2 t5 (by rw [cx_0 h]; exact w.1) | exact xpz10.2 t13 (by rw [cx_0 h]; exact w.2.1) | exact xpz18 t21 w.2.2)]; decide +kernel), ⟨I, J, ⟨hI, fr_I, dn_I, (fun σ A => cxA_scr hQ hLp0 hKp0 fr_I (fun _ _ _ => rfl) A), dj_J⟩, by rw [ht]; exact hP⟩⟩, hS.F ht⟩) hS.2.2 dX6_alike_25
    · have t13 := tq_ne (k := z10.toInt) (q := (0)) c13 rfl (by decide +kernel)
      have i13 := imz10 t13
      refine lv_iload_n hx hb dX6_alike_16 rfl (lv_at hl 3 rfl) ?_
      refine lv_iconst (v := 3) hx hb dX6_alike_17 (by decide +kernel) ?_
      refine ro_i (va_runS (As := [.int p3, .int 3]) (rest := []) ⟨hx, hb, hml, hown, hts⟩ (s_X6_isFrom0To l dC dI cs L K G Q hQ x0 m0 tx tm H.size I J hI p3 3) (va_cwS 2 hts (gS pq651 pq652 pq74 pq653) rfl rfl rfl (by decide +kernel) ⟨(by rw [hR]; exact (Nat.le_of_ble_eq_true rfl)), (by rw [hR]; exact (Nat.le_of_ble_eq_true rfl))⟩) (sP_S hP hD hK hN) rfl rfl hl.1 rfl (lv_room (Nat.le_of_ble_eq_true rfl)) dX6_alike_18 ⟨(by rw [hR]; exact (Nat.le_of_ble_eq_true rfl)), (by rw [hR]; exact (Nat.le_of_ble_eq_true rfl))⟩) hS hP (fun z18 H locs hz18 hP hS => ?_)
      have cst18_3 : (3 : Int32).toInt = 3 := by decide +kernel
      obtain ⟨bz18, imz18, xpz18⟩ := hz18
      try rw [cst18_3] at xpz18
      refine lv_if_ne (tgt := 26) hx hb dX6_alike_21 (by decide) (fun c21 => ?_) (fun c21 => ?_)
      · have t21 := tq_ne (k := z18.toInt) (q := (0)) c21 rfl (by decide +kernel)
        have i21 := imz18 t21
        refine lv_aload_n hx hb dX6_alike_26 rfl (lv_at hl 0 rfl) ?_
        obtain ⟨y27, ey27, hLy27, hKy27, hGy27⟩ := oQ_6_6 (Sv_at hQ hLp0 hKp0)
        refine p_get (v := .ref y27) hx hb hts inX6 hown hK hP hLp0 hKp0 rfl rfl 6 (by decide) (hts _ pq355) (congrArg (fun q => some (va_rf q)) ey27) dX6_alike_27 ?_
        refine lv_aload_n hx hb dX6_alike_30 rfl (lv_at hl 0 rfl) ?_
        obtain ⟨y31, ey31, hLy31, hKy31, hGy31⟩ := oQ_6_2 (Sv_at hQ hLp0 hKp0)
        refine p_get (v := .ref y31) hx hb hts inX6 hown hK hP hLp0 hKp0 rfl rfl 2 (by decide) (hts _ pq351) (congrArg (fun q => some (va_rf q)) ey31) dX6_alike_31 ?_
        obtain ⟨y34, ey34, hLy34, hKy34, hGy34⟩ := oQ_1_0 (Sv_at hQ hLy31 hKy31)
        refine p_get (v := .ref y34) hx hb hts inX1 hown hK hP hLy31 hKy31 rfl rfl 0 (by decide) (hts _ pq216) (congrArg (fun q => some (va_rf q)) ey34) dX6_alike_34 ?_
        refine lv_iload_n hx hb dX6_alike_37 rfl (lv_at hl 2 rfl) ?_
        obtain ⟨y38, ey38, hLy38, hKy38, hGy38⟩ := (Sv_at hQ hLy34 hKy34).1 p2.toNatClampNeg (clamp_lt (n := 8) (in_of (by omega) (by omega)))
        have hjy38 : p2.toNatClampNeg < 8 := clamp_lt (i := p2) (n := 8) (in_of (by omega) (by omega))
        refine p_aaldR hx hb hK hP 3 hLy34 hKy34 rfl rfl (in_of (by omega) (by omega)) ey38 dX6_alike_38 ?_
        refine lv_iload_n hx hb dX6_alike_39 rfl (lv_at hl 3 rfl) ?_
        refine sw_v (Z := (fun I1 J1 => Iv L K x0 m0 tx tm I1 ∧ (∀ b, ¬ (b = y27) → I1 b = I b) ∧ (okm (I y38 0).toInt (I y38 1).toInt (J (wo Q y38)) → msr (J (wo Q y38)) (I y38 3).toInt (I y38 4).toInt (I y38 5).toInt (I y38 6).toInt (I y38 7).toInt → mkd Q I1 J1 y27 (I y38 0) (I y38 1) (flipD (I y38 0).toInt (I y38 1).toInt p3.toInt (J (wo Q y38)))) ∧ (∀ b, ¬ (K b = 12 ∧ (G b = G y27)) → J1 b = J b))) (va_runV (As := [.ref y38, .int p3]) (rest := []) ⟨hx, hb, hml, hown, hts⟩ (s_X3_becomeFlipped l dC dI cs L K G Q hQ x0 m0 tx tm H.size I J hI y27 hLy27 hKy27 y38 hLy38 hKy38 p3 ⟨by omega, by omega⟩ (by omega)) (cwV 2 hts (gV pq903 pq609 pq610 pq76 pq611) rfl rfl rfl (by decide +kernel) ⟨(by rw [hR]; exact (Nat.le_of_ble_eq_true rfl)), (by rw [hR]; exact (Nat.le_of_ble_eq_true rfl))⟩) (sP_V hP hD hK hN hLy27 hKy27 rfl rfl) rfl rfl hl.1 rfl (lv_room (Nat.le_of_ble_eq_true rfl)) dX6_alike_40 ⟨(by rw [hR]; exact (Nat.le_of_ble_eq_true rfl)), (by rw [hR]; exact (Nat.le_of_ble_eq_true rfl))⟩) hS hAL hA (fun Iz40 Jz40 H locs hz40 hIz40 hP hS => ?_)
        obtain ⟨hIz40, frc40, jz40, djc40⟩ := hIz40
        have dj_Jz40 : (∀ b, ¬ (K b = 12 ∧ (G b = 400)) → Jz40 b = J b) := fun b hc => (djc40 b (fun z => hc (by exact ⟨z.1, by have z2 := z.2; omega⟩))).trans (dj_J b hc)
        have dn_Iz40 : (∀ b, K b = 7 ∨ K b = 18 ∨ K b = 19 ∨ K b = 20 ∨ K b = 24 → Iz40 b = I b) := fun b hc => (frc40 b (fun z => by have q := hKy27; rw [← z] at q; omega)).trans (dn_I b hc)
        have fr_Iz40 : ∀ b, ¬ (K b = 2 ∨ K b = 5 ∨ K b = 11 ∨ (K b = 3 ∧ G b / 100 = 4)) → Iz40 b = I b := fun b q => (frc40 b (fun z => q (by rw [z]; have := hKy27; omega))).trans (fr_I b q)
        refine lv_aload_n hx hb dX6_alike_43 rfl (lv_at hl 0 rfl) ?_
        refine p_get (v := .ref y27) hx hb hts inX6 hown hK hP hLp0 hKp0 rfl rfl 6 (by decide) (hts _ pq355) (congrArg (fun q => some (va_rf q)) ey27) dX6_alike_44 ?_
        refine lv_aload_n hx hb dX6_alike_47 rfl (lv_at hl 0 rfl) ?_
        refine p_get (v := .ref y31) hx hb hts inX6 hown hK hP hLp0 hKp0 rfl rfl 2 (by decide) (hts _ pq351) (congrArg (fun q => some (va_rf q)) ey31) dX6_alike_48 ?_
        refine p_get (v := .ref y34) hx hb hts inX1 hown hK hP hLy31 hKy31 rfl rfl 0 (by decide) (hts _ pq216) (congrArg (fun q => some (va_rf q)) ey34) dX6_alike_51 ?_
        refine lv_iload_n hx hb dX6_alike_54 rfl (lv_at hl 1 rfl) ?_
        obtain ⟨y55, ey55, hLy55, hKy55, hGy55⟩ := (Sv_at hQ hLy34 hKy34).1 p1.toNatClampNeg (clamp_lt (n := 8) (in_of (by omega) (by omega)))
        have hjy55 : p1.toNatClampNeg < 8 := clamp_lt (i := p1) (n := 8) (in_of (by omega) (by omega))
        refine p_aaldR hx hb hK hP 3 hLy34 hKy34 rfl rfl (in_of (by omega) (by omega)) ey55 dX6_alike_55 ?_
        refine ro_i (va_runV (As := [.ref y55]) (rest := []) ⟨hx, hb, hml, hown, hts⟩ (s_X3_isSameAs l dC dI cs L K G Q hQ x0 m0 tx tm H.size Iz40 Jz40 hIz40 y27 hLy27 hKy27 y55 hLy55 hKy55) (cwV 1 hts (gV pq904 pq905 pq906 pq76 pq907) rfl rfl rfl (by decide +kernel) ⟨(by rw [hR]; exact (Nat.le_of_ble_eq_true rfl)), (by rw [hR]; exact (Nat.le_of_ble_eq_true rfl))⟩) (sP_V hP hD hK hN hLy27 hKy27 rfl rfl) rfl rfl hl.1 rfl (lv_room (Nat.le_of_ble_eq_true rfl)) dX6_alike_56 ⟨(by rw [hR]; exact (Nat.le_of_ble_eq_true rfl)), (by rw [hR]; exact (Nat.le_of_ble_eq_true rfl))⟩) hS hP (fun z56 H locs hz56 hP hS => ?_)
        obtain ⟨bz56, xpz56⟩ := hz56
        refine lv_if_eq (tgt := 66) hx hb dX6_alike_59 (by decide) (fun c59 => ?_) (fun c59 => ?_)
        · have t59 := tq_eq (k := z56.toInt) (q := (0)) c59 rfl (by decide +kernel)
          refine lv_iconst (v := 0) hx hb dX6_alike_66 (by decide +kernel) ?_
          subst hR; subst hQz
          exact W.iret (v := 0) hx hb hr (fun t ht hW => ⟨⟨0, (), rfl, (fun σ h => by have q1 := xpz2.1 t5; have q2 := xpz10.1 t13; rw [cx_0 h] at q1 q2; have w := al_of (fl := p3.toInt) (z := z56) h (cxA_scr hQ hLp0 hKp0 fr_Iz40 (fun b h1 h2 => dj_Jz40 b (fun z => h2 (by omega))) h) q1 q2 (show fm Q (an Q p0) p1.toInt.toNat = y55 from (by rw [show an Q p0 = y31 from gd_of ey31]; exact fm_of ey34 ey55)) (show fm Q (an Q p0) p2.toInt.toNat = y38 from (by rw [show an Q p0 = y31 from gd_of ey31]; exact fm_of ey34 ey38)) jz40 xpz56; have V : alV σ p1 p2 p3 := ⟨q1, q2, by omega, by omega⟩; rw [alr_0 V (fun m => (w.mpr m) t59)]; decide +kernel), ⟨Iz40, Jz40, ⟨hIz40, fr_Iz40, dn_Iz40, (fun σ A => cxA_scr hQ hLp0 hKp0 fr_Iz40 (fun b h1 h2 => dj_Jz40 b (fun z => h2 (by omega))) A), dj_Jz40⟩, by rw [ht]; exact hP⟩⟩, hS.F ht⟩) hS.2.2 dX6_alike_67
        · have t59 := tq_ne (k := z56.toInt) (q := (0)) c59 rfl (by decide +kernel)
          refine lv_iconst (v := 1) hx hb dX6_alike_62 (by decide +kernel) ?_
          refine lv_goto (tgt := 67) hx hb dX6_alike_63 (by decide) ?_
          subst hR; subst hQz
          exact W.iret (v := 1) hx hb hr (fun t ht hW => ⟨⟨1, (), rfl, (fun σ h => by have q1 := xpz2.1 t5; have q2 := xpz10.1 t13; rw [cx_0 h] at q1 q2; have w := al_of (fl := p3.toInt) (z := z56) h (cxA_scr hQ hLp0 hKp0 fr_Iz40 (fun b h1 h2 => dj_Jz40 b (fun z => h2 (by omega))) h) q1 q2 (show fm Q (an Q p0) p1.toInt.toNat = y55 from (by rw [show an Q p0 = y31 from gd_of ey31]; exact fm_of ey34 ey55)) (show fm Q (an Q p0) p2.toInt.toNat = y38 from (by rw [show an Q p0 = y31 from gd_of ey31]; exact fm_of ey34 ey38)) jz40 xpz56; have V : alV σ p1 p2 p3 := ⟨q1, q2, by omega, by omega⟩; rw [alr_1 V (w.mp t59)]; decide +kernel), ⟨Iz40, Jz40, ⟨hIz40, fr_Iz40, dn_Iz40, (fun σ A => cxA_scr hQ hLp0 hKp0 fr_Iz40 (fun b h1 h2 => dj_Jz40 b (fun z => h2 (by omega))) A), dj_Jz40⟩, by rw [ht]; exact hP⟩⟩, hS.F ht⟩) hS.2.2 dX6_alike_67
      · have t21 := tq_eq (k := z18.toInt) (q := (0)) c21 rfl (by decide +kernel)
        refine lv_iconst (v := (-1)) hx hb dX6_alike_24 (by decide +kernel) ?_
        subst hR; subst hQz
        exact W.iret (v := (-1)) hx hb hr (fun t ht hW => ⟨⟨(-1), (), rfl, (fun σ h => by rw [alr_n (fun w => by first | exact xpz2.2 t5 (by rw [cx_0 h]; exact w.1) | exact xpz10.2 t13 (by rw [cx_0 h]; exact w.2.1) | exact xpz18 t21 w.2.2)]; decide +kernel), ⟨I, J, ⟨hI, fr_I, dn_I, (fun σ A => cxA_scr hQ hLp0 hKp0 fr_I (fun _ _ _ => rfl) A), dj_J⟩, by rw [ht]; exact hP⟩⟩, hS.F ht⟩) hS.2.2 dX6_alike_25
