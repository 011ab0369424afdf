def yJxe99ae_doubleToLongBits_ccdee : MethodName := ⟨RJxe99ae, "doubleToLongBits", "(D)J"⟩
abbrev cJxe99ae_doubleToLongBits_ccdee : ByteArray := prog_10_method_23_code
def yJxe99ae_isNaN_b9ae7 : MethodName := ⟨RJxe99ae, "isNaN", "(D)Z"⟩
abbrev cJxe99ae_isNaN_b9ae7 : ByteArray := prog_10_method_6_code
abbrev cX7_share : ByteArray := prog_9_method_121_code
def yX7_share : MethodName := ⟨RX7, "share", "(I)J"⟩
theorem dJxe99ae_doubleToLongBits_ccdee_0 : decode cJxe99ae_doubleToLongBits_ccdee 0 = .ok (.dload_n 0, 1) := by decide +kernel
theorem dJxe99ae_doubleToLongBits_ccdee_1 : decode cJxe99ae_doubleToLongBits_ccdee 1 = .ok (.invokestatic 122, 3) := by decide +kernel
theorem dJxe99ae_doubleToLongBits_ccdee_4 : decode cJxe99ae_doubleToLongBits_ccdee 4 = .ok (.ifCond .ne 8, 3) := by decide +kernel
theorem dJxe99ae_doubleToLongBits_ccdee_7 : decode cJxe99ae_doubleToLongBits_ccdee 7 = .ok (.dload_n 0, 1) := by decide +kernel
theorem dJxe99ae_doubleToLongBits_ccdee_8 : decode cJxe99ae_doubleToLongBits_ccdee 8 = .ok (.invokestatic 134, 3) := by decide +kernel
theorem dJxe99ae_doubleToLongBits_ccdee_11 : decode cJxe99ae_doubleToLongBits_ccdee 11 = .ok (.lreturn, 1) := by decide +kernel
theorem dJxe99ae_doubleToLongBits_ccdee_12 : decode cJxe99ae_doubleToLongBits_ccdee 12 = .ok (.ldc2_w 137, 3) := by decide +kernel
theorem dJxe99ae_doubleToLongBits_ccdee_15 : decode cJxe99ae_doubleToLongBits_ccdee 15 = .ok (.lreturn, 1) := by decide +kernel
theorem dJxe99ae_isNaN_b9ae7_0 : decode cJxe99ae_isNaN_b9ae7 0 = .ok (.dload_n 0, 1) := by decide +kernel
theorem dJxe99ae_isNaN_b9ae7_1 : decode cJxe99ae_isNaN_b9ae7 1 = .ok (.dload_n 0, 1) := by decide +kernel
theorem dJxe99ae_isNaN_b9ae7_2 : decode cJxe99ae_isNaN_b9ae7 2 = .ok (.dcmp .l, 1) := by decide +kernel
theorem dJxe99ae_isNaN_b9ae7_3 : decode cJxe99ae_isNaN_b9ae7 3 = .ok (.ifCond .eq 7, 3) := by decide +kernel
theorem dJxe99ae_isNaN_b9ae7_6 : decode cJxe99ae_isNaN_b9ae7 6 = .ok (.iconst 1, 1) := by decide +kernel
theorem dJxe99ae_isNaN_b9ae7_7 : decode cJxe99ae_isNaN_b9ae7 7 = .ok (.goto 4, 3) := by decide +kernel
theorem dJxe99ae_isNaN_b9ae7_10 : decode cJxe99ae_isNaN_b9ae7 10 = .ok (.iconst 0, 1) := by decide +kernel
theorem dJxe99ae_isNaN_b9ae7_11 : decode cJxe99ae_isNaN_b9ae7 11 = .ok (.ireturn, 1) := by decide +kernel
theorem dX7_share_0 : decode cX7_share 0 = .ok (.aload_n 0, 1) := by decide +kernel
theorem dX7_share_1 : decode cX7_share 1 = .ok (.iload_n 1, 1) := by decide +kernel
theorem dX7_share_2 : decode cX7_share 2 = .ok (.invokevirtual 301, 3) := by decide +kernel
theorem dX7_share_5 : decode cX7_share 5 = .ok (.ifCond .eq 28, 3) := by decide +kernel
theorem dX7_share_8 : decode cX7_share 8 = .ok (.aload_n 0, 1) := by decide +kernel
theorem dX7_share_9 : decode cX7_share 9 = .ok (.iload_n 1, 1) := by decide +kernel
theorem dX7_share_10 : decode cX7_share 10 = .ok (.invokevirtual 321, 3) := by decide +kernel
theorem dX7_share_13 : decode cX7_share 13 = .ok (.i2d, 1) := by decide +kernel
theorem dX7_share_14 : decode cX7_share 14 = .ok (.aload_n 0, 1) := by decide +kernel
theorem dX7_share_15 : decode cX7_share 15 = .ok (.iload_n 1, 1) := by decide +kernel
theorem dX7_share_16 : decode cX7_share 16 = .ok (.invokevirtual 202, 3) := by decide +kernel
theorem dX7_share_19 : decode cX7_share 19 = .ok (.aload_n 0, 1) := by decide +kernel
theorem dX7_share_20 : decode cX7_share 20 = .ok (.iload_n 1, 1) := by decide +kernel
theorem dX7_share_21 : decode cX7_share 21 = .ok (.invokevirtual 205, 3) := by decide +kernel
theorem dX7_share_24 : decode cX7_share 24 = .ok (.imul, 1) := by decide +kernel
theorem dX7_share_25 : decode cX7_share 25 = .ok (.i2d, 1) := by decide +kernel
theorem dX7_share_26 : decode cX7_share 26 = .ok (.ddiv, 1) := by decide +kernel
theorem dX7_share_27 : decode cX7_share 27 = .ok (.invokestatic 426, 3) := by decide +kernel
theorem dX7_share_30 : decode cX7_share 30 = .ok (.goto 6, 3) := by decide +kernel
theorem dX7_share_33 : decode cX7_share 33 = .ok (.ldc2_w 432, 3) := by decide +kernel
theorem dX7_share_36 : decode cX7_share 36 = .ok (.lreturn, 1) := by decide +kernel
set_option maxRecDepth 100000 in
theorem pq92 : Cond.initialized RJxe99ae ∈ pw := pw_mem (i := 92) (by decide +kernel) rfl
set_option maxRecDepth 100000 in
theorem pq1702 : Cond.methodLink RX7 426 yJxe99ae_doubleToLongBits_ccdee ∈ pw := pw_mem (i := 1702) (by decide +kernel) rfl
set_option maxRecDepth 100000 in
theorem pq1703 : Cond.static yJxe99ae_doubleToLongBits_ccdee ∈ pw := pw_mem (i := 1703) (by decide +kernel) rfl
set_option maxRecDepth 100000 in
theorem pq1704 : Cond.code yJxe99ae_doubleToLongBits_ccdee cJxe99ae_doubleToLongBits_ccdee 2 (some .long) ∈ pw := pw_mem (i := 1704) (by rfl) rfl
set_option maxRecDepth 100000 in
theorem pq1705 : Cond.methodLink RJxe99ae 122 yJxe99ae_isNaN_b9ae7 ∈ pw := pw_mem (i := 1705) (by decide +kernel) rfl
set_option maxRecDepth 100000 in
theorem pq1706 : Cond.static yJxe99ae_isNaN_b9ae7 ∈ pw := pw_mem (i := 1706) (by decide +kernel) rfl
set_option maxRecDepth 100000 in
theorem pq1707 : Cond.code yJxe99ae_isNaN_b9ae7 cJxe99ae_isNaN_b9ae7 2 (some .boolean) ∈ pw := pw_mem (i := 1707) (by rfl) rfl
set_option maxRecDepth 100000 in
theorem pq1708 : Cond.methodLink RJxe99ae 134 ⟨"java/lang/Double", "doubleToRawLongBits", "(D)J"⟩ ∈ pw := pw_mem (i := 1708) (by decide +kernel) rfl
set_option maxRecDepth 100000 in
theorem pq1709 : Cond.static ⟨"java/lang/Double", "doubleToRawLongBits", "(D)J"⟩ ∈ pw := pw_mem (i := 1709) (by decide +kernel) rfl
set_option maxRecDepth 100000 in
theorem pq1710 : Cond.native ⟨"java/lang/Double", "doubleToRawLongBits", "(D)J"⟩ ∈ pw := pw_mem (i := 1710) (by decide +kernel) rfl
set_option maxRecDepth 100000 in
theorem pq1711 : Cond.constantLong RJxe99ae 137 (9221120237041090560) ∈ pw := pw_mem (i := 1711) (by decide +kernel) rfl
set_option maxRecDepth 100000 in
theorem pq1712 : Cond.constantLong RX7 432 (-1) ∈ pw := pw_mem (i := 1712) (by decide +kernel) rfl
set_option maxHeartbeats 4000000 in
set_option maxRecDepth 100000 in
theorem s_Jd_isNaN (l : Launch) (dC : Nat → ClassId) (dI : Nat → Nat → Nat) (cs : Nat → ClassId) (L : List Nat) (K : Nat → Nat) (Q : Nat → Nat → Option Nat) (sz : Nat) (I : Nat → Nat → Int32) (J : Nat → Nat → Int64) (p0 : UInt64) : Met l yJxe99ae_isNaN_b9ae7 (.code yJxe99ae_isNaN_b9ae7 cJxe99ae_isNaN_b9ae7 2 (some .boolean) :: pw) ({ frames := 0, cells := 0, slots := 0, locals := 0 }) (sP (dC, dI) cs [.double p0] sz L K I J Q) (va_Qi (fun (r : Int32) (_ : Unit) => ((0) ≤ r.toInt ∧ r.toInt ≤ 1) ∧ (sureD p0 → r.toInt = 0)) (fun _ _ => True) (fun _ => False)) 0 0 (fun _ => False) := by
  refine va_MetF (l := l) (cc := cJxe99ae_isNaN_b9ae7) (maxL := 2) (ret := (some .boolean)) (by decide +kernel) rfl ?_
  intro p e s m args below meth c s₁ B hml hv
  obtain ⟨rfl, hsz, hP, hK, hD0, hN⟩ := hv
  have hx := B.exec
  have hb := B.bytes
  have hr := B.returns
  have hts := fun w (h : w ∈ pw) => atoms_spec (ws := Cond.code yJxe99ae_isNaN_b9ae7 cJxe99ae_isNaN_b9ae7 2 (some .boolean) :: pw) B.pre w (List.mem_cons_of_mem _ h)
  have hown : s.vm.findClass RJxe99ae = some m.cls := findClass_of_methodNamed B.named
  have hlocks := B.notSynchronized
  subst hsz
  have hD := hD0
  obtain ⟨H, hHe⟩ : ∃ H : Heap, H = s.heap := ⟨_, rfl⟩
  have hS : va_S (fun _ => False) s.heap H [] := by rw [hHe]; exact va_S.rf
  rw [← hHe] at hP
  have hl := lv_entry ([.double p0]) (n := 2) (Nat.le_of_ble_eq_true rfl)
  rw [lg_entry_eq]
  generalize (lg_sl ([.double p0]) ++ List.replicate (2 - (lg_sl ([.double p0])).length) Slot.unset).toArray = ls at hl ⊢
  have hl : lv_has ls 2 [(0, .double p0)] := hl
  rw [← hHe]
  refine namedW (fun R Qz hR hQz => ?_)
  refine lv_dload_n hx hb dJxe99ae_isNaN_b9ae7_0 rfl (lv_at hl 0 rfl) ?_
  refine lv_dload_n hx hb dJxe99ae_isNaN_b9ae7_1 rfl (lv_at hl 0 rfl) ?_
  refine lv_dcmp hx hb dJxe99ae_isNaN_b9ae7_2 ?_
  refine lv_topi (fun z2 ez2 => ?_)
  refine lv_if_eq (tgt := 10) hx hb dJxe99ae_isNaN_b9ae7_3 (by decide) (fun c3 => ?_) (fun c3 => ?_)
  · have t3 := tq_eq (k := z2.toInt) (q := (0)) c3 rfl (by decide +kernel)
    refine lv_iconst (v := 0) hx hb dJxe99ae_isNaN_b9ae7_10 (by decide +kernel) ?_
    subst hR; subst hQz
    exact W.zret (v := 0) hx hb hr (by decide +kernel) (fun t ht hW => ⟨⟨0, (), rfl, ⟨⟨by decide +kernel, by decide +kernel⟩, (fun _ => by decide +kernel)⟩, trivial⟩, hS.F ht⟩) hS.2.2 dJxe99ae_isNaN_b9ae7_11
  · have t3 := tq_ne (k := z2.toInt) (q := (0)) c3 rfl (by decide +kernel)
    refine lv_iconst (v := 1) hx hb dJxe99ae_isNaN_b9ae7_6 (by decide +kernel) ?_
    refine lv_goto (tgt := 11) hx hb dJxe99ae_isNaN_b9ae7_7 (by decide) ?_
    subst hR; subst hQz
    exact W.zret (v := 1) hx hb hr (by decide +kernel) (fun t ht hW => ⟨⟨1, (), rfl, ⟨⟨by decide +kernel, by decide +kernel⟩, (fun hs => by exfalso; rw [ez2, sure_cmp hs] at t3; exact t3 (by decide +kernel))⟩, trivial⟩, hS.F ht⟩) hS.2.2 dJxe99ae_isNaN_b9ae7_11

set_option maxHeartbeats 4000000 in
set_option maxRecDepth 100000 in
theorem s_Jd_bits (l : Launch) (dC : Nat → ClassId) (dI : Nat → Nat → Nat) (cs : Nat → ClassId) (L : List Nat) (K : Nat → Nat) (Q : Nat → Nat → Option Nat) (sz : Nat) (I : Nat → Nat → Int32) (J : Nat → Nat → Int64) (p0 : UInt64) : Met l yJxe99ae_doubleToLongBits_ccdee (.code yJxe99ae_doubleToLongBits_ccdee cJxe99ae_doubleToLongBits_ccdee 2 (some .long) :: pw) ({ frames := 1, cells := 0, slots := 0, locals := 40 }) (sP (dC, dI) cs [.double p0] sz L K I J Q) (va_Ql (fun (r : Int64) (_ : Unit) => (sureD p0 → r.toInt = (p0.toNat : Int))) (fun _ _ => True) (fun _ => False)) 0 0 (fun _ => False) := by
  refine va_MetF (l := l) (cc := cJxe99ae_doubleToLongBits_ccdee) (maxL := 2) (ret := (some .long)) (by decide +kernel) rfl ?_
  intro p e s m args below meth c s₁ B hml hv
  obtain ⟨rfl, hsz, hP, hK, hD0, hN⟩ := hv
  have hx := B.exec
  have hb := B.bytes
  have hr := B.returns
  have hts := fun w (h : w ∈ pw) => atoms_spec (ws := Cond.code yJxe99ae_doubleToLongBits_ccdee cJxe99ae_doubleToLongBits_ccdee 2 (some .long) :: pw) B.pre w (List.mem_cons_of_mem _ h)
  have hown : s.vm.findClass RJxe99ae = some m.cls := findClass_of_methodNamed B.named
  have hlocks := B.notSynchronized
  subst hsz
  have hD := hD0
  obtain ⟨H, hHe⟩ : ∃ H : Heap, H = s.heap := ⟨_, rfl⟩
  have hS : va_S (fun _ => False) s.heap H [] := by rw [hHe]; exact va_S.rf
  rw [← hHe] at hP
  have hl := lv_entry ([.double p0]) (n := 2) (Nat.le_of_ble_eq_true rfl)
  rw [lg_entry_eq]
  generalize (lg_sl ([.double p0]) ++ List.replicate (2 - (lg_sl ([.double p0])).length) Slot.unset).toArray = ls at hl ⊢
  have hl : lv_has ls 2 [(0, .double p0)] := hl
  rw [← hHe]
  refine namedW (fun R Qz hR hQz => ?_)
  refine lv_dload_n hx hb dJxe99ae_doubleToLongBits_ccdee_0 rfl (lv_at hl 0 rfl) ?_
  refine ro_i (va_runS (As := [.double p0]) (rest := []) ⟨hx, hb, hml, hown, hts⟩ (s_Jd_isNaN l dC dI cs L K Q H.size I J p0) (va_cwS 1 hts (gS pq1705 pq1706 pq92 pq1707) rfl rfl rfl (by decide +kernel) ⟨(by rw [hR]; exact (Nat.le_of_ble_eq_true rfl)), (by rw [hR]; exact (Nat.le_of_ble_eq_true rfl))⟩) (sP_S hP hD hK hN) rfl rfl hl.1 rfl (lv_room (Nat.le_of_ble_eq_true rfl)) dJxe99ae_doubleToLongBits_ccdee_1 ⟨(by rw [hR]; exact (Nat.le_of_ble_eq_true rfl)), (by rw [hR]; exact (Nat.le_of_ble_eq_true rfl))⟩) hS hP (fun z1 H locs hz1 hP hS => ?_)
  obtain ⟨bz1, xpz1⟩ := hz1
  refine lv_if_ne (tgt := 12) hx hb dJxe99ae_doubleToLongBits_ccdee_4 (by decide) (fun c4 => ?_) (fun c4 => ?_)
  · have t4 := tq_ne (k := z1.toInt) (q := (0)) c4 rfl (by decide +kernel)
    refine lv_ldc2 hx hb hown (hts _ pq1711) dJxe99ae_doubleToLongBits_ccdee_12 ?_
    subst hR; subst hQz
    exact W.lret (v := 9221120237041090560) hx hb hr (fun t ht hW => ⟨⟨9221120237041090560, (), rfl, (fun hs => absurd (xpz1 hs) t4), trivial⟩, hS.F ht⟩) hS.2.2 dJxe99ae_doubleToLongBits_ccdee_15
  · have t4 := tq_eq (k := z1.toInt) (q := (0)) c4 rfl (by decide +kernel)
    refine lv_dload_n hx hb dJxe99ae_doubleToLongBits_ccdee_7 rfl (lv_at hl 0 rfl) ?_
    refine vn_d2l hx hb (hml.trans hl.1.symm) hown (hts _ pq1708) (hts _ pq1710) (hts _ pq1709) (hts _ pq92) (by rw [hR]; exact (Nat.le_of_ble_eq_true rfl)) (by rw [hR]; exact (Nat.le_of_ble_eq_true rfl)) dJxe99ae_doubleToLongBits_ccdee_8 ?_
    refine lv_topl (fun z8 ez8 => ?_)
    subst hR; subst hQz
    exact W.lret (v := z8) hx hb hr (fun t ht hW => ⟨⟨z8, (), rfl, (fun hs => sure_l hs ez8), trivial⟩, hS.F ht⟩) hS.2.2 dJxe99ae_doubleToLongBits_ccdee_11

set_option maxHeartbeats 4000000 in
set_option maxRecDepth 100000 in
theorem s_X7_share (l : Launch) (dC : Nat → ClassId) (dI : Nat → Nat → Nat) (cs : Nat → ClassId) (L : List Nat) (K G : Nat → Nat) (Q : Nat → Nat → Option Nat) (hQ : Sv L K G Q) (x0 m0 : Nat) (tx : GT) (tm : GT × Int) (sz : Nat) (I : Nat → Nat → Int32) (J : Nat → Nat → Int64) (hI : Iv L K x0 m0 tx tm I) (p0 : Nat) (hLp0 : p0 ∈ L) (hKp0 : K p0 = 7) (p1 : Int32) : MetD lw_cs l yX7_share (.code yX7_share cX7_share 2 (some .long) :: pw) ({ frames := 2, cells := 0, slots := 0, locals := 61 }) (sP (dC, dI) cs [.ref p0, .int p1] sz L K I J Q) (va_Ql (fun (r : Int64) (_ : Unit) => (∀ σ : Sx, okF σ.1 → cmA Q I J p0 σ → shR σ p1 r)) (fun _ _ => True) (fun _ => False)) 0 0 (fun _ => False) := by
  refine MetD.ofW (cc := cX7_share) (maxL := 2) (ret := (some .long)) (by decide +kernel) rfl ?_
  intro p e s m args below meth c s₁ B hml hv hd0
  refine drW (P := fun d0 => W p l e _ (s.setDrawn d0) m _ below meth c _ [] 0 0 _ _) hd0 (fun d0 hd0 => ?_)
  obtain ⟨rfl, hsz, hP, hK, hD0, hN⟩ := hv
  have hx := B.exec
  have hb := B.bytes
  have hr := B.returns
  have hts := fun w (h : w ∈ pw) => atoms_spec (ws := Cond.code yX7_share cX7_share 2 (some .long) :: pw) B.pre w (List.mem_cons_of_mem _ h)
  have hts1 := hts
  have hts := dr_words hts1 d0
  have hown : s.vm.findClass RX7 = some m.cls := findClass_of_methodNamed B.named
  have hlocks := B.notSynchronized
  subst hsz
  have hBB : 999 ≤ tm.2 ∧ tm.2 ≤ 6000000 := hI.2.2.2.2.1
  have hD := hD0
  obtain ⟨H, hHe⟩ : ∃ H : Heap, H = s.heap := ⟨_, rfl⟩
  have hS : va_S (fun _ => False) s.heap H [] := by rw [hHe]; exact va_S.rf
  rw [← hHe] at hP
  have hl := lv_entry ([.ref p0, .int p1]) (n := 2) (Nat.le_of_ble_eq_true rfl)
  rw [lg_entry_eq]
  generalize (lg_sl ([.ref p0, .int p1]) ++ List.replicate (2 - (lg_sl ([.ref p0, .int p1])).length) Slot.unset).toArray = ls at hl ⊢
  have hl : lv_has ls 2 [(0, .ref p0), (1, .int p1)] := hl
  rw [← hHe]
  refine namedW (fun R Qz hR hQz => ?_)
  refine lv_aload_n hx hb dX7_share_0 rfl (lv_at hl 0 rfl) ?_
  refine lv_iload_n hx hb dX7_share_1 rfl (lv_at hl 1 rfl) ?_
  refine ro_i (va_runV (As := [.int p1]) (rest := []) ⟨hx, hb, hml, hown, hts⟩ (s_X7_isMask l dC dI cs L K G Q hQ x0 m0 tx tm H.size I J hI p0 hLp0 hKp0 p1) (cwV 1 hts (gV pq1364 pq1366 pq31 pq81 pq1367) rfl rfl rfl (by decide +kernel) ⟨(by rw [hR]; exact (Nat.le_of_ble_eq_true rfl)), (by rw [hR]; exact (Nat.le_of_ble_eq_true rfl))⟩) (sP_V hP hD hK hN hLp0 hKp0 rfl rfl) rfl rfl hl.1 rfl (lv_room (Nat.le_of_ble_eq_true rfl)) dX7_share_2 ⟨(by rw [hR]; exact (Nat.le_of_ble_eq_true rfl)), (by rw [hR]; exact (Nat.le_of_ble_eq_true rfl))⟩) hS hP (fun z2 H locs hz2 hP hS => ?_)
  obtain ⟨bz2, imz2, xpz2⟩ := hz2
  refine lv_if_eq (tgt := 33) hx hb dX7_share_5 (by decide) (fun c5 => ?_) (fun c5 => ?_)
  · have t5 := tq_eq (k := z2.toInt) (q := (0)) c5 rfl (by decide +kernel)
    refine lv_ldc2 hx hb hown (hts _ pq1712) dX7_share_33 ?_
    subst hR; subst hQz
    refine W.endD hd0 ?_
    exact W.lret (v := (-1)) hx hb hr (fun t ht hW => ⟨⟨(-1), (), rfl, (fun σ ok h => by exact ⟨fun w => by (exfalso; exact xpz2.2 t5 (by rw [cm_0 h]; exact w)), fun _ => by decide +kernel⟩), trivial⟩, hS.F ht⟩) hS.2.2 dX7_share_36
  · have t5 := tq_ne (k := z2.toInt) (q := (0)) c5 rfl (by decide +kernel)
    have i5 := imz2 t5
    refine lv_aload_n hx hb dX7_share_8 rfl (lv_at hl 0 rfl) ?_
    refine lv_iload_n hx hb dX7_share_9 rfl (lv_at hl 1 rfl) ?_
    refine ro_i (va_runV (As := [.int p1]) (rest := []) ⟨hx, hb, hml, hown, hts⟩ (s_X7_dotsOf l dC dI cs L K G Q hQ x0 m0 tx tm H.size I J hI p0 hLp0 hKp0 p1 ⟨by omega, by omega⟩) (cwV 1 hts (gV pq1413 pq1415 pq39 pq81 pq1416) rfl rfl rfl (by decide +kernel) ⟨(by rw [hR]; exact (Nat.le_of_ble_eq_true rfl)), (by rw [hR]; exact (Nat.le_of_ble_eq_true rfl))⟩) (sP_V hP hD hK hN hLp0 hKp0 rfl rfl) rfl rfl hl.1 rfl (lv_room (Nat.le_of_ble_eq_true rfl)) dX7_share_10 ⟨(by rw [hR]; exact (Nat.le_of_ble_eq_true rfl)), (by rw [hR]; exact (Nat.le_of_ble_eq_true rfl))⟩) hS hP (fun z10 H locs hz10 hP hS => ?_)
    obtain ⟨bz10, xpz10⟩ := hz10
    refine lv_i2d hx hb dX7_share_13 ?_
    refine lv_topd (fun z13 ez13 => ?_)
    refine lv_aload_n hx hb dX7_share_14 rfl (lv_at hl 0 rfl) ?_
    refine lv_iload_n hx hb dX7_share_15 rfl (lv_at hl 1 rfl) ?_
    refine ro_i (va_runV (As := [.int p1]) (rest := [.double z13]) ⟨hx, hb, hml, hown, hts⟩ (s_X7_wide l dC dI cs L K G Q hQ x0 m0 tx tm H.size I J hI p0 hLp0 hKp0 p1 ⟨by omega, by omega⟩) (cwV 1 hts (gV pq1368 pq1370 pq32 pq81 pq1371) rfl rfl rfl (by decide +kernel) ⟨(by rw [hR]; exact (Nat.le_of_ble_eq_true rfl)), (by rw [hR]; exact (Nat.le_of_ble_eq_true rfl))⟩) (sP_V hP hD hK hN hLp0 hKp0 rfl rfl) rfl rfl hl.1 rfl (lv_room (Nat.le_of_ble_eq_true rfl)) dX7_share_16 ⟨(by rw [hR]; exact (Nat.le_of_ble_eq_true rfl)), (by rw [hR]; exact (Nat.le_of_ble_eq_true rfl))⟩) hS hP (fun z16 H locs hz16 hP hS => ?_)
    obtain ⟨bz16, fez16⟩ := hz16
    refine lv_aload_n hx hb dX7_share_19 rfl (lv_at hl 0 rfl) ?_
    refine lv_iload_n hx hb dX7_share_20 rfl (lv_at hl 1 rfl) ?_
    refine ro_i (va_runV (As := [.int p1]) (rest := [.int z16, .double z13]) ⟨hx, hb, hml, hown, hts⟩ (s_X7_high l dC dI cs L K G Q hQ x0 m0 tx tm H.size I J hI p0 hLp0 hKp0 p1 ⟨by omega, by omega⟩) (cwV 1 hts (gV pq1372 pq1374 pq33 pq81 pq1375) rfl rfl rfl (by decide +kernel) ⟨(by rw [hR]; exact (Nat.le_of_ble_eq_true rfl)), (by rw [hR]; exact (Nat.le_of_ble_eq_true rfl))⟩) (sP_V hP hD hK hN hLp0 hKp0 rfl rfl) rfl rfl hl.1 rfl (lv_room (Nat.le_of_ble_eq_true rfl)) dX7_share_21 ⟨(by rw [hR]; exact (Nat.le_of_ble_eq_true rfl)), (by rw [hR]; exact (Nat.le_of_ble_eq_true rfl))⟩) hS hP (fun z21 H locs hz21 hP hS => ?_)
    obtain ⟨bz21, fez21⟩ := hz21
    refine lv_imul hx hb dX7_share_24 ?_
    refine lv_topi (fun z24 ez24 => ?_)
    refine lv_i2d hx hb dX7_share_25 ?_
    refine lv_topd (fun z25 ez25 => ?_)
    refine lv_ddiv_any hd0 lw_bits hx hb dX7_share_26 (fun z26 d0 hal26 hd0 => ?_)
    have hts := dr_words hts1 d0
    refine ro_l (va_runS (As := [.double z26]) (rest := []) ⟨hx, hb, hml, hown, hts⟩ (s_Jd_bits l dC dI cs L K Q H.size I J z26) (va_cwS 1 hts (gS pq1702 pq1703 pq92 pq1704) rfl rfl rfl (by decide +kernel) ⟨(by rw [hR]; exact (Nat.le_of_ble_eq_true rfl)), (by rw [hR]; exact (Nat.le_of_ble_eq_true rfl))⟩) (sP_S hP hD hK hN) rfl rfl hl.1 rfl (lv_room (Nat.le_of_ble_eq_true rfl)) dX7_share_27 ⟨(by rw [hR]; exact (Nat.le_of_ble_eq_true rfl)), (by rw [hR]; exact (Nat.le_of_ble_eq_true rfl))⟩) hS hP (fun z27 H locs hz27 hP hS => ?_)
    have xpz27 := hz27
    refine lv_goto (tgt := 36) hx hb dX7_share_30 (by decide) ?_
    subst hR; subst hQz
    refine W.endD hd0 ?_
    exact W.lret (v := z27) hx hb hr (fun t ht hW => ⟨⟨z27, (), rfl, (fun σ ok h => by have q := xpz2.1 t5; rw [cm_0 h] at q; have o := ok.2.2.1 p1.toInt.toNat (by omega); have o1 := o.1; have o2 := o.2.1; have eW_ : (mW σ p1).toInt = (σ.1.1 (3 + p1.toInt.toNat)).toInt := rfl; have eH_ : (mH σ p1).toInt = (σ.1.1 (11 + p1.toInt.toNat)).toInt := rfl; have e10 : z10.toInt = (totr (mF σ p1) 40 : Int) := (by rw [xpz10, totr_congr (f := (rF Q J p0 p1.toInt.toNat)) (g := mF σ p1) (fun k hk => (cmA_rJ h) (80 * p1.toInt.toNat + k) (by omega))]); have e16 : z16.toInt = (mW σ p1).toInt := congrArg Int32.toInt ((show z16 = I (a0 Q p0 0) (3 + p1.toInt.toNat) from fez16).trans (cmA_n h (by omega))); have e21 : z21.toInt = (mH σ p1).toInt := congrArg Int32.toInt ((show z21 = I (a0 Q p0 0) (11 + p1.toInt.toNat) from fez21).trans (cmA_n h (by omega))); have S := sh_wh (w := (mW σ p1).toInt) (h := (mH σ p1).toInt) (f := mF σ p1) o; have a24 := tq_mul (k := (mW σ p1).toInt) (q := (mH σ p1).toInt) ez24 e16 e21 (by omega) (by omega); have n10 : z10 = nI (totr (mF σ p1) 40) := Int32.toInt_inj.mp (by rw [nI_toInt (by omega)]; exact e10); have n24 : z24 = nI ((mW σ p1).toInt * (mH σ p1).toInt).toNat := Int32.toInt_inj.mp (by rw [nI_toInt (by omega)]; omega); have X : (FP.ddiv z13 z25).toNat = shF (totr (mF σ p1) 40) ((mW σ p1).toInt * (mH σ p1).toInt).toNat := (by rw [ez13, ez25, n10, n24]; rfl); have su : sureD (FP.ddiv z13 z25) := (by unfold sureD; rw [X]; exact sh_lt (by omega) (by omega) (by omega)); have e26 := sure_al su hal26; rw [← e26] at su X; have w := xpz27 su; exact ⟨fun _ => by rw [w, X], fun n => absurd q n⟩), trivial⟩, hS.F ht⟩) hS.2.2 dX7_share_36
