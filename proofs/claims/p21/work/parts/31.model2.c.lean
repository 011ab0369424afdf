abbrev cX7_quarter : ByteArray := prog_9_method_81_code
def yX7_quarter : MethodName := ⟨RX7, "quarter", "(I)I"⟩
theorem dX7_quarter_0 : decode cX7_quarter 0 = .ok (.aload_n 0, 1) := by decide +kernel
theorem dX7_quarter_1 : decode cX7_quarter 1 = .ok (.iload_n 1, 1) := by decide +kernel
theorem dX7_quarter_2 : decode cX7_quarter 2 = .ok (.invokevirtual 301, 3) := by decide +kernel
theorem dX7_quarter_5 : decode cX7_quarter 5 = .ok (.ifCond .ne 5, 3) := by decide +kernel
theorem dX7_quarter_8 : decode cX7_quarter 8 = .ok (.iconst (-1), 1) := by decide +kernel
theorem dX7_quarter_9 : decode cX7_quarter 9 = .ok (.ireturn, 1) := by decide +kernel
theorem dX7_quarter_10 : decode cX7_quarter 10 = .ok (.aload_n 0, 1) := by decide +kernel
theorem dX7_quarter_11 : decode cX7_quarter 11 = .ok (.iload_n 1, 1) := by decide +kernel
theorem dX7_quarter_12 : decode cX7_quarter 12 = .ok (.invokevirtual 202, 3) := by decide +kernel
theorem dX7_quarter_15 : decode cX7_quarter 15 = .ok (.bipush 40, 2) := by decide +kernel
theorem dX7_quarter_17 : decode cX7_quarter 17 = .ok (.if_icmp .le 6, 3) := by decide +kernel
theorem dX7_quarter_20 : decode cX7_quarter 20 = .ok (.bipush (-2), 2) := by decide +kernel
theorem dX7_quarter_22 : decode cX7_quarter 22 = .ok (.ireturn, 1) := by decide +kernel
theorem dX7_quarter_23 : decode cX7_quarter 23 = .ok (.aload_n 0, 1) := by decide +kernel
theorem dX7_quarter_24 : decode cX7_quarter 24 = .ok (.invokevirtual 304, 3) := by decide +kernel
theorem dX7_quarter_27 : decode cX7_quarter 27 = .ok (.iconst 0, 1) := by decide +kernel
theorem dX7_quarter_28 : decode cX7_quarter 28 = .ok (.istore_n 2, 1) := by decide +kernel
theorem dX7_quarter_29 : decode cX7_quarter 29 = .ok (.iload_n 2, 1) := by decide +kernel
theorem dX7_quarter_30 : decode cX7_quarter 30 = .ok (.aload_n 0, 1) := by decide +kernel
theorem dX7_quarter_31 : decode cX7_quarter 31 = .ok (.iload_n 1, 1) := by decide +kernel
theorem dX7_quarter_32 : decode cX7_quarter 32 = .ok (.invokevirtual 205, 3) := by decide +kernel
theorem dX7_quarter_35 : decode cX7_quarter 35 = .ok (.if_icmp .ge 54, 3) := by decide +kernel
theorem dX7_quarter_38 : decode cX7_quarter 38 = .ok (.iconst 0, 1) := by decide +kernel
theorem dX7_quarter_39 : decode cX7_quarter 39 = .ok (.istore_n 3, 1) := by decide +kernel
theorem dX7_quarter_40 : decode cX7_quarter 40 = .ok (.iload_n 3, 1) := by decide +kernel
theorem dX7_quarter_41 : decode cX7_quarter 41 = .ok (.aload_n 0, 1) := by decide +kernel
theorem dX7_quarter_42 : decode cX7_quarter 42 = .ok (.iload_n 1, 1) := by decide +kernel
theorem dX7_quarter_43 : decode cX7_quarter 43 = .ok (.invokevirtual 202, 3) := by decide +kernel
theorem dX7_quarter_46 : decode cX7_quarter 46 = .ok (.if_icmp .ge 37, 3) := by decide +kernel
theorem dX7_quarter_49 : decode cX7_quarter 49 = .ok (.aload_n 0, 1) := by decide +kernel
theorem dX7_quarter_50 : decode cX7_quarter 50 = .ok (.iload_n 1, 1) := by decide +kernel
theorem dX7_quarter_51 : decode cX7_quarter 51 = .ok (.iload_n 3, 1) := by decide +kernel
theorem dX7_quarter_52 : decode cX7_quarter 52 = .ok (.iload_n 2, 1) := by decide +kernel
theorem dX7_quarter_53 : decode cX7_quarter 53 = .ok (.invokevirtual 215, 3) := by decide +kernel
theorem dX7_quarter_56 : decode cX7_quarter 56 = .ok (.ifCond .eq 21, 3) := by decide +kernel
theorem dX7_quarter_59 : decode cX7_quarter 59 = .ok (.aload_n 0, 1) := by decide +kernel
theorem dX7_quarter_60 : decode cX7_quarter 60 = .ok (.getfield 52, 3) := by decide +kernel
theorem dX7_quarter_63 : decode cX7_quarter 63 = .ok (.iconst 0, 1) := by decide +kernel
theorem dX7_quarter_64 : decode cX7_quarter 64 = .ok (.aload_n 0, 1) := by decide +kernel
theorem dX7_quarter_65 : decode cX7_quarter 65 = .ok (.iload_n 1, 1) := by decide +kernel
theorem dX7_quarter_66 : decode cX7_quarter 66 = .ok (.invokevirtual 205, 3) := by decide +kernel
theorem dX7_quarter_69 : decode cX7_quarter 69 = .ok (.iconst 1, 1) := by decide +kernel
theorem dX7_quarter_70 : decode cX7_quarter 70 = .ok (.isub, 1) := by decide +kernel
theorem dX7_quarter_71 : decode cX7_quarter 71 = .ok (.iload_n 2, 1) := by decide +kernel
theorem dX7_quarter_72 : decode cX7_quarter 72 = .ok (.isub, 1) := by decide +kernel
theorem dX7_quarter_73 : decode cX7_quarter 73 = .ok (.iload_n 3, 1) := by decide +kernel
theorem dX7_quarter_74 : decode cX7_quarter 74 = .ok (.invokestatic 157, 3) := by decide +kernel
theorem dX7_quarter_77 : decode cX7_quarter 77 = .ok (.iinc 3 1, 3) := by decide +kernel
theorem dX7_quarter_80 : decode cX7_quarter 80 = .ok (.goto (-40), 3) := by decide +kernel
theorem dX7_quarter_83 : decode cX7_quarter 83 = .ok (.iinc 2 1, 3) := by decide +kernel
theorem dX7_quarter_86 : decode cX7_quarter 86 = .ok (.goto (-57), 3) := by decide +kernel
theorem dX7_quarter_89 : decode cX7_quarter 89 = .ok (.aload_n 0, 1) := by decide +kernel
theorem dX7_quarter_90 : decode cX7_quarter 90 = .ok (.invokevirtual 286, 3) := by decide +kernel
theorem dX7_quarter_93 : decode cX7_quarter 93 = .ok (.aload_n 0, 1) := by decide +kernel
theorem dX7_quarter_94 : decode cX7_quarter 94 = .ok (.iload_n 1, 1) := by decide +kernel
theorem dX7_quarter_95 : decode cX7_quarter 95 = .ok (.invokevirtual 310, 3) := by decide +kernel
theorem dX7_quarter_98 : decode cX7_quarter 98 = .ok (.aload_n 0, 1) := by decide +kernel
theorem dX7_quarter_99 : decode cX7_quarter 99 = .ok (.iload_n 1, 1) := by decide +kernel
theorem dX7_quarter_100 : decode cX7_quarter 100 = .ok (.invokevirtual 202, 3) := by decide +kernel
theorem dX7_quarter_103 : decode cX7_quarter 103 = .ok (.istore_n 2, 1) := by decide +kernel
theorem dX7_quarter_104 : decode cX7_quarter 104 = .ok (.aload_n 0, 1) := by decide +kernel
theorem dX7_quarter_105 : decode cX7_quarter 105 = .ok (.getfield 9, 3) := by decide +kernel
theorem dX7_quarter_108 : decode cX7_quarter 108 = .ok (.iconst 3, 1) := by decide +kernel
theorem dX7_quarter_109 : decode cX7_quarter 109 = .ok (.iload_n 1, 1) := by decide +kernel
theorem dX7_quarter_110 : decode cX7_quarter 110 = .ok (.iadd, 1) := by decide +kernel
theorem dX7_quarter_111 : decode cX7_quarter 111 = .ok (.aload_n 0, 1) := by decide +kernel
theorem dX7_quarter_112 : decode cX7_quarter 112 = .ok (.iload_n 1, 1) := by decide +kernel
theorem dX7_quarter_113 : decode cX7_quarter 113 = .ok (.invokevirtual 205, 3) := by decide +kernel
theorem dX7_quarter_116 : decode cX7_quarter 116 = .ok (.iastore, 1) := by decide +kernel
theorem dX7_quarter_117 : decode cX7_quarter 117 = .ok (.aload_n 0, 1) := by decide +kernel
theorem dX7_quarter_118 : decode cX7_quarter 118 = .ok (.getfield 9, 3) := by decide +kernel
theorem dX7_quarter_121 : decode cX7_quarter 121 = .ok (.bipush 11, 2) := by decide +kernel
theorem dX7_quarter_123 : decode cX7_quarter 123 = .ok (.iload_n 1, 1) := by decide +kernel
theorem dX7_quarter_124 : decode cX7_quarter 124 = .ok (.iadd, 1) := by decide +kernel
theorem dX7_quarter_125 : decode cX7_quarter 125 = .ok (.iload_n 2, 1) := by decide +kernel
theorem dX7_quarter_126 : decode cX7_quarter 126 = .ok (.iastore, 1) := by decide +kernel
theorem dX7_quarter_127 : decode cX7_quarter 127 = .ok (.aload_n 0, 1) := by decide +kernel
theorem dX7_quarter_128 : decode cX7_quarter 128 = .ok (.iload_n 1, 1) := by decide +kernel
theorem dX7_quarter_129 : decode cX7_quarter 129 = .ok (.invokevirtual 202, 3) := by decide +kernel
theorem dX7_quarter_132 : decode cX7_quarter 132 = .ok (.ireturn, 1) := by decide +kernel
set_option maxHeartbeats 4000000 in
set_option maxRecDepth 100000 in
theorem s_X7_quarter (l : Launch) (dC : Nat → ClassId) (dI : Nat → Nat → Nat) (cs : Nat → ClassId) (L : List Nat) (K G : Nat → Nat) (Q : Nat → Nat → Option Nat) (hQ : Sv L K G Q) (x0 m0 : Nat) (tx : GT) (tm : GT × Int) (sz : Nat) (I : Nat → Nat → Int32) (J : Nat → Nat → Int64) (hI : Iv L K x0 m0 tx tm I) (p0 : Nat) (hLp0 : p0 ∈ L) (hKp0 : K p0 = 7) (p1 : Int32) : Met l yX7_quarter (.code yX7_quarter cX7_quarter 4 (some .int) :: pw) ({ frames := 3, cells := 0, slots := 0, locals := 67 }) (sP (dC, dI) cs [.ref p0, .int p1] sz L K I J Q) (va_Qi (fun (r : Int32) (_ : Unit) => True) (fun _ t => sB (dC, dI) cs L K Q (fun I1 => Iv L K x0 m0 tx tm I1 ∧ cmT Q I p0 I1 ∧ (∀ b, K b = 1 ∨ K b = 6 → I1 b = I b)) t) (fun q => q ∈ L ∨ sz ≤ q)) 0 0 (fun q => q ∈ L ∨ sz ≤ q) := by
  refine Met.ofW (cc := cX7_quarter) (maxL := 4) (ret := (some .int)) (by decide +kernel) rfl ?_
  intro p e s m args below meth c s₁ B hml hv
  obtain ⟨rfl, hsz, hP, hK, hD0, hN⟩ := hv
  have hx := B.exec
  have hb := B.bytes
  have hr := B.returns
  have hts := fun w (h : w ∈ pw) => atoms_spec (ws := Cond.code yX7_quarter cX7_quarter 4 (some .int) :: pw) B.pre w (List.mem_cons_of_mem _ h)
  have hown : s.vm.findClass RX7 = some m.cls := findClass_of_methodNamed B.named
  have hlocks := B.notSynchronized
  subst hsz
  have hBB : 999 ≤ tm.2 ∧ tm.2 ≤ 6000000 := hI.2.2.2.2.1
  have dn_I : (∀ b, K b = 1 ∨ K b = 6 → I b = I b) := fun _ _ => rfl
  have cn_I : cmT Q I p0 I := cmT_refl
  obtain ⟨A, hAe⟩ : ∃ A : Nat → Prop, A = (fun q => q ∈ L ∨ s.heap.size ≤ q) := ⟨_, rfl⟩
  rw [← hAe]
  have hAL : ∀ q, q ∈ L → A q := fun q h => by rw [hAe]; exact Or.inl h
  have hA : ∀ q, s.heap.size ≤ q → A q := fun q h => by rw [hAe]; exact Or.inr h
  have hD : ∀ F, va_D A (va_pl L F) := fun F => (hD0 F).weaken (fun k q hk _ => hAL _ (pl_mem hk))
  obtain ⟨H, hHe⟩ : ∃ H : Heap, H = s.heap := ⟨_, rfl⟩
  have hS : va_S A s.heap H [] := by rw [hHe]; exact va_S.rf
  rw [← hHe] at hP
  have hl := lv_entry ([.ref p0, .int p1]) (n := 4) (Nat.le_of_ble_eq_true rfl)
  rw [lg_entry_eq]
  generalize (lg_sl ([.ref p0, .int p1]) ++ List.replicate (4 - (lg_sl ([.ref p0, .int p1])).length) Slot.unset).toArray = ls at hl ⊢
  have hl : lv_has ls 4 [(0, .ref p0), (1, .int p1)] := hl
  rw [← hHe]
  refine namedW (fun R Qz hR hQz => ?_)
  refine lv_aload_n hx hb dX7_quarter_0 rfl (lv_at hl 0 rfl) ?_
  refine lv_iload_n hx hb dX7_quarter_1 rfl (lv_at hl 1 rfl) ?_
  refine ro_i (va_runV (As := [.int p1]) (rest := []) ⟨hx, hb, hml, hown, hts⟩ (s_X7_isMask l dC dI cs L K G Q hQ x0 m0 tx tm H.size I J hI p0 hLp0 hKp0 p1) (cwV 1 hts (gV pq1364 pq1366 pq31 pq81 pq1367) rfl rfl rfl (by decide +kernel) ⟨(by rw [hR]; exact (Nat.le_of_ble_eq_true rfl)), (by rw [hR]; exact (Nat.le_of_ble_eq_true rfl))⟩) (sP_V hP hD hK hN hLp0 hKp0 rfl rfl) rfl rfl hl.1 rfl (lv_room (Nat.le_of_ble_eq_true rfl)) dX7_quarter_2 ⟨(by rw [hR]; exact (Nat.le_of_ble_eq_true rfl)), (by rw [hR]; exact (Nat.le_of_ble_eq_true rfl))⟩) hS hP (fun z2 H locs hz2 hP hS => ?_)
  obtain ⟨bz2, imz2⟩ := hz2
  refine lv_if_ne (tgt := 10) hx hb dX7_quarter_5 (by decide) (fun c5 => ?_) (fun c5 => ?_)
  · have t5 := tq_ne (k := z2.toInt) (q := (0)) c5 rfl (by decide +kernel)
    have i5 := imz2 t5
    refine lv_aload_n hx hb dX7_quarter_10 rfl (lv_at hl 0 rfl) ?_
    refine lv_iload_n hx hb dX7_quarter_11 rfl (lv_at hl 1 rfl) ?_
    refine ro_i (va_runV (As := [.int p1]) (rest := []) ⟨hx, hb, hml, hown, hts⟩ (s_X7_wide l dC dI cs L K G Q hQ x0 m0 tx tm H.size I J hI p0 hLp0 hKp0 p1 ⟨by omega, by omega⟩) (cwV 1 hts (gV pq1368 pq1370 pq32 pq81 pq1371) rfl rfl rfl (by decide +kernel) ⟨(by rw [hR]; exact (Nat.le_of_ble_eq_true rfl)), (by rw [hR]; exact (Nat.le_of_ble_eq_true rfl))⟩) (sP_V hP hD hK hN hLp0 hKp0 rfl rfl) rfl rfl hl.1 rfl (lv_room (Nat.le_of_ble_eq_true rfl)) dX7_quarter_12 ⟨(by rw [hR]; exact (Nat.le_of_ble_eq_true rfl)), (by rw [hR]; exact (Nat.le_of_ble_eq_true rfl))⟩) hS hP (fun z12 H locs hz12 hP hS => ?_)
    obtain ⟨bz12, fez12⟩ := hz12
    refine lv_bipush (v := 40) hx hb dX7_quarter_15 (by decide +kernel) ?_
    refine lv_icmp_le (tgt := 23) hx hb dX7_quarter_17 (by decide) (fun c17 => ?_) (fun c17 => ?_)
    · have t17 := tq_le (k := z12.toInt) (q := (40)) c17 rfl (by decide +kernel)
      refine lv_aload_n hx hb dX7_quarter_23 rfl (lv_at hl 0 rfl) ?_
      refine sw_v (Z := (fun I1 => Iv L K x0 m0 tx tm I1 ∧ I1 = I)) (va_runV (As := []) (rest := []) ⟨hx, hb, hml, hown, hts⟩ (s_X7_clearsMade l dC dI cs L K G Q hQ x0 m0 tx tm H.size I J hI p0 hLp0 hKp0) (cwV 0 hts (gV pq1391 pq1393 pq36 pq81 pq1394) rfl rfl rfl (by decide +kernel) ⟨(by rw [hR]; exact (Nat.le_of_ble_eq_true rfl)), (by rw [hR]; exact (Nat.le_of_ble_eq_true rfl))⟩) (sP_V hP hD hK hN hLp0 hKp0 rfl rfl) rfl rfl hl.1 rfl (lv_room (Nat.le_of_ble_eq_true rfl)) dX7_quarter_24 ⟨(by rw [hR]; exact (Nat.le_of_ble_eq_true rfl)), (by rw [hR]; exact (Nat.le_of_ble_eq_true rfl))⟩) hS hAL hA (fun Iz24 Jz24 H locs hz24 hIz24 hP hS => ?_)
      obtain ⟨hIz24x, rfl⟩ : Iv L K x0 m0 tx tm Iz24 ∧ I = Iz24 := ⟨hIz24.1, hIz24.2.symm⟩
      refine lv_iconst (v := 0) hx hb dX7_quarter_27 (by decide +kernel) ?_
      refine lv_istore_n (lv' := [(2, .int 0), (0, .ref p0), (1, .int p1)]) hx hb dX7_quarter_28 rfl hl (by decide) rfl (fun ls hl => ?_)
      have key29 := blocks (fun n => ∀ (v29_2 : Int32) (J29 : Nat → Nat → Int64) (H : Heap) (lo : List Loc) (ls : Array Slot), (41 - v29_2.toInt).toNat = n → ((0) ≤ v29_2.toInt ∧ v29_2.toInt ≤ 40) → va_P (dC, dI) vwCl (Wd cs L K I J29 Q) H → va_S A s.heap H lo → lv_has ls 4 [(0, .ref p0), (1, .int p1), (2, .int v29_2)] → W p l e R s m (([.ref p0, .int p1] : List Value).toArray) below meth c H lo 0 0 Qz (F0 m 29 ls [])) (by
        intro n ih29
        intro v29_2 J29 H lo ls hmu29 bv29_2 hP hS hl
        refine lv_iload_n hx hb dX7_quarter_29 rfl (lv_at hl 2 rfl) ?_
        refine lv_aload_n hx hb dX7_quarter_30 rfl (lv_at hl 0 rfl) ?_
        refine lv_iload_n hx hb dX7_quarter_31 rfl (lv_at hl 1 rfl) ?_
        refine ro_i (va_runV (As := [.int p1]) (rest := [.int v29_2]) ⟨hx, hb, hml, hown, hts⟩ (s_X7_high l dC dI cs L K G Q hQ x0 m0 tx tm H.size I J29 hI p0 hLp0 hKp0 p1 ⟨by omega, by omega⟩) (cwV 1 hts (gV pq1372 pq1374 pq33 pq81 pq1375) rfl rfl rfl (by decide +kernel) ⟨(by rw [hR]; exact (Nat.le_of_ble_eq_true rfl)), (by rw [hR]; exact (Nat.le_of_ble_eq_true rfl))⟩) (sP_V hP hD hK hN hLp0 hKp0 rfl rfl) rfl rfl hl.1 rfl (lv_room (Nat.le_of_ble_eq_true rfl)) dX7_quarter_32 ⟨(by rw [hR]; exact (Nat.le_of_ble_eq_true rfl)), (by rw [hR]; exact (Nat.le_of_ble_eq_true rfl))⟩) hS hP (fun z32 H locs hz32 hP hS => ?_)
        obtain ⟨bz32, fez32⟩ := hz32
        refine lv_icmp_ge (tgt := 89) hx hb dX7_quarter_35 (by decide) (fun c35 => ?_) (fun c35 => ?_)
        · have t35 := tq_le (k := z32.toInt) (q := v29_2.toInt) c35 rfl rfl
          refine lv_aload_n hx hb dX7_quarter_89 rfl (lv_at hl 0 rfl) ?_
          refine sw_v (Z := (fun I1 => Iv L K x0 m0 tx tm I1 ∧ (∀ b, ¬ (K b = 7 ∨ K b = 19 ∨ K b = 30) → I1 b = I b) ∧ cmT Q I p0 I1 ∧ (∀ b, K b = 1 ∨ K b = 6 → I1 b = I b))) (va_runV (As := []) (rest := []) ⟨hx, hb, hml, hown, hts⟩ (s_X7_keepsPast l dC dI cs L K G Q hQ x0 m0 tx tm H.size I J29 hI p0 hLp0 hKp0) (cwV 0 hts (gV pq1324 pq1326 pq26 pq81 pq1327) rfl rfl rfl (by decide +kernel) ⟨(by rw [hR]; exact (Nat.le_of_ble_eq_true rfl)), (by rw [hR]; exact (Nat.le_of_ble_eq_true rfl))⟩) (sP_V hP hD hK hN hLp0 hKp0 rfl rfl) rfl rfl hl.1 rfl (lv_room (Nat.le_of_ble_eq_true rfl)) dX7_quarter_90 ⟨(by rw [hR]; exact (Nat.le_of_ble_eq_true rfl)), (by rw [hR]; exact (Nat.le_of_ble_eq_true rfl))⟩) hS hAL hA (fun Iz90 Jz90 H locs hz90 hIz90 hP hS => ?_)
          obtain ⟨hIz90, frc90, cnc90, dnc90⟩ := hIz90
          have dn_Iz90 : (∀ b, K b = 1 ∨ K b = 6 → Iz90 b = I b) := fun b hc => (dnc90 b (by omega)).trans (dn_I b hc)
          have cn_Iz90 := cmT_tr cn_I cnc90
          refine lv_aload_n hx hb dX7_quarter_93 rfl (lv_at hl 0 rfl) ?_
          refine lv_iload_n hx hb dX7_quarter_94 rfl (lv_at hl 1 rfl) ?_
          refine sw_v (Z := (fun I1 => Iv L K x0 m0 tx tm I1 ∧ I1 = Iz90)) (va_runV (As := [.int p1]) (rest := []) ⟨hx, hb, hml, hown, hts⟩ (s_X7_takesMade l dC dI cs L K G Q hQ x0 m0 tx tm H.size Iz90 Jz90 hIz90 p0 hLp0 hKp0 p1 ⟨by omega, by omega⟩) (cwV 1 hts (gV pq1399 pq1401 pq38 pq81 pq1402) rfl rfl rfl (by decide +kernel) ⟨(by rw [hR]; exact (Nat.le_of_ble_eq_true rfl)), (by rw [hR]; exact (Nat.le_of_ble_eq_true rfl))⟩) (sP_V hP hD hK hN hLp0 hKp0 rfl rfl) rfl rfl hl.1 rfl (lv_room (Nat.le_of_ble_eq_true rfl)) dX7_quarter_95 ⟨(by rw [hR]; exact (Nat.le_of_ble_eq_true rfl)), (by rw [hR]; exact (Nat.le_of_ble_eq_true rfl))⟩) hS hAL hA (fun Iz95 Jz95 H locs hz95 hIz95 hP hS => ?_)
          obtain ⟨hIz95x, rfl⟩ : Iv L K x0 m0 tx tm Iz95 ∧ Iz90 = Iz95 := ⟨hIz95.1, hIz95.2.symm⟩
          refine lv_aload_n hx hb dX7_quarter_98 rfl (lv_at hl 0 rfl) ?_
          refine lv_iload_n hx hb dX7_quarter_99 rfl (lv_at hl 1 rfl) ?_
          refine ro_i (va_runV (As := [.int p1]) (rest := []) ⟨hx, hb, hml, hown, hts⟩ (s_X7_wide l dC dI cs L K G Q hQ x0 m0 tx tm H.size Iz90 Jz95 hIz90 p0 hLp0 hKp0 p1 ⟨by omega, by omega⟩) (cwV 1 hts (gV pq1368 pq1370 pq32 pq81 pq1371) rfl rfl rfl (by decide +kernel) ⟨(by rw [hR]; exact (Nat.le_of_ble_eq_true rfl)), (by rw [hR]; exact (Nat.le_of_ble_eq_true rfl))⟩) (sP_V hP hD hK hN hLp0 hKp0 rfl rfl) rfl rfl hl.1 rfl (lv_room (Nat.le_of_ble_eq_true rfl)) dX7_quarter_100 ⟨(by rw [hR]; exact (Nat.le_of_ble_eq_true rfl)), (by rw [hR]; exact (Nat.le_of_ble_eq_true rfl))⟩) hS hP (fun z100 H locs hz100 hP hS => ?_)
          obtain ⟨bz100, fez100⟩ := hz100
          obtain ⟨yn, eyn, hLyn, hKyn⟩ := oQ_7_0 (Sv_at hQ hLp0 hKp0)
          have w100 : z100 = z12 := by rw [fez100, fez12, eyn]; exact congrFun (frc90 yn (by have := hKyn; omega)) _
          have w100i := congrArg Int32.toInt w100
          refine lv_istore_n (lv' := [(2, .int z100), (0, .ref p0), (1, .int p1)]) hx hb dX7_quarter_103 rfl hl (by decide) rfl (fun ls hl => ?_)
          refine lv_aload_n hx hb dX7_quarter_104 rfl (lv_at hl 1 rfl) ?_
          obtain ⟨y105, ey105, hLy105, hKy105⟩ := oQ_7_0 (Sv_at hQ hLp0 hKp0)
          refine p_get (v := .ref y105) hx hb hts inX7 hown hK hP hLp0 hKp0 rfl rfl 0 (by decide) (hts _ pq1115) (congrArg (fun q => some (va_rf q)) ey105) dX7_quarter_105 ?_
          refine lv_iconst (v := 3) hx hb dX7_quarter_108 (by decide +kernel) ?_
          refine lv_iload_n hx hb dX7_quarter_109 rfl (lv_at hl 2 rfl) ?_
          refine lv_iadd hx hb dX7_quarter_110 ?_
          refine lv_topi (fun z110 ez110 => ?_)
          have bz110 := tq_add (k := (3)) (q := p1.toInt) ez110 (by decide +kernel) rfl (by omega) (by omega)
          refine lv_aload_n hx hb dX7_quarter_111 rfl (lv_at hl 1 rfl) ?_
          refine lv_iload_n hx hb dX7_quarter_112 rfl (lv_at hl 2 rfl) ?_
          refine ro_i (va_runV (As := [.int p1]) (rest := [.int z110, .ref y105]) ⟨hx, hb, hml, hown, hts⟩ (s_X7_high l dC dI cs L K G Q hQ x0 m0 tx tm H.size Iz90 Jz95 hIz90 p0 hLp0 hKp0 p1 ⟨by omega, by omega⟩) (cwV 1 hts (gV pq1372 pq1374 pq33 pq81 pq1375) rfl rfl rfl (by decide +kernel) ⟨(by rw [hR]; exact (Nat.le_of_ble_eq_true rfl)), (by rw [hR]; exact (Nat.le_of_ble_eq_true rfl))⟩) (sP_V hP hD hK hN hLp0 hKp0 rfl rfl) rfl rfl hl.1 rfl (lv_room (Nat.le_of_ble_eq_true rfl)) dX7_quarter_113 ⟨(by rw [hR]; exact (Nat.le_of_ble_eq_true rfl)), (by rw [hR]; exact (Nat.le_of_ble_eq_true rfl))⟩) hS hP (fun z113 H locs hz113 hP hS => ?_)
          obtain ⟨bz113, fez113⟩ := hz113
          refine p_iast hx hb hK hP hD hS 8 hLy105 hKy105 rfl (fun _ => rfl) rfl (in_of (by omega) (by omega)) dX7_quarter_116 (fun H locs hP hS => ?_)
          obtain ⟨Iz116, hP, hIz116, qIz116⟩ : ∃ Iz116, va_P (dC, dI) vwCl (Wd cs L K Iz116 Jz95 Q) H ∧ Iv L K x0 m0 tx tm Iz116 ∧ Iz116 = va_up Iz90 y105 (upd (Iz90 y105) z110.toNatClampNeg z113) := ⟨_, hP, Iv_put hIz90 hKy105 (oU_18 (i := z110) (k := z110.toInt) rfl (Iv_at hIz90 hLy105 hKy105) (by unfold rng; omega)) (Or.inl (by decide)) (Or.inl (by decide)), rfl⟩
          have dn_Iz116 : (∀ b, K b = 1 ∨ K b = 6 → Iz116 b = I b) := fun b hc => (congrFun qIz116 b).trans ((va_up_ne _ _ (fun z => by have q := hKy105; rw [← z] at q; omega)).trans (dn_Iz90 b hc))
          have cn_Iz116 := cmT_put hQ hLp0 hKp0 cn_Iz90 qIz116 hKy105 ⟨Or.inr (by show ¬ z110.toInt.toNat = 1; omega), Or.inl (by decide), by decide, by decide, by decide⟩
          refine lv_aload_n hx hb dX7_quarter_117 rfl (lv_at hl 1 rfl) ?_
          refine p_get (v := .ref y105) hx hb hts inX7 hown hK hP hLp0 hKp0 rfl rfl 0 (by decide) (hts _ pq1115) (congrArg (fun q => some (va_rf q)) ey105) dX7_quarter_118 ?_
          refine lv_bipush (v := 11) hx hb dX7_quarter_121 (by decide +kernel) ?_
          refine lv_iload_n hx hb dX7_quarter_123 rfl (lv_at hl 2 rfl) ?_
          refine lv_iadd hx hb dX7_quarter_124 ?_
          refine lv_topi (fun z124 ez124 => ?_)
          have bz124 := tq_add (k := (11)) (q := p1.toInt) ez124 (by decide +kernel) rfl (by omega) (by omega)
          refine lv_iload_n hx hb dX7_quarter_125 rfl (lv_at hl 0 rfl) ?_
          refine p_iast hx hb hK hP hD hS 8 hLy105 hKy105 rfl (fun _ => rfl) rfl (in_of (by omega) (by omega)) dX7_quarter_126 (fun H locs hP hS => ?_)
          obtain ⟨Iz126, hP, hIz126, qIz126⟩ : ∃ Iz126, va_P (dC, dI) vwCl (Wd cs L K Iz126 Jz95 Q) H ∧ Iv L K x0 m0 tx tm Iz126 ∧ Iz126 = va_up Iz116 y105 (upd (Iz116 y105) z124.toNatClampNeg z100) := ⟨_, hP, Iv_put hIz116 hKy105 (oU_18 (i := z124) (k := z124.toInt) rfl (Iv_at hIz116 hLy105 hKy105) (by unfold rng; omega)) (Or.inl (by decide)) (Or.inl (by decide)), rfl⟩
          have dn_Iz126 : (∀ b, K b = 1 ∨ K b = 6 → Iz126 b = I b) := fun b hc => (congrFun qIz126 b).trans ((va_up_ne _ _ (fun z => by have q := hKy105; rw [← z] at q; omega)).trans (dn_Iz116 b hc))
          have cn_Iz126 := cmT_put hQ hLp0 hKp0 cn_Iz116 qIz126 hKy105 ⟨Or.inr (by show ¬ z124.toInt.toNat = 1; omega), Or.inl (by decide), by decide, by decide, by decide⟩
          refine lv_aload_n hx hb dX7_quarter_127 rfl (lv_at hl 1 rfl) ?_
          refine lv_iload_n hx hb dX7_quarter_128 rfl (lv_at hl 2 rfl) ?_
          refine ro_i (va_runV (As := [.int p1]) (rest := []) ⟨hx, hb, hml, hown, hts⟩ (s_X7_wide l dC dI cs L K G Q hQ x0 m0 tx tm H.size Iz126 Jz95 hIz126 p0 hLp0 hKp0 p1 ⟨by omega, by omega⟩) (cwV 1 hts (gV pq1368 pq1370 pq32 pq81 pq1371) rfl rfl rfl (by decide +kernel) ⟨(by rw [hR]; exact (Nat.le_of_ble_eq_true rfl)), (by rw [hR]; exact (Nat.le_of_ble_eq_true rfl))⟩) (sP_V hP hD hK hN hLp0 hKp0 rfl rfl) rfl rfl hl.1 rfl (lv_room (Nat.le_of_ble_eq_true rfl)) dX7_quarter_129 ⟨(by rw [hR]; exact (Nat.le_of_ble_eq_true rfl)), (by rw [hR]; exact (Nat.le_of_ble_eq_true rfl))⟩) hS hP (fun z129 H locs hz129 hP hS => ?_)
          obtain ⟨bz129, fez129⟩ := hz129
          subst hR; subst hQz
          exact W.iret (v := z129) hx hb hr (fun t ht hW => ⟨⟨z129, (), rfl, trivial, ⟨Iz126, Jz95, ⟨hIz126, cn_Iz126, dn_Iz126⟩, by rw [ht]; exact hP⟩⟩, hS.F ht⟩) hS.2.2 dX7_quarter_132
        · have t35 := tq_nle (k := z32.toInt) (q := v29_2.toInt) c35 rfl rfl
          refine lv_iconst (v := 0) hx hb dX7_quarter_38 (by decide +kernel) ?_
          refine lv_istore_n (lv' := [(3, .int 0), (0, .ref p0), (1, .int p1), (2, .int v29_2)]) hx hb dX7_quarter_39 rfl hl (by decide) rfl (fun ls hl => ?_)
          have key40 := blocks (fun n => ∀ (v40_3 : Int32) (J40 : Nat → Nat → Int64) (H : Heap) (lo : List Loc) (ls : Array Slot), (41 - v40_3.toInt).toNat = n → ((0) ≤ v40_3.toInt ∧ v40_3.toInt ≤ 40) → va_P (dC, dI) vwCl (Wd cs L K I J40 Q) H → va_S A s.heap H lo → lv_has ls 4 [(0, .ref p0), (1, .int p1), (2, .int v29_2), (3, .int v40_3)] → W p l e R s m (([.ref p0, .int p1] : List Value).toArray) below meth c H lo 0 0 Qz (F0 m 40 ls [])) (by
            intro n ih40
            intro v40_3 J40 H lo ls hmu40 bv40_3 hP hS hl
            refine lv_iload_n hx hb dX7_quarter_40 rfl (lv_at hl 3 rfl) ?_
            refine lv_aload_n hx hb dX7_quarter_41 rfl (lv_at hl 0 rfl) ?_
            refine lv_iload_n hx hb dX7_quarter_42 rfl (lv_at hl 1 rfl) ?_
            refine ro_i (va_runV (As := [.int p1]) (rest := [.int v40_3]) ⟨hx, hb, hml, hown, hts⟩ (s_X7_wide l dC dI cs L K G Q hQ x0 m0 tx tm H.size I J40 hI p0 hLp0 hKp0 p1 ⟨by omega, by omega⟩) (cwV 1 hts (gV pq1368 pq1370 pq32 pq81 pq1371) rfl rfl rfl (by decide +kernel) ⟨(by rw [hR]; exact (Nat.le_of_ble_eq_true rfl)), (by rw [hR]; exact (Nat.le_of_ble_eq_true rfl))⟩) (sP_V hP hD hK hN hLp0 hKp0 rfl rfl) rfl rfl hl.1 rfl (lv_room (Nat.le_of_ble_eq_true rfl)) dX7_quarter_43 ⟨(by rw [hR]; exact (Nat.le_of_ble_eq_true rfl)), (by rw [hR]; exact (Nat.le_of_ble_eq_true rfl))⟩) hS hP (fun z43 H locs hz43 hP hS => ?_)
            obtain ⟨bz43, fez43⟩ := hz43
            obtain rfl : z12 = z43 := fez12.trans fez43.symm
            refine lv_icmp_ge (tgt := 83) hx hb dX7_quarter_46 (by decide) (fun c46 => ?_) (fun c46 => ?_)
            · have t46 := tq_le (k := z12.toInt) (q := v40_3.toInt) c46 rfl rfl
              obtain ⟨z83, ez83⟩ : ∃ y : Int32, y = v29_2 + 1 := ⟨_, rfl⟩
              refine lv_iinc (v := z83) (lv' := [(2, .int z83), (0, .ref p0), (1, .int p1), (3, .int v40_3)]) hx hb dX7_quarter_83 hl (k := 2) rfl (by rw [ez83]; rfl) (by decide) rfl (fun ls hl => ?_)
              have bz83 := tq_add (k := v29_2.toInt) (q := 1) ez83 rfl (by decide +kernel) (by omega) (by omega)
              refine lv_goto (tgt := 29) hx hb dX7_quarter_86 (by decide) ?_
              exact ih29 _ (by omega) z83 J40 _ _ _ rfl ⟨by omega, by omega⟩ hP hS (lv_sub hl [1, 2, 0] rfl)
            · have t46 := tq_nle (k := z12.toInt) (q := v40_3.toInt) c46 rfl rfl
              refine lv_aload_n hx hb dX7_quarter_49 rfl (lv_at hl 0 rfl) ?_
              refine lv_iload_n hx hb dX7_quarter_50 rfl (lv_at hl 1 rfl) ?_
              refine lv_iload_n hx hb dX7_quarter_51 rfl (lv_at hl 3 rfl) ?_
              refine lv_iload_n hx hb dX7_quarter_52 rfl (lv_at hl 2 rfl) ?_
              refine ro_i (va_runV (As := [.int p1, .int v40_3, .int v29_2]) (rest := []) ⟨hx, hb, hml, hown, hts⟩ (s_X7_has l dC dI cs L K G Q hQ x0 m0 tx tm H.size I J40 hI p0 hLp0 hKp0 p1 ⟨by omega, by omega⟩ v40_3 v29_2) (cwV 3 hts (gV pq1376 pq1378 pq34 pq81 pq1379) rfl rfl rfl (by decide +kernel) ⟨(by rw [hR]; exact (Nat.le_of_ble_eq_true rfl)), (by rw [hR]; exact (Nat.le_of_ble_eq_true rfl))⟩) (sP_V hP hD hK hN hLp0 hKp0 rfl rfl) rfl rfl hl.1 rfl (lv_room (Nat.le_of_ble_eq_true rfl)) dX7_quarter_53 ⟨(by rw [hR]; exact (Nat.le_of_ble_eq_true rfl)), (by rw [hR]; exact (Nat.le_of_ble_eq_true rfl))⟩) hS hP (fun z53 H locs hz53 hP hS => ?_)
              obtain ⟨bz53, imz53⟩ := hz53
              have j77 : ∀ (J77 : Nat → Nat → Int64) (H : Heap) (lo : List Loc) (ls : Array Slot), va_P (dC, dI) vwCl (Wd cs L K I J77 Q) H → va_S A s.heap H lo → lv_has ls 4 [(0, .ref p0), (1, .int p1), (2, .int v29_2), (3, .int v40_3)] → W p l e R s m (([.ref p0, .int p1] : List Value).toArray) below meth c H lo 0 0 Qz (F0 m 77 ls []) := by
                intro J77 H lo ls hP hS hl
                obtain ⟨z77, ez77⟩ : ∃ y : Int32, y = v40_3 + 1 := ⟨_, rfl⟩
                refine lv_iinc (v := z77) (lv' := [(3, .int z77), (0, .ref p0), (1, .int p1), (2, .int v29_2)]) hx hb dX7_quarter_77 hl (k := 3) rfl (by rw [ez77]; rfl) (by decide) rfl (fun ls hl => ?_)
                have bz77 := tq_add (k := v40_3.toInt) (q := 1) ez77 rfl (by decide +kernel) (by omega) (by omega)
                refine lv_goto (tgt := 40) hx hb dX7_quarter_80 (by decide) ?_
                exact ih40 _ (by omega) z77 J77 _ _ _ rfl ⟨by omega, by omega⟩ hP hS (lv_sub hl [1, 2, 3, 0] rfl)
              refine lv_if_eq (tgt := 77) hx hb dX7_quarter_56 (by decide) (fun c56 => ?_) (fun c56 => ?_)
              · have t56 := tq_eq (k := z53.toInt) (q := (0)) c56 rfl (by decide +kernel)
                exact j77 J40 _ _ _ hP hS (lv_sub hl [0, 1, 2, 3] rfl)
              · have t56 := tq_ne (k := z53.toInt) (q := (0)) c56 rfl (by decide +kernel)
                have i56 := imz53 t56
                refine lv_aload_n hx hb dX7_quarter_59 rfl (lv_at hl 0 rfl) ?_
                obtain ⟨y60, ey60, hLy60, hKy60⟩ := oQ_7_19 (Sv_at hQ hLp0 hKp0)
                refine p_get (v := .ref y60) hx hb hts inX7 hown hK hP hLp0 hKp0 rfl rfl 19 (by decide) (hts _ pq1134) (congrArg (fun q => some (va_rf q)) ey60) dX7_quarter_60 ?_
                refine lv_iconst (v := 0) hx hb dX7_quarter_63 (by decide +kernel) ?_
                refine lv_aload_n hx hb dX7_quarter_64 rfl (lv_at hl 0 rfl) ?_
                refine lv_iload_n hx hb dX7_quarter_65 rfl (lv_at hl 1 rfl) ?_
                refine ro_i (va_runV (As := [.int p1]) (rest := [.int 0, .ref y60]) ⟨hx, hb, hml, hown, hts⟩ (s_X7_high l dC dI cs L K G Q hQ x0 m0 tx tm H.size I J40 hI p0 hLp0 hKp0 p1 ⟨by omega, by omega⟩) (cwV 1 hts (gV pq1372 pq1374 pq33 pq81 pq1375) rfl rfl rfl (by decide +kernel) ⟨(by rw [hR]; exact (Nat.le_of_ble_eq_true rfl)), (by rw [hR]; exact (Nat.le_of_ble_eq_true rfl))⟩) (sP_V hP hD hK hN hLp0 hKp0 rfl rfl) rfl rfl hl.1 rfl (lv_room (Nat.le_of_ble_eq_true rfl)) dX7_quarter_66 ⟨(by rw [hR]; exact (Nat.le_of_ble_eq_true rfl)), (by rw [hR]; exact (Nat.le_of_ble_eq_true rfl))⟩) hS hP (fun z66 H locs hz66 hP hS => ?_)
                obtain ⟨bz66, fez66⟩ := hz66
                obtain rfl : z32 = z66 := fez32.trans fez66.symm
                refine lv_iconst (v := 1) hx hb dX7_quarter_69 (by decide +kernel) ?_
                refine lv_isub hx hb dX7_quarter_70 ?_
                refine lv_topi (fun z70 ez70 => ?_)
                have bz70 := tq_sub (k := z32.toInt) (q := (1)) ez70 rfl (by decide +kernel) (by omega) (by omega)
                refine lv_iload_n hx hb dX7_quarter_71 rfl (lv_at hl 2 rfl) ?_
                refine lv_isub hx hb dX7_quarter_72 ?_
                refine lv_topi (fun z72 ez72 => ?_)
                have bz72 := tq_sub (k := z70.toInt) (q := v29_2.toInt) ez72 rfl rfl (by omega) (by omega)
                refine lv_iload_n hx hb dX7_quarter_73 rfl (lv_at hl 3 rfl) ?_
                refine sw_v (Z := (fun I1 => Iv L K x0 m0 tx tm I1 ∧ I1 = I)) (va_runS (As := [.ref y60, .int 0, .int z72, .int v40_3]) (rest := []) ⟨hx, hb, hml, hown, hts⟩ (s_X7_setsDotM l dC dI cs L K G Q hQ x0 m0 tx tm H.size I J40 hI y60 hLy60 hKy60 0 ⟨by decide +kernel, by decide +kernel⟩ z72 ⟨by omega, by omega⟩ v40_3 ⟨by omega, by omega⟩) (va_cwS 4 hts (gS pq1254 pq1255 pq81 pq1256) rfl rfl rfl (by decide +kernel) ⟨(by rw [hR]; exact (Nat.le_of_ble_eq_true rfl)), (by rw [hR]; exact (Nat.le_of_ble_eq_true rfl))⟩) (sP_S hP hD hK hN) rfl rfl hl.1 rfl (lv_room (Nat.le_of_ble_eq_true rfl)) dX7_quarter_74 ⟨(by rw [hR]; exact (Nat.le_of_ble_eq_true rfl)), (by rw [hR]; exact (Nat.le_of_ble_eq_true rfl))⟩) hS hAL hA (fun Iz74 Jz74 H locs hz74 hIz74 hP hS => ?_)
                obtain ⟨hIz74x, rfl⟩ : Iv L K x0 m0 tx tm Iz74 ∧ I = Iz74 := ⟨hIz74.1, hIz74.2.symm⟩
                exact j77 Jz74 _ _ _ hP hS (lv_sub hl [0, 1, 2, 3] rfl))
          exact key40 _ 0 J29 _ _ _ rfl ⟨by decide +kernel, by decide +kernel⟩ hP hS (lv_sub hl [1, 2, 3, 0] rfl))
      exact key29 _ 0 Jz24 _ _ _ rfl ⟨by decide +kernel, by decide +kernel⟩ hP hS (lv_sub hl [1, 2, 0] rfl)
    · have t17 := tq_nle (k := z12.toInt) (q := (40)) c17 rfl (by decide +kernel)
      refine lv_bipush (v := (-2)) hx hb dX7_quarter_20 (by decide +kernel) ?_
      subst hR; subst hQz
      exact W.iret (v := (-2)) hx hb hr (fun t ht hW => ⟨⟨(-2), (), rfl, trivial, ⟨I, J, ⟨hI, cn_I, dn_I⟩, by rw [ht]; exact hP⟩⟩, hS.F ht⟩) hS.2.2 dX7_quarter_22
  · have t5 := tq_eq (k := z2.toInt) (q := (0)) c5 rfl (by decide +kernel)
    refine lv_iconst (v := (-1)) hx hb dX7_quarter_8 (by decide +kernel) ?_
    subst hR; subst hQz
    exact W.iret (v := (-1)) hx hb hr (fun t ht hW => ⟨⟨(-1), (), rfl, trivial, ⟨I, J, ⟨hI, cn_I, dn_I⟩, by rw [ht]; exact hP⟩⟩, hS.F ht⟩) hS.2.2 dX7_quarter_9
