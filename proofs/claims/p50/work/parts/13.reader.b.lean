abbrev cX4_readRows : ByteArray := prog_6_method_8_code
def yX4_readRows : MethodName := ⟨RX4, "readRows", "(LMaskTouch$Mask;)Z"⟩
theorem dX4_readRows_0 : decode cX4_readRows 0 = .ok (.aload_n 1, 1) := by decide +kernel
theorem dX4_readRows_1 : decode cX4_readRows 1 = .ok (.bipush 100, 2) := by decide +kernel
theorem dX4_readRows_3 : decode cX4_readRows 3 = .ok (.bipush 40, 2) := by decide +kernel
theorem dX4_readRows_5 : decode cX4_readRows 5 = .ok (.invokevirtual 110, 3) := by decide +kernel
theorem dX4_readRows_8 : decode cX4_readRows 8 = .ok (.iconst 0, 1) := by decide +kernel
theorem dX4_readRows_9 : decode cX4_readRows 9 = .ok (.istore_n 2, 1) := by decide +kernel
theorem dX4_readRows_10 : decode cX4_readRows 10 = .ok (.iconst 0, 1) := by decide +kernel
theorem dX4_readRows_11 : decode cX4_readRows 11 = .ok (.istore_n 3, 1) := by decide +kernel
theorem dX4_readRows_12 : decode cX4_readRows 12 = .ok (.iload_n 3, 1) := by decide +kernel
theorem dX4_readRows_13 : decode cX4_readRows 13 = .ok (.bipush 40, 2) := by decide +kernel
theorem dX4_readRows_15 : decode cX4_readRows 15 = .ok (.if_icmp .gt 131, 3) := by decide +kernel
theorem dX4_readRows_18 : decode cX4_readRows 18 = .ok (.aload_n 0, 1) := by decide +kernel
theorem dX4_readRows_19 : decode cX4_readRows 19 = .ok (.invokevirtual 46, 3) := by decide +kernel
theorem dX4_readRows_22 : decode cX4_readRows 22 = .ok (.aload_n 0, 1) := by decide +kernel
theorem dX4_readRows_23 : decode cX4_readRows 23 = .ok (.invokevirtual 134, 3) := by decide +kernel
theorem dX4_readRows_26 : decode cX4_readRows 26 = .ok (.istore 4, 2) := by decide +kernel
theorem dX4_readRows_28 : decode cX4_readRows 28 = .ok (.iload 4, 2) := by decide +kernel
theorem dX4_readRows_30 : decode cX4_readRows 30 = .ok (.ifCond .ne 13, 3) := by decide +kernel
theorem dX4_readRows_33 : decode cX4_readRows 33 = .ok (.aload_n 0, 1) := by decide +kernel
theorem dX4_readRows_34 : decode cX4_readRows 34 = .ok (.aload_n 0, 1) := by decide +kernel
theorem dX4_readRows_35 : decode cX4_readRows 35 = .ok (.getfield 15, 3) := by decide +kernel
theorem dX4_readRows_38 : decode cX4_readRows 38 = .ok (.iconst 1, 1) := by decide +kernel
theorem dX4_readRows_39 : decode cX4_readRows 39 = .ok (.invokevirtual 64, 3) := by decide +kernel
theorem dX4_readRows_42 : decode cX4_readRows 42 = .ok (.ireturn, 1) := by decide +kernel
theorem dX4_readRows_43 : decode cX4_readRows 43 = .ok (.iload_n 3, 1) := by decide +kernel
theorem dX4_readRows_44 : decode cX4_readRows 44 = .ok (.bipush 40, 2) := by decide +kernel
theorem dX4_readRows_46 : decode cX4_readRows 46 = .ok (.if_icmp .ne 13, 3) := by decide +kernel
theorem dX4_readRows_49 : decode cX4_readRows 49 = .ok (.aload_n 0, 1) := by decide +kernel
theorem dX4_readRows_50 : decode cX4_readRows 50 = .ok (.aload_n 0, 1) := by decide +kernel
theorem dX4_readRows_51 : decode cX4_readRows 51 = .ok (.getfield 15, 3) := by decide +kernel
theorem dX4_readRows_54 : decode cX4_readRows 54 = .ok (.iconst 3, 1) := by decide +kernel
theorem dX4_readRows_55 : decode cX4_readRows 55 = .ok (.invokevirtual 64, 3) := by decide +kernel
theorem dX4_readRows_58 : decode cX4_readRows 58 = .ok (.ireturn, 1) := by decide +kernel
theorem dX4_readRows_59 : decode cX4_readRows 59 = .ok (.iload_n 3, 1) := by decide +kernel
theorem dX4_readRows_60 : decode cX4_readRows 60 = .ok (.ifCond .ne 23, 3) := by decide +kernel
theorem dX4_readRows_63 : decode cX4_readRows 63 = .ok (.iload 4, 2) := by decide +kernel
theorem dX4_readRows_65 : decode cX4_readRows 65 = .ok (.bipush 100, 2) := by decide +kernel
theorem dX4_readRows_67 : decode cX4_readRows 67 = .ok (.if_icmp .le 16, 3) := by decide +kernel
theorem dX4_readRows_70 : decode cX4_readRows 70 = .ok (.aload_n 0, 1) := by decide +kernel
theorem dX4_readRows_71 : decode cX4_readRows 71 = .ok (.aload_n 0, 1) := by decide +kernel
theorem dX4_readRows_72 : decode cX4_readRows 72 = .ok (.getfield 15, 3) := by decide +kernel
theorem dX4_readRows_75 : decode cX4_readRows 75 = .ok (.bipush 100, 2) := by decide +kernel
theorem dX4_readRows_77 : decode cX4_readRows 77 = .ok (.iadd, 1) := by decide +kernel
theorem dX4_readRows_78 : decode cX4_readRows 78 = .ok (.iconst 4, 1) := by decide +kernel
theorem dX4_readRows_79 : decode cX4_readRows 79 = .ok (.invokevirtual 64, 3) := by decide +kernel
theorem dX4_readRows_82 : decode cX4_readRows 82 = .ok (.ireturn, 1) := by decide +kernel
theorem dX4_readRows_83 : decode cX4_readRows 83 = .ok (.iload_n 3, 1) := by decide +kernel
theorem dX4_readRows_84 : decode cX4_readRows 84 = .ok (.ifCond .le 19, 3) := by decide +kernel
theorem dX4_readRows_87 : decode cX4_readRows 87 = .ok (.iload 4, 2) := by decide +kernel
theorem dX4_readRows_89 : decode cX4_readRows 89 = .ok (.iload_n 2, 1) := by decide +kernel
theorem dX4_readRows_90 : decode cX4_readRows 90 = .ok (.if_icmp .eq 13, 3) := by decide +kernel
theorem dX4_readRows_93 : decode cX4_readRows 93 = .ok (.aload_n 0, 1) := by decide +kernel
theorem dX4_readRows_94 : decode cX4_readRows 94 = .ok (.aload_n 0, 1) := by decide +kernel
theorem dX4_readRows_95 : decode cX4_readRows 95 = .ok (.getfield 15, 3) := by decide +kernel
theorem dX4_readRows_98 : decode cX4_readRows 98 = .ok (.iconst 4, 1) := by decide +kernel
theorem dX4_readRows_99 : decode cX4_readRows 99 = .ok (.invokevirtual 64, 3) := by decide +kernel
theorem dX4_readRows_102 : decode cX4_readRows 102 = .ok (.ireturn, 1) := by decide +kernel
theorem dX4_readRows_103 : decode cX4_readRows 103 = .ok (.iload 4, 2) := by decide +kernel
theorem dX4_readRows_105 : decode cX4_readRows 105 = .ok (.istore_n 2, 1) := by decide +kernel
theorem dX4_readRows_106 : decode cX4_readRows 106 = .ok (.aload_n 0, 1) := by decide +kernel
theorem dX4_readRows_107 : decode cX4_readRows 107 = .ok (.aload_n 1, 1) := by decide +kernel
theorem dX4_readRows_108 : decode cX4_readRows 108 = .ok (.iload_n 3, 1) := by decide +kernel
theorem dX4_readRows_109 : decode cX4_readRows 109 = .ok (.iload_n 2, 1) := by decide +kernel
theorem dX4_readRows_110 : decode cX4_readRows 110 = .ok (.invokevirtual 138, 3) := by decide +kernel
theorem dX4_readRows_113 : decode cX4_readRows 113 = .ok (.aload_n 0, 1) := by decide +kernel
theorem dX4_readRows_114 : decode cX4_readRows 114 = .ok (.invokevirtual 46, 3) := by decide +kernel
theorem dX4_readRows_117 : decode cX4_readRows 117 = .ok (.aload_n 0, 1) := by decide +kernel
theorem dX4_readRows_118 : decode cX4_readRows 118 = .ok (.bipush 47, 2) := by decide +kernel
theorem dX4_readRows_120 : decode cX4_readRows 120 = .ok (.invokevirtual 68, 3) := by decide +kernel
theorem dX4_readRows_123 : decode cX4_readRows 123 = .ok (.ifCond .ne 17, 3) := by decide +kernel
theorem dX4_readRows_126 : decode cX4_readRows 126 = .ok (.aload_n 1, 1) := by decide +kernel
theorem dX4_readRows_127 : decode cX4_readRows 127 = .ok (.iload_n 2, 1) := by decide +kernel
theorem dX4_readRows_128 : decode cX4_readRows 128 = .ok (.putfield 121, 3) := by decide +kernel
theorem dX4_readRows_131 : decode cX4_readRows 131 = .ok (.aload_n 1, 1) := by decide +kernel
theorem dX4_readRows_132 : decode cX4_readRows 132 = .ok (.iload_n 3, 1) := by decide +kernel
theorem dX4_readRows_133 : decode cX4_readRows 133 = .ok (.iconst 1, 1) := by decide +kernel
theorem dX4_readRows_134 : decode cX4_readRows 134 = .ok (.iadd, 1) := by decide +kernel
theorem dX4_readRows_135 : decode cX4_readRows 135 = .ok (.putfield 114, 3) := by decide +kernel
theorem dX4_readRows_138 : decode cX4_readRows 138 = .ok (.iconst 1, 1) := by decide +kernel
theorem dX4_readRows_139 : decode cX4_readRows 139 = .ok (.ireturn, 1) := by decide +kernel
theorem dX4_readRows_140 : decode cX4_readRows 140 = .ok (.iinc 3 1, 3) := by decide +kernel
theorem dX4_readRows_143 : decode cX4_readRows 143 = .ok (.goto (-131), 3) := by decide +kernel
set_option maxRecDepth 100000 in
theorem pq529 : Cond.methodLink RX4 134 yX4_signsAhead ∈ pw := pw_mem (i := 529) (by decide +kernel) rfl
set_option maxRecDepth 100000 in
theorem pq530 : Cond.instanceMethod yX4_signsAhead ∈ pw := pw_mem (i := 530) (by decide +kernel) rfl
set_option maxRecDepth 100000 in
theorem pq531 : Cond.selects RX4 yX4_signsAhead yX4_signsAhead ∈ pw := pw_mem (i := 531) (by decide +kernel) rfl
set_option maxRecDepth 100000 in
theorem pq532 : Cond.code yX4_signsAhead cX4_signsAhead 2 (some .int) ∈ pw := pw_mem (i := 532) (by rfl) rfl
set_option maxRecDepth 100000 in
theorem pq533 : Cond.methodLink RX4 138 yX4_takeRow ∈ pw := pw_mem (i := 533) (by decide +kernel) rfl
set_option maxRecDepth 100000 in
theorem pq534 : Cond.instanceMethod yX4_takeRow ∈ pw := pw_mem (i := 534) (by decide +kernel) rfl
set_option maxRecDepth 100000 in
theorem pq535 : Cond.selects RX4 yX4_takeRow yX4_takeRow ∈ pw := pw_mem (i := 535) (by decide +kernel) rfl
set_option maxRecDepth 100000 in
theorem pq536 : Cond.code yX4_takeRow cX4_takeRow 5 none ∈ pw := pw_mem (i := 536) (by rfl) rfl
set_option maxHeartbeats 4000000 in
set_option maxRecDepth 100000 in
theorem s_X4_readRows (l : Launch) (dC : Nat → ClassId) (dI : Nat → Nat → Nat) (cs : Nat → ClassId) (L : List Nat) (K G : Nat → Nat) (Q : Nat → Nat → Option Nat) (hQ : Sv L K G Q) (x0 m0 : Nat) (tx : GT) (tm : GT × Int) (sz : Nat) (I : Nat → Nat → Int32) (J : Nat → Nat → Int64) (hI : Iv L K x0 m0 tx tm I) (p0 : Nat) (hLp0 : p0 ∈ L) (hKp0 : K p0 = 4) (p1 : Nat) (hLp1 : p1 ∈ L) (hKp1 : K p1 = 3) : Met l yX4_readRows (.code yX4_readRows cX4_readRows 5 (some .boolean) :: pw) ({ frames := 3, cells := 0, slots := 0, locals := 68 }) (sP (dC, dI) cs [.ref p0, .ref p1] sz L K I J Q) (va_Qi (fun (r : Int32) (u : Int32) => u = r ∧ ((0) ≤ r.toInt ∧ r.toInt ≤ 1)) (fun u t => sB (dC, dI) cs L K Q (fun I1 J1 => Iv L K x0 m0 tx tm I1 ∧ (∀ b, ¬ (b = p0 ∨ b = p1) → I1 b = I b) ∧ rdP I I1 p0 u (prw (tb tx.2.2 (I p0 1).toInt) 41 0 0 (I p0 2).toInt) ∧ (¬ u.toInt = 0 → ((I1 p1 0).toInt = nwd (tb tx.2.2 (I p0 1).toInt) (I p0 2).toInt ∧ (I1 p1 1).toInt = nrw (tb tx.2.2 (I p0 1).toInt) 41 (I p0 2).toInt) ∧ ∀ x y : Int, md (J1 (wo Q p1)) x y = rwD (tb tx.2.2 (I p0 1).toInt) (nwd (tb tx.2.2 (I p0 1).toInt) (I p0 2).toInt) (nrw (tb tx.2.2 (I p0 1).toInt) 41 (I p0 2).toInt) (I p0 2).toInt x y) ∧ (∀ b, ¬ (K b = 12 ∧ (G b = G p1)) → J1 b = J b)) t) (fun q => q ∈ L ∨ sz ≤ q)) 0 0 (fun q => q ∈ L ∨ sz ≤ q) := by
  refine Met.ofW (cc := cX4_readRows) (maxL := 5) (ret := (some .boolean)) (by decide +kernel) rfl ?_
  intro p e s m args below meth c s₁ B hml hv
  obtain ⟨rfl, hsz, hP, hK, hD0, hN⟩ := hv
  have hx := B.exec
  have hb := B.bytes
  have hr := B.returns
  have hts := fun w (h : w ∈ pw) => atoms_spec (ws := Cond.code yX4_readRows cX4_readRows 5 (some .boolean) :: pw) B.pre w (List.mem_cons_of_mem _ h)
  have hown : s.vm.findClass RX4 = some m.cls := findClass_of_methodNamed B.named
  have hlocks := B.notSynchronized
  subst hsz
  have hBB : 999 ≤ tm.2 ∧ tm.2 ≤ 6000000 := hI.2.2.2.2.1
  have dj_J : (∀ b, ¬ (K b = 12 ∧ (G b = G p1)) → J b = J b) := fun _ _ => rfl
  have fr_I : ∀ b, ¬ (b = p0 ∨ b = p1) → I b = I b := fun _ _ => rfl
  obtain ⟨A, hAe⟩ : ∃ A : Nat → Prop, A = (fun q => q ∈ L ∨ s.heap.size ≤ q) := ⟨_, rfl⟩
  rw [← hAe]
  have hAL : ∀ q, q ∈ L → A q := fun q h => by rw [hAe]; exact Or.inl h
  have hA : ∀ q, s.heap.size ≤ q → A q := fun q h => by rw [hAe]; exact Or.inr h
  have hD : ∀ F, va_D A (va_pl L F) := fun F => (hD0 F).weaken (fun k q hk _ => hAL _ (pl_mem hk))
  obtain ⟨H, hHe⟩ : ∃ H : Heap, H = s.heap := ⟨_, rfl⟩
  have hS : va_S A s.heap H [] := by rw [hHe]; exact va_S.rf
  rw [← hHe] at hP
  have hl := lv_entry ([.ref p0, .ref p1]) (n := 5) (Nat.le_of_ble_eq_true rfl)
  rw [lg_entry_eq]
  generalize (lg_sl ([.ref p0, .ref p1]) ++ List.replicate (5 - (lg_sl ([.ref p0, .ref p1])).length) Slot.unset).toArray = ls at hl ⊢
  have hl : lv_has ls 5 [(0, .ref p0), (1, .ref p1)] := hl
  rw [← hHe]
  refine namedW (fun R Qz hR hQz => ?_)
  refine lv_aload_n hx hb dX4_readRows_0 rfl (lv_at hl 1 rfl) ?_
  refine lv_bipush (v := 100) hx hb dX4_readRows_1 (by decide +kernel) ?_
  refine lv_bipush (v := 40) hx hb dX4_readRows_3 (by decide +kernel) ?_
  refine sw_v (Z := (fun I1 J1 => Iv L K x0 m0 tx tm I1 ∧ (∀ b, ¬ (b = p1) → I1 b = I b) ∧ ((I1 p1 1 = (40 : Int32) ∧ I1 p1 0 = (100 : Int32) ∧ ∀ b k, ¬ k = 0 → ¬ k = 1 → ¬ k = 3 → I1 b k = I b k)) ∧ (∀ k, k < 80 → J1 (wo Q p1) k = 0) ∧ (∀ b, ¬ (K b = 12 ∧ (G b = G p1)) → J1 b = J b))) (va_runV (As := [.int 100, .int 40]) (rest := []) ⟨hx, hb, hml, hown, hts⟩ (s_X3_resize l dC dI cs L K G Q hQ x0 m0 tx tm H.size I J hI p1 hLp1 hKp1 100 ⟨by decide +kernel, by decide +kernel⟩ 40 ⟨by decide +kernel, by decide +kernel⟩) (cwV 2 hts (gV pq492 pq493 pq494 pq76 pq495) rfl rfl rfl (by decide +kernel) ⟨(by rw [hR]; exact (Nat.le_of_ble_eq_true rfl)), (by rw [hR]; exact (Nat.le_of_ble_eq_true rfl))⟩) (sP_V hP hD hK hN hLp1 hKp1 rfl rfl) rfl rfl hl.1 rfl (lv_room (Nat.le_of_ble_eq_true rfl)) dX4_readRows_5 ⟨(by rw [hR]; exact (Nat.le_of_ble_eq_true rfl)), (by rw [hR]; exact (Nat.le_of_ble_eq_true rfl))⟩) hS hAL hA (fun Iz5 Jz5 H locs hz5 hIz5 hP hS => ?_)
  obtain ⟨hIz5, frc5, zp5, jz5, djc5⟩ := hIz5
  have dj_Jz5 : (∀ b, ¬ (K b = 12 ∧ (G b = G p1)) → Jz5 b = J b) := fun b hc => (djc5 b (fun z => hc (by exact ⟨z.1, by have z2 := z.2; omega⟩))).trans (dj_J b hc)
  have fr_Iz5 : ∀ b, ¬ (b = p0 ∨ b = p1) → Iz5 b = I b := fun b q => (frc5 b (fun z => q (by omega))).trans (fr_I b q)
  refine lv_iconst (v := 0) hx hb dX4_readRows_8 (by decide +kernel) ?_
  refine lv_istore_n (lv' := [(2, .int 0), (0, .ref p0), (1, .ref p1)]) hx hb dX4_readRows_9 rfl hl (by decide) rfl (fun ls hl => ?_)
  refine lv_iconst (v := 0) hx hb dX4_readRows_10 (by decide +kernel) ?_
  refine lv_istore_n (lv' := [(3, .int 0), (2, .int 0), (0, .ref p0), (1, .ref p1)]) hx hb dX4_readRows_11 rfl hl (by decide) rfl (fun ls hl => ?_)
  have key12 := blocks (fun n => ∀ (v12_2 : Int32) (v12_3 : Int32) (I12 : Nat → Nat → Int32) (J12 : Nat → Nat → Int64) (H : Heap) (lo : List Loc) (ls : Array Slot), (41 - v12_3.toInt).toNat = n → ((0) ≤ v12_2.toInt ∧ v12_2.toInt ≤ 100) → ((0) ≤ v12_3.toInt ∧ v12_3.toInt ≤ 40) → Iv L K x0 m0 tx tm I12 → (∀ b, ¬ (b = p0 ∨ b = p1) → I12 b = I b) → (∀ b, ¬ (K b = 12 ∧ (G b = G p1)) → J12 b = J b) → ((I12 p1 0).toInt = 100 ∧ (I12 p1 1).toInt = 40) → rrI (tb tx.2.2 (I p0 1).toInt) (I p0 2).toInt (J12 (wo Q p1)) v12_3.toInt v12_2.toInt (I12 p0 2).toInt → (prw (tb tx.2.2 (I p0 1).toInt) 41 0 0 (I p0 2).toInt = prw (tb tx.2.2 (I p0 1).toInt) (41 - v12_3.toInt).toNat v12_3.toInt v12_2.toInt (I12 p0 2).toInt ∧ I12 p0 1 = I p0 1 ∧ I12 p0 5 = I p0 5) → va_P (dC, dI) vwCl (Wd cs L K I12 J12 Q) H → va_S A s.heap H lo → lv_has ls 5 [(0, .ref p0), (1, .ref p1), (2, .int v12_2), (3, .int v12_3)] → W p l e R s m (([.ref p0, .ref p1] : List Value).toArray) below meth c H lo 0 0 Qz (F0 m 12 ls [])) (by
    intro n ih12
    intro v12_2 v12_3 I12 J12 H lo ls hmu12 bv12_2 bv12_3 hI12 fr_I12 dj_J12 hm12 hw12 hq hP hS hl
    refine lv_iload_n hx hb dX4_readRows_12 rfl (lv_at hl 3 rfl) ?_
    refine lv_bipush (v := 40) hx hb dX4_readRows_13 (by decide +kernel) ?_
    refine lv_icmp_gt (tgt := 146) hx hb dX4_readRows_15 (by decide) (fun c15 => by have t15 := tq_lt (k := (40)) (q := v12_3.toInt) c15 (by decide +kernel) rfl; omega) (fun c15 => ?_)
    have t15 := tq_nlt (k := (40)) (q := v12_3.toInt) c15 (by decide +kernel) rfl
    refine lv_aload_n hx hb dX4_readRows_18 rfl (lv_at hl 0 rfl) ?_
    refine sw_v (Z := (fun I1 J1 => Iv L K x0 m0 tx tm I1 ∧ (∀ b, ¬ (b = p0) → I1 b = I12 b) ∧ I1 p0 1 = I12 p0 1 ∧ I1 p0 4 = I12 p0 4 ∧ rdA I12 I1 p0 (sk (tb tx.2.2 (I12 p0 1).toInt) (I12 p0 2).toInt) ∧ J1 = J12)) (va_runV (As := []) (rest := []) ⟨hx, hb, hml, hown, hts⟩ (s_X4_skipBlanks l dC dI cs L K G Q hQ x0 m0 tx tm H.size I12 J12 hI12 p0 hLp0 hKp0) (cwV 0 hts (gV pq417 pq418 pq419 pq78 pq420) rfl rfl rfl (by decide +kernel) ⟨(by rw [hR]; exact (Nat.le_of_ble_eq_true rfl)), (by rw [hR]; exact (Nat.le_of_ble_eq_true rfl))⟩) (sP_V hP hD hK hN hLp0 hKp0 rfl rfl) rfl rfl hl.1 rfl (lv_room (Nat.le_of_ble_eq_true rfl)) dX4_readRows_19 ⟨(by rw [hR]; exact (Nat.le_of_ble_eq_true rfl)), (by rw [hR]; exact (Nat.le_of_ble_eq_true rfl))⟩) hS hAL hA (fun Iz19 Jz19 H locs hz19 hIz19 hP hS => ?_)
    obtain ⟨hIz19, frc19, kc19_0_1, kc19_0_4, fz19, djc19⟩ := hIz19
    obtain rfl : J12 = Jz19 := djc19.symm
    have fr_Iz19 : ∀ b, ¬ (b = p0 ∨ b = p1) → Iz19 b = I b := fun b q => (frc19 b (fun z => q (by omega))).trans (fr_I12 b q)
    refine lv_aload_n hx hb dX4_readRows_22 rfl (lv_at hl 0 rfl) ?_
    refine ro_i (va_runV (As := []) (rest := []) ⟨hx, hb, hml, hown, hts⟩ (s_X4_signsAhead l dC dI cs L K G Q hQ x0 m0 tx tm H.size Iz19 J12 hIz19 p0 hLp0 hKp0) (cwV 0 hts (gV pq529 pq530 pq531 pq78 pq532) rfl rfl rfl (by decide +kernel) ⟨(by rw [hR]; exact (Nat.le_of_ble_eq_true rfl)), (by rw [hR]; exact (Nat.le_of_ble_eq_true rfl))⟩) (sP_V hP hD hK hN hLp0 hKp0 rfl rfl) rfl rfl hl.1 rfl (lv_room (Nat.le_of_ble_eq_true rfl)) dX4_readRows_23 ⟨(by rw [hR]; exact (Nat.le_of_ble_eq_true rfl)), (by rw [hR]; exact (Nat.le_of_ble_eq_true rfl))⟩) hS hP (fun z23 H locs hz23 hP hS => ?_)
    obtain ⟨bz23, xpz23⟩ := hz23
    have e1 : Iz19 p0 1 = I p0 1 := fz19.2.1.trans hq.2.1
    have e2 : (Iz19 p0 2).toInt = sk (tb tx.2.2 (I p0 1).toInt) (I12 p0 2).toInt := by have q := fz19.1; rw [hq.2.1] at q; exact q
    have e3 : z23.toInt = sr (tb tx.2.2 (I p0 1).toInt) (sk (tb tx.2.2 (I p0 1).toInt) (I12 p0 2).toInt) - sk (tb tx.2.2 (I p0 1).toInt) (I12 p0 2).toInt := by have q := xpz23.1; rw [e1, e2] at q; exact q
    refine lv_istore (lv' := [(4, .int z23), (0, .ref p0), (1, .ref p1), (2, .int v12_2), (3, .int v12_3)]) hx hb dX4_readRows_26 hl (by decide) rfl (fun ls hl => ?_)
    refine lv_iload hx hb dX4_readRows_28 (lv_at hl 0 rfl) ?_
    refine lv_if_ne (tgt := 43) hx hb dX4_readRows_30 (by decide) (fun c30 => ?_) (fun c30 => ?_)
    · have t30 := tq_ne (k := z23.toInt) (q := (0)) c30 rfl (by decide +kernel)
      refine lv_iload_n hx hb dX4_readRows_43 rfl (lv_at hl 4 rfl) ?_
      refine lv_bipush (v := 40) hx hb dX4_readRows_44 (by decide +kernel) ?_
      refine lv_icmp_ne (tgt := 59) hx hb dX4_readRows_46 (by decide) (fun c46 => ?_) (fun c46 => ?_)
      · have t46 := tq_ne (k := v12_3.toInt) (q := (40)) c46 rfl (by decide +kernel)
        refine lv_iload_n hx hb dX4_readRows_59 rfl (lv_at hl 4 rfl) ?_
        have j83 : ∀ (H : Heap) (lo : List Loc) (ls : Array Slot), (v12_3.toInt = 0 → z23.toInt ≤ 100) → va_P (dC, dI) vwCl (Wd cs L K Iz19 J12 Q) H → va_S A s.heap H lo → lv_has ls 5 [(0, .ref p0), (1, .ref p1), (2, .int v12_2), (3, .int v12_3), (4, .int z23)] → W p l e R s m (([.ref p0, .ref p1] : List Value).toArray) below meth c H lo 0 0 Qz (F0 m 83 ls []) := by
          intro H lo ls hq1 hP hS hl
          refine lv_iload_n hx hb dX4_readRows_83 rfl (lv_at hl 3 rfl) ?_
          have j103 : ∀ (H : Heap) (lo : List Loc) (ls : Array Slot), z23.toInt ≤ 100 → (0 < v12_3.toInt → z23.toInt = v12_2.toInt) → va_P (dC, dI) vwCl (Wd cs L K Iz19 J12 Q) H → va_S A s.heap H lo → lv_has ls 5 [(0, .ref p0), (1, .ref p1), (2, .int v12_2), (3, .int v12_3), (4, .int z23)] → W p l e R s m (([.ref p0, .ref p1] : List Value).toArray) below meth c H lo 0 0 Qz (F0 m 103 ls []) := by
            intro H lo ls hq2 hq3 hP hS hl
            refine lv_iload hx hb dX4_readRows_103 (lv_at hl 4 rfl) ?_
            refine lv_istore_n (lv' := [(2, .int z23), (0, .ref p0), (1, .ref p1), (3, .int v12_3), (4, .int z23)]) hx hb dX4_readRows_105 rfl hl (by decide) rfl (fun ls hl => ?_)
            refine lv_aload_n hx hb dX4_readRows_106 rfl (lv_at hl 1 rfl) ?_
            refine lv_aload_n hx hb dX4_readRows_107 rfl (lv_at hl 2 rfl) ?_
            refine lv_iload_n hx hb dX4_readRows_108 rfl (lv_at hl 3 rfl) ?_
            refine lv_iload_n hx hb dX4_readRows_109 rfl (lv_at hl 0 rfl) ?_
            refine sw_v (Z := (fun I1 J1 => Iv L K x0 m0 tx tm I1 ∧ (∀ b, ¬ (b = p0) → I1 b = Iz19 b) ∧ ((Iz19 p0 2).toInt + z23.toInt ≤ (Iz19 p0 1).toInt → rdA Iz19 I1 p0 ((Iz19 p0 2).toInt + z23.toInt)) ∧ (∀ D : Int → Int → Bool, (Iz19 p0 2).toInt + z23.toInt ≤ (Iz19 p0 1).toInt → (z23.toInt ≤ (Iz19 p1 0).toInt ∧ 0 ≤ v12_3.toInt ∧ v12_3.toInt < (Iz19 p1 1).toInt) → (∀ x : Int, 0 ≤ x → x < z23.toInt → D x v12_3.toInt = decide ((tb tx.2.2 (Iz19 p0 1).toInt) ((Iz19 p0 2).toInt + x) = 35)) → rowI D (J12 (wo Q p1)) v12_3.toInt 0 → rowI D (J1 (wo Q p1)) v12_3.toInt z23.toInt) ∧ (∀ b, ¬ (K b = 12 ∧ (G b = G p1)) → J1 b = J12 b))) (va_runV (As := [.ref p1, .int v12_3, .int z23]) (rest := []) ⟨hx, hb, hml, hown, hts⟩ (s_X4_takeRow l dC dI cs L K G Q hQ x0 m0 tx tm H.size Iz19 J12 hIz19 p0 hLp0 hKp0 p1 hLp1 hKp1 v12_3 z23 ⟨by omega, by omega⟩) (cwV 3 hts (gV pq533 pq534 pq535 pq78 pq536) rfl rfl rfl (by decide +kernel) ⟨(by rw [hR]; exact (Nat.le_of_ble_eq_true rfl)), (by rw [hR]; exact (Nat.le_of_ble_eq_true rfl))⟩) (sP_V hP hD hK hN hLp0 hKp0 rfl rfl) rfl rfl hl.1 rfl (lv_room (Nat.le_of_ble_eq_true rfl)) dX4_readRows_110 ⟨(by rw [hR]; exact (Nat.le_of_ble_eq_true rfl)), (by rw [hR]; exact (Nat.le_of_ble_eq_true rfl))⟩) hS hAL hA (fun Iz110 Jz110 H locs hz110 hIz110 hP hS => ?_)
            obtain ⟨hIz110, frc110, fz110, jz110, djc110⟩ := hIz110
            have dj_Jz110 : (∀ b, ¬ (K b = 12 ∧ (G b = G p1)) → Jz110 b = J b) := fun b hc => (djc110 b (fun z => hc (by exact ⟨z.1, by have z2 := z.2; omega⟩))).trans (dj_J12 b hc)
            have fr_Iz110 : ∀ b, ¬ (b = p0 ∨ b = p1) → Iz110 b = I b := fun b q => (frc110 b (fun z => q (by omega))).trans (fr_Iz19 b q)
            refine lv_aload_n hx hb dX4_readRows_113 rfl (lv_at hl 1 rfl) ?_
            refine sw_v (Z := (fun I1 J1 => Iv L K x0 m0 tx tm I1 ∧ (∀ b, ¬ (b = p0) → I1 b = Iz110 b) ∧ I1 p0 1 = Iz110 p0 1 ∧ I1 p0 4 = Iz110 p0 4 ∧ rdA Iz110 I1 p0 (sk (tb tx.2.2 (Iz110 p0 1).toInt) (Iz110 p0 2).toInt) ∧ J1 = Jz110)) (va_runV (As := []) (rest := []) ⟨hx, hb, hml, hown, hts⟩ (s_X4_skipBlanks l dC dI cs L K G Q hQ x0 m0 tx tm H.size Iz110 Jz110 hIz110 p0 hLp0 hKp0) (cwV 0 hts (gV pq417 pq418 pq419 pq78 pq420) rfl rfl rfl (by decide +kernel) ⟨(by rw [hR]; exact (Nat.le_of_ble_eq_true rfl)), (by rw [hR]; exact (Nat.le_of_ble_eq_true rfl))⟩) (sP_V hP hD hK hN hLp0 hKp0 rfl rfl) rfl rfl hl.1 rfl (lv_room (Nat.le_of_ble_eq_true rfl)) dX4_readRows_114 ⟨(by rw [hR]; exact (Nat.le_of_ble_eq_true rfl)), (by rw [hR]; exact (Nat.le_of_ble_eq_true rfl))⟩) hS hAL hA (fun Iz114 Jz114 H locs hz114 hIz114 hP hS => ?_)
            obtain ⟨hIz114, frc114, kc114_0_1, kc114_0_4, fz114, djc114⟩ := hIz114
            obtain rfl : Jz110 = Jz114 := djc114.symm
            have fr_Iz114 : ∀ b, ¬ (b = p0 ∨ b = p1) → Iz114 b = I b := fun b q => (frc114 b (fun z => q (by omega))).trans (fr_Iz110 b q)
            refine lv_aload_n hx hb dX4_readRows_117 rfl (lv_at hl 1 rfl) ?_
            refine lv_bipush (v := 47) hx hb dX4_readRows_118 (by decide +kernel) ?_
            refine sw_ir (Z := (fun u => (fun I1 J1 => Iv L K x0 m0 tx tm I1 ∧ (∀ b, ¬ (b = p0) → I1 b = Iz114 b) ∧ (((tb tx.2.2 (Iz114 p0 1).toInt) (sk (tb tx.2.2 (Iz114 p0 1).toInt) (Iz114 p0 2).toInt) = (47 : Int32).toInt → u.toInt = 1 ∧ rdA Iz114 I1 p0 ((sk (tb tx.2.2 (Iz114 p0 1).toInt) (Iz114 p0 2).toInt) + 1)) ∧ (¬ (tb tx.2.2 (Iz114 p0 1).toInt) (sk (tb tx.2.2 (Iz114 p0 1).toInt) (Iz114 p0 2).toInt) = (47 : Int32).toInt → u.toInt = 0 ∧ rdA Iz114 I1 p0 (sk (tb tx.2.2 (Iz114 p0 1).toInt) (Iz114 p0 2).toInt))) ∧ J1 = Jz110))) (va_runV (As := [.int 47]) (rest := []) ⟨hx, hb, hml, hown, hts⟩ (s_X4_takeSign l dC dI cs L K G Q hQ x0 m0 tx tm H.size Iz114 Jz110 hIz114 p0 hLp0 hKp0 47 ⟨by decide +kernel, by decide +kernel⟩) (cwV 1 hts (gV pq537 pq538 pq539 pq78 pq540) rfl rfl rfl (by decide +kernel) ⟨(by rw [hR]; exact (Nat.le_of_ble_eq_true rfl)), (by rw [hR]; exact (Nat.le_of_ble_eq_true rfl))⟩) (sP_V hP hD hK hN hLp0 hKp0 rfl rfl) rfl rfl hl.1 rfl (lv_room (Nat.le_of_ble_eq_true rfl)) dX4_readRows_120 ⟨(by rw [hR]; exact (Nat.le_of_ble_eq_true rfl)), (by rw [hR]; exact (Nat.le_of_ble_eq_true rfl))⟩) hS hAL hA (fun z120 Iz120 Jz120 H locs hz120 hIz120 hP hS => ?_)
            obtain ⟨hIz120, frc120, fz120, djc120⟩ := hIz120
            obtain rfl : Jz110 = Jz120 := djc120.symm
            have fr_Iz120 : ∀ b, ¬ (b = p0 ∨ b = p1) → Iz120 b = I b := fun b q => (frc120 b (fun z => q (by omega))).trans (fr_Iz114 b q)
            have cst120_47 : (47 : Int32).toInt = 47 := by decide +kernel
            have bz120 := hz120
            have bn := oI_4_1 (Iv_at hI hLp0 hKp0)
            have b2 := oI_4_2 (Iv_at hIz19 hLp0 hKp0)
            have f1 := fz110 (by rw [e1, e2]; have q : sr (tb tx.2.2 (I p0 1).toInt) (sk (tb tx.2.2 (I p0 1).toInt) (I12 p0 2).toInt) ≤ (I p0 1).toInt := rn_len2 (by decide) (by rw [← e3]; omega); rw [e3]; omega)
            have f2 : (Iz110 p0 2).toInt = (sr (tb tx.2.2 (I p0 1).toInt) (sk (tb tx.2.2 (I p0 1).toInt) (I12 p0 2).toInt)) := f1.1.trans (by rw [e2, e3]; omega)
            have f3 : (Iz114 p0 2).toInt = sk (tb tx.2.2 (I p0 1).toInt) (sr (tb tx.2.2 (I p0 1).toInt) (sk (tb tx.2.2 (I p0 1).toInt) (I12 p0 2).toInt)) := by have q := fz114.1; rw [f2, f1.2.1, e1] at q; exact q
            have eT1 : Iz114 p0 1 = I p0 1 := fz114.2.1.trans (f1.2.1.trans e1)
            have eT5 : Iz114 p0 5 = I p0 5 := fz114.2.2.trans (f1.2.2.trans (fz19.2.2.trans hq.2.2))
            have eT : tb tx.2.2 (Iz114 p0 1).toInt = (tb tx.2.2 (I p0 1).toInt) := by rw [eT1]
            have ek : sk (tb tx.2.2 (I p0 1).toInt) (Iz114 p0 2).toInt = sk (tb tx.2.2 (I p0 1).toInt) (sr (tb tx.2.2 (I p0 1).toInt) (sk (tb tx.2.2 (I p0 1).toInt) (I12 p0 2).toInt)) := by rw [f3]; exact sk_idem (by rw [← f2]; exact (oI_4_2 (Iv_at hIz110 hLp0 hKp0)).1) bn.2
            rw [show (47 : Int32).toInt = 47 from by decide +kernel] at fz120
            have W23 : z23.toInt = nwd (tb tx.2.2 (I p0 1).toInt) (I p0 2).toInt := rr_w hw12 e3 hq3 (by omega)
            have l1 : (Iz19 p0 2).toInt + z23.toInt ≤ (Iz19 p0 1).toInt := by rw [e1, e2]; have q : sr (tb tx.2.2 (I p0 1).toInt) (sk (tb tx.2.2 (I p0 1).toInt) (I12 p0 2).toInt) ≤ (I p0 1).toInt := rn_len2 (by decide) (by rw [← e3]; omega); rw [e3]; omega
            have R110 : rowI (rD (tb tx.2.2 (I p0 1).toInt) z23.toInt (I p0 2).toInt) (Jz110 (wo Q p1)) v12_3.toInt z23.toInt := jz110 (rD (tb tx.2.2 (I p0 1).toInt) z23.toInt (I p0 2).toInt) l1 (by rw [frc19 p1 (ne_k hKp1 hKp0 (by decide)), hm12.1, hm12.2]; exact ⟨by omega, by omega, by omega⟩) (fun x a b => by rw [e1]; exact rD_at a b (by omega) (e2.trans (congrArg _ hw12.1))) (hw12.2.2.2 _ (fun _ => W23))
            refine lv_if_ne (tgt := 140) hx hb dX4_readRows_123 (by decide) (fun c123 => ?_) (fun c123 => ?_)
            · have t123 := tq_ne (k := z120.toInt) (q := (0)) c123 rfl (by decide +kernel)
              have hg : (tb tx.2.2 (I p0 1).toInt) (sk (tb tx.2.2 (I p0 1).toInt) (sr (tb tx.2.2 (I p0 1).toInt) (sk (tb tx.2.2 (I p0 1).toInt) (I12 p0 2).toInt))) = 47 := Classical.byContradiction (fun q => t123 (fz120.2 (by rw [eT, ek]; exact q)).1)
              have e4 : (Iz120 p0 2).toInt = sk (tb tx.2.2 (I p0 1).toInt) (sr (tb tx.2.2 (I p0 1).toInt) (sk (tb tx.2.2 (I p0 1).toInt) (I12 p0 2).toInt)) + 1 := (fz120.1 (by rw [eT, ek]; exact hg)).2.1.trans (by rw [eT, ek])
              obtain ⟨z140, ez140⟩ : ∃ y : Int32, y = v12_3 + 1 := ⟨_, rfl⟩
              refine lv_iinc (v := z140) (lv' := [(3, .int z140), (2, .int z23), (0, .ref p0), (1, .ref p1), (4, .int z23)]) hx hb dX4_readRows_140 hl (k := 3) rfl (by rw [ez140]; rfl) (by decide) rfl (fun ls hl => ?_)
              have bz140 := tq_add (k := v12_3.toInt) (q := 1) ez140 rfl (by decide +kernel) (by omega) (by omega)
              refine lv_goto (tgt := 12) hx hb dX4_readRows_143 (by decide) ?_
              exact ih12 _ (by omega) z23 z140 Iz120 Jz110 _ _ _ rfl ⟨by omega, by omega⟩ ⟨by omega, by omega⟩ hIz120 fr_Iz120 dj_Jz110 (by rw [frc120 p1 (ne_k hKp1 hKp0 (by decide)), frc114 p1 (ne_k hKp1 hKp0 (by decide)), frc110 p1 (ne_k hKp1 hKp0 (by decide)), frc19 p1 (ne_k hKp1 hKp0 (by decide))]; exact hm12) (rr_go hw12 W23 R110 ⟨by omega, by omega⟩ hg e4 (by omega)) ⟨hq.1.trans (by rw [prw_go (w := v12_2.toInt) ⟨by omega, by omega⟩ (by rw [← e3]; omega) (fun _ => by rw [← e3]; omega) (fun h => by rw [← e3]; exact hq3 h) hg, ← e3, ← bz140, e4]), (fz120.1 (by rw [eT, ek]; exact hg)).2.2.1.trans eT1, (fz120.1 (by rw [eT, ek]; exact hg)).2.2.2.trans eT5⟩ hP hS (lv_sub hl [2, 3, 1, 0] rfl)
            · have t123 := tq_eq (k := z120.toInt) (q := (0)) c123 rfl (by decide +kernel)
              have hg : ¬ (tb tx.2.2 (I p0 1).toInt) (sk (tb tx.2.2 (I p0 1).toInt) (sr (tb tx.2.2 (I p0 1).toInt) (sk (tb tx.2.2 (I p0 1).toInt) (I12 p0 2).toInt))) = 47 := fun q => by have := (fz120.1 (by rw [eT, ek]; exact q)).1; omega
              refine lv_aload_n hx hb dX4_readRows_126 rfl (lv_at hl 2 rfl) ?_
              refine lv_iload_n hx hb dX4_readRows_127 rfl (lv_at hl 0 rfl) ?_
              refine p_put hx hb hts inX3 tyX3 tyX3_ok nmX3 hown hK hP hD hS hLp1 hKp1 rfl rfl 0 (by decide) (hts _ pq118) rfl (by decide +kernel) (Nat.le_of_ble_eq_true rfl) (oS_3_0 cs _ _ _ _) dX4_readRows_128 (fun H locs hP hS => ?_)
              obtain ⟨Iz128, hP, hIz128, qIz128⟩ : ∃ Iz128, va_P (dC, dI) vwCl (Wd cs L K Iz128 Jz110 Q) H ∧ Iv L K x0 m0 tx tm Iz128 ∧ Iz128 = va_up Iz120 p1 (upd (Iz120 p1) 0 z23) := ⟨_, hP, Iv_put hIz120 hKp1 (oP_3_0 (Iv_at hIz120 hLp1 hKp1) ⟨by omega, by omega⟩) (by decide) (by decide), rfl⟩
              have fr_Iz128 : ∀ b, ¬ (b = p0 ∨ b = p1) → Iz128 b = I b := fun b q => (congrFun qIz128 b).trans ((va_up_ne _ _ (fun z => q (by omega))).trans (fr_Iz120 b q))
              refine lv_aload_n hx hb dX4_readRows_131 rfl (lv_at hl 2 rfl) ?_
              refine lv_iload_n hx hb dX4_readRows_132 rfl (lv_at hl 3 rfl) ?_
              refine lv_iconst (v := 1) hx hb dX4_readRows_133 (by decide +kernel) ?_
              refine lv_iadd hx hb dX4_readRows_134 ?_
              refine lv_topi (fun z134 ez134 => ?_)
              have bz134 := tq_add (k := v12_3.toInt) (q := (1)) ez134 rfl (by decide +kernel) (by omega) (by omega)
              refine p_put hx hb hts inX3 tyX3 tyX3_ok nmX3 hown hK hP hD hS hLp1 hKp1 rfl rfl 1 (by decide) (hts _ pq122) rfl (by decide +kernel) (Nat.le_of_ble_eq_true rfl) (oS_3_1 cs _ _ _ _) dX4_readRows_135 (fun H locs hP hS => ?_)
              obtain ⟨Iz135, hP, hIz135, qIz135⟩ : ∃ Iz135, va_P (dC, dI) vwCl (Wd cs L K Iz135 Jz110 Q) H ∧ Iv L K x0 m0 tx tm Iz135 ∧ Iz135 = va_up Iz128 p1 (upd (Iz128 p1) 1 z134) := ⟨_, hP, Iv_put hIz128 hKp1 (oP_3_1 (Iv_at hIz128 hLp1 hKp1) ⟨by omega, by omega⟩) (by decide) (by decide), rfl⟩
              have fr_Iz135 : ∀ b, ¬ (b = p0 ∨ b = p1) → Iz135 b = I b := fun b q => (congrFun qIz135 b).trans ((va_up_ne _ _ (fun z => q (by omega))).trans (fr_Iz128 b q))
              refine lv_iconst (v := 1) hx hb dX4_readRows_138 (by decide +kernel) ?_
              subst hR; subst hQz
              exact W.zret (v := 1) hx hb hr (by decide +kernel) (fun t ht hW => ⟨⟨1, 1, rfl, ⟨rfl, ⟨by decide +kernel, by decide +kernel⟩⟩, ⟨Iz135, Jz110, ⟨hIz135, fr_Iz135, (by rw [hq.1, prw_end (w := v12_2.toInt) ⟨by omega, by omega⟩ (by rw [← e3]; omega) (fun _ => by rw [← e3]; omega) (fun h => by rw [← e3]; exact hq3 h) hg]; exact rdP_yes (by decide +kernel) (rdA_S (show rdA I Iz120 p0 _ from ⟨(fz120.2 (by rw [eT, ek]; exact hg)).2.1.trans (by rw [eT, ek]), (fz120.2 (by rw [eT, ek]; exact hg)).2.2.1.trans eT1, (fz120.2 (by rw [eT, ek]; exact hg)).2.2.2.trans eT5⟩) (rd_fr (by rw [qIz135, va_up_ne _ _ (ne_k hKp0 hKp1 (by decide)), qIz128, va_up_ne _ _ (ne_k hKp0 hKp1 (by decide))])))), (fun _ => by have q := rr_end (y2 := z134.toInt) hw12 W23 R110 ⟨by omega, by omega⟩ hg (by omega); exact ⟨⟨by rw [qIz135, rz_fr _ _ _ _ (by decide), qIz128, rz_at]; exact W23, by rw [qIz135, rz_at]; exact q.1⟩, q.2⟩), dj_Jz110⟩, by rw [ht]; exact hP⟩⟩, hS.F ht⟩) hS.2.2 dX4_readRows_139
          refine lv_if_le (tgt := 103) hx hb dX4_readRows_84 (by decide) (fun c84 => ?_) (fun c84 => ?_)
          · have t84 := tq_le (k := v12_3.toInt) (q := (0)) c84 rfl (by decide +kernel)
            exact j103  _ _ _ (by omega) (fun _ => by omega) hP hS (lv_sub hl [0, 1, 2, 3, 4] rfl)
          · have t84 := tq_nle (k := v12_3.toInt) (q := (0)) c84 rfl (by decide +kernel)
            refine lv_iload hx hb dX4_readRows_87 (lv_at hl 4 rfl) ?_
            refine lv_iload_n hx hb dX4_readRows_89 rfl (lv_at hl 2 rfl) ?_
            refine lv_icmp_eq (tgt := 103) hx hb dX4_readRows_90 (by decide) (fun c90 => ?_) (fun c90 => ?_)
            · have t90 := tq_eq (k := z23.toInt) (q := v12_2.toInt) c90 rfl rfl
              exact j103  _ _ _ (by omega) (fun _ => by omega) hP hS (lv_sub hl [0, 1, 2, 3, 4] rfl)
            · have t90 := tq_ne (k := z23.toInt) (q := v12_2.toInt) c90 rfl rfl
              refine lv_aload_n hx hb dX4_readRows_93 rfl (lv_at hl 0 rfl) ?_
              refine lv_aload_n hx hb dX4_readRows_94 rfl (lv_at hl 0 rfl) ?_
              refine p_get hx hb hts inX4 hown hK hP hLp0 hKp0 rfl rfl 2 (by decide) (hts _ pq249) rfl dX4_readRows_95 ?_
              refine lv_topi (fun z95 ez95 => ?_)
              have cgz95 := congrArg Int32.toInt ez95
              have bz95 := oI_4_2 (Iv_at hIz19 hLp0 hKp0)
              rw [← ez95] at bz95
              refine lv_iconst (v := 4) hx hb dX4_readRows_98 (by decide +kernel) ?_
              refine sw_ir (Z := (fun u => (fun I1 J1 => Iv L K x0 m0 tx tm I1 ∧ (∀ b, ¬ (b = p0) → I1 b = Iz19 b) ∧ rdF Iz19 I1 p0 (8 * z95.toInt + (4 : Int32).toInt) ∧ J1 = J12))) (va_runV (As := [.int z95, .int 4]) (rest := []) ⟨hx, hb, hml, hown, hts⟩ (s_X4_failAt l dC dI cs L K G Q hQ x0 m0 tx tm H.size Iz19 J12 hIz19 p0 hLp0 hKp0 z95 ⟨by omega, by omega⟩ 4 ⟨by decide +kernel, by decide +kernel⟩) (cwV 2 hts (gV pq478 pq479 pq480 pq78 pq481) rfl rfl rfl (by decide +kernel) ⟨(by rw [hR]; exact (Nat.le_of_ble_eq_true rfl)), (by rw [hR]; exact (Nat.le_of_ble_eq_true rfl))⟩) (sP_V hP hD hK hN hLp0 hKp0 rfl rfl) rfl rfl hl.1 rfl (lv_room (Nat.le_of_ble_eq_true rfl)) dX4_readRows_99 ⟨(by rw [hR]; exact (Nat.le_of_ble_eq_true rfl)), (by rw [hR]; exact (Nat.le_of_ble_eq_true rfl))⟩) hS hAL hA (fun z99 Iz99 Jz99 H locs hz99 hIz99 hP hS => ?_)
              obtain ⟨hIz99, frc99, fz99, djc99⟩ := hIz99
              obtain rfl : J12 = Jz99 := djc99.symm
              have fr_Iz99 : ∀ b, ¬ (b = p0 ∨ b = p1) → Iz99 b = I b := fun b q => (frc99 b (fun z => q (by omega))).trans (fr_Iz19 b q)
              have cst99_4 : (4 : Int32).toInt = 4 := by decide +kernel
              have bz99 := hz99
              subst hR; subst hQz
              exact W.zret (v := z99) hx hb hr (nar01 (by omega) (by omega)) (fun t ht hW => ⟨⟨z99, z99, rfl, ⟨rfl, ⟨by omega, by omega⟩⟩, ⟨Iz99, J12, ⟨hIz99, fr_Iz99, (by rw [hq.1, prw_4b ⟨by omega, by omega⟩ (by rw [← e3]; omega) (by rw [← e3]; omega)]; exact rdP_bad (by omega) (by omega) (rdA_F (show rdA I Iz19 p0 (sk (tb tx.2.2 (I p0 1).toInt) (I12 p0 2).toInt) from ⟨e2, e1, fz19.2.2.trans hq.2.2⟩) (by have q := fz99; rw [cst99_4, show z95.toInt = sk (tb tx.2.2 (I p0 1).toInt) (I12 p0 2).toInt from cgz95.trans e2] at q; exact q))), (fun h => absurd (by omega) h), dj_J12⟩, by rw [ht]; exact hP⟩⟩, hS.F ht⟩) hS.2.2 dX4_readRows_102
        refine lv_if_ne (tgt := 83) hx hb dX4_readRows_60 (by decide) (fun c60 => ?_) (fun c60 => ?_)
        · have t60 := tq_ne (k := v12_3.toInt) (q := (0)) c60 rfl (by decide +kernel)
          exact j83  _ _ _ (by omega) hP hS (lv_sub hl [1, 2, 3, 4, 0] rfl)
        · have t60 := tq_eq (k := v12_3.toInt) (q := (0)) c60 rfl (by decide +kernel)
          refine lv_iload hx hb dX4_readRows_63 (lv_at hl 0 rfl) ?_
          refine lv_bipush (v := 100) hx hb dX4_readRows_65 (by decide +kernel) ?_
          refine lv_icmp_le (tgt := 83) hx hb dX4_readRows_67 (by decide) (fun c67 => ?_) (fun c67 => ?_)
          · have t67 := tq_le (k := z23.toInt) (q := (100)) c67 rfl (by decide +kernel)
            exact j83  _ _ _ (by omega) hP hS (lv_sub hl [1, 2, 3, 4, 0] rfl)
          · have t67 := tq_nle (k := z23.toInt) (q := (100)) c67 rfl (by decide +kernel)
            refine lv_aload_n hx hb dX4_readRows_70 rfl (lv_at hl 1 rfl) ?_
            refine lv_aload_n hx hb dX4_readRows_71 rfl (lv_at hl 1 rfl) ?_
            refine p_get hx hb hts inX4 hown hK hP hLp0 hKp0 rfl rfl 2 (by decide) (hts _ pq249) rfl dX4_readRows_72 ?_
            refine lv_topi (fun z72 ez72 => ?_)
            have cgz72 := congrArg Int32.toInt ez72
            have bz72 := oI_4_2 (Iv_at hIz19 hLp0 hKp0)
            rw [← ez72] at bz72
            refine lv_bipush (v := 100) hx hb dX4_readRows_75 (by decide +kernel) ?_
            refine lv_iadd hx hb dX4_readRows_77 ?_
            refine lv_topi (fun z77 ez77 => ?_)
            have bz77 := tq_add (k := z72.toInt) (q := (100)) ez77 rfl (by decide +kernel) (by omega) (by omega)
            refine lv_iconst (v := 4) hx hb dX4_readRows_78 (by decide +kernel) ?_
            refine sw_ir (Z := (fun u => (fun I1 J1 => Iv L K x0 m0 tx tm I1 ∧ (∀ b, ¬ (b = p0) → I1 b = Iz19 b) ∧ rdF Iz19 I1 p0 (8 * z77.toInt + (4 : Int32).toInt) ∧ J1 = J12))) (va_runV (As := [.int z77, .int 4]) (rest := []) ⟨hx, hb, hml, hown, hts⟩ (s_X4_failAt l dC dI cs L K G Q hQ x0 m0 tx tm H.size Iz19 J12 hIz19 p0 hLp0 hKp0 z77 ⟨by omega, by omega⟩ 4 ⟨by decide +kernel, by decide +kernel⟩) (cwV 2 hts (gV pq478 pq479 pq480 pq78 pq481) rfl rfl rfl (by decide +kernel) ⟨(by rw [hR]; exact (Nat.le_of_ble_eq_true rfl)), (by rw [hR]; exact (Nat.le_of_ble_eq_true rfl))⟩) (sP_V hP hD hK hN hLp0 hKp0 rfl rfl) rfl rfl hl.1 rfl (lv_room (Nat.le_of_ble_eq_true rfl)) dX4_readRows_79 ⟨(by rw [hR]; exact (Nat.le_of_ble_eq_true rfl)), (by rw [hR]; exact (Nat.le_of_ble_eq_true rfl))⟩) hS hAL hA (fun z79 Iz79 Jz79 H locs hz79 hIz79 hP hS => ?_)
            obtain ⟨hIz79, frc79, fz79, djc79⟩ := hIz79
            obtain rfl : J12 = Jz79 := djc79.symm
            have fr_Iz79 : ∀ b, ¬ (b = p0 ∨ b = p1) → Iz79 b = I b := fun b q => (frc79 b (fun z => q (by omega))).trans (fr_Iz19 b q)
            have cst79_4 : (4 : Int32).toInt = 4 := by decide +kernel
            have bz79 := hz79
            subst hR; subst hQz
            exact W.zret (v := z79) hx hb hr (nar01 (by omega) (by omega)) (fun t ht hW => ⟨⟨z79, z79, rfl, ⟨rfl, ⟨by omega, by omega⟩⟩, ⟨Iz79, J12, ⟨hIz79, fr_Iz79, (by rw [hq.1, prw_4a (by omega) (by rw [← e3]; omega) (by rw [← e3]; omega)]; exact rdP_bad (by omega) (by omega) (rdA_F (show rdA I Iz19 p0 (sk (tb tx.2.2 (I p0 1).toInt) (I12 p0 2).toInt) from ⟨e2, e1, fz19.2.2.trans hq.2.2⟩) (by have q := fz79; rw [cst79_4, show z77.toInt = sk (tb tx.2.2 (I p0 1).toInt) (I12 p0 2).toInt + 100 from by rw [bz77, cgz72, e2]] at q; exact q))), (fun h => absurd (by omega) h), dj_J12⟩, by rw [ht]; exact hP⟩⟩, hS.F ht⟩) hS.2.2 dX4_readRows_82
      · have t46 := tq_eq (k := v12_3.toInt) (q := (40)) c46 rfl (by decide +kernel)
        refine lv_aload_n hx hb dX4_readRows_49 rfl (lv_at hl 1 rfl) ?_
        refine lv_aload_n hx hb dX4_readRows_50 rfl (lv_at hl 1 rfl) ?_
        refine p_get hx hb hts inX4 hown hK hP hLp0 hKp0 rfl rfl 2 (by decide) (hts _ pq249) rfl dX4_readRows_51 ?_
        refine lv_topi (fun z51 ez51 => ?_)
        have cgz51 := congrArg Int32.toInt ez51
        have bz51 := oI_4_2 (Iv_at hIz19 hLp0 hKp0)
        rw [← ez51] at bz51
        refine lv_iconst (v := 3) hx hb dX4_readRows_54 (by decide +kernel) ?_
        refine sw_ir (Z := (fun u => (fun I1 J1 => Iv L K x0 m0 tx tm I1 ∧ (∀ b, ¬ (b = p0) → I1 b = Iz19 b) ∧ rdF Iz19 I1 p0 (8 * z51.toInt + (3 : Int32).toInt) ∧ J1 = J12))) (va_runV (As := [.int z51, .int 3]) (rest := []) ⟨hx, hb, hml, hown, hts⟩ (s_X4_failAt l dC dI cs L K G Q hQ x0 m0 tx tm H.size Iz19 J12 hIz19 p0 hLp0 hKp0 z51 ⟨by omega, by omega⟩ 3 ⟨by decide +kernel, by decide +kernel⟩) (cwV 2 hts (gV pq478 pq479 pq480 pq78 pq481) rfl rfl rfl (by decide +kernel) ⟨(by rw [hR]; exact (Nat.le_of_ble_eq_true rfl)), (by rw [hR]; exact (Nat.le_of_ble_eq_true rfl))⟩) (sP_V hP hD hK hN hLp0 hKp0 rfl rfl) rfl rfl hl.1 rfl (lv_room (Nat.le_of_ble_eq_true rfl)) dX4_readRows_55 ⟨(by rw [hR]; exact (Nat.le_of_ble_eq_true rfl)), (by rw [hR]; exact (Nat.le_of_ble_eq_true rfl))⟩) hS hAL hA (fun z55 Iz55 Jz55 H locs hz55 hIz55 hP hS => ?_)
        obtain ⟨hIz55, frc55, fz55, djc55⟩ := hIz55
        obtain rfl : J12 = Jz55 := djc55.symm
        have fr_Iz55 : ∀ b, ¬ (b = p0 ∨ b = p1) → Iz55 b = I b := fun b q => (frc55 b (fun z => q (by omega))).trans (fr_Iz19 b q)
        have cst55_3 : (3 : Int32).toInt = 3 := by decide +kernel
        have bz55 := hz55
        subst hR; subst hQz
        exact W.zret (v := z55) hx hb hr (nar01 (by omega) (by omega)) (fun t ht hW => ⟨⟨z55, z55, rfl, ⟨rfl, ⟨by omega, by omega⟩⟩, ⟨Iz55, J12, ⟨hIz55, fr_Iz55, (by rw [hq.1, prw_3 (by omega) (by rw [← e3]; omega)]; exact rdP_bad (by omega) (by omega) (rdA_F (show rdA I Iz19 p0 (sk (tb tx.2.2 (I p0 1).toInt) (I12 p0 2).toInt) from ⟨e2, e1, fz19.2.2.trans hq.2.2⟩) (by have q := fz55; rw [cst55_3, show z51.toInt = sk (tb tx.2.2 (I p0 1).toInt) (I12 p0 2).toInt from cgz51.trans e2] at q; exact q))), (fun h => absurd (by omega) h), dj_J12⟩, by rw [ht]; exact hP⟩⟩, hS.F ht⟩) hS.2.2 dX4_readRows_58
    · have t30 := tq_eq (k := z23.toInt) (q := (0)) c30 rfl (by decide +kernel)
      refine lv_aload_n hx hb dX4_readRows_33 rfl (lv_at hl 1 rfl) ?_
      refine lv_aload_n hx hb dX4_readRows_34 rfl (lv_at hl 1 rfl) ?_
      refine p_get hx hb hts inX4 hown hK hP hLp0 hKp0 rfl rfl 2 (by decide) (hts _ pq249) rfl dX4_readRows_35 ?_
      refine lv_topi (fun z35 ez35 => ?_)
      have cgz35 := congrArg Int32.toInt ez35
      have bz35 := oI_4_2 (Iv_at hIz19 hLp0 hKp0)
      rw [← ez35] at bz35
      refine lv_iconst (v := 1) hx hb dX4_readRows_38 (by decide +kernel) ?_
      refine sw_ir (Z := (fun u => (fun I1 J1 => Iv L K x0 m0 tx tm I1 ∧ (∀ b, ¬ (b = p0) → I1 b = Iz19 b) ∧ rdF Iz19 I1 p0 (8 * z35.toInt + (1 : Int32).toInt) ∧ J1 = J12))) (va_runV (As := [.int z35, .int 1]) (rest := []) ⟨hx, hb, hml, hown, hts⟩ (s_X4_failAt l dC dI cs L K G Q hQ x0 m0 tx tm H.size Iz19 J12 hIz19 p0 hLp0 hKp0 z35 ⟨by omega, by omega⟩ 1 ⟨by decide +kernel, by decide +kernel⟩) (cwV 2 hts (gV pq478 pq479 pq480 pq78 pq481) rfl rfl rfl (by decide +kernel) ⟨(by rw [hR]; exact (Nat.le_of_ble_eq_true rfl)), (by rw [hR]; exact (Nat.le_of_ble_eq_true rfl))⟩) (sP_V hP hD hK hN hLp0 hKp0 rfl rfl) rfl rfl hl.1 rfl (lv_room (Nat.le_of_ble_eq_true rfl)) dX4_readRows_39 ⟨(by rw [hR]; exact (Nat.le_of_ble_eq_true rfl)), (by rw [hR]; exact (Nat.le_of_ble_eq_true rfl))⟩) hS hAL hA (fun z39 Iz39 Jz39 H locs hz39 hIz39 hP hS => ?_)
      obtain ⟨hIz39, frc39, fz39, djc39⟩ := hIz39
      obtain rfl : J12 = Jz39 := djc39.symm
      have fr_Iz39 : ∀ b, ¬ (b = p0 ∨ b = p1) → Iz39 b = I b := fun b q => (frc39 b (fun z => q (by omega))).trans (fr_Iz19 b q)
      have cst39_1 : (1 : Int32).toInt = 1 := by decide +kernel
      have bz39 := hz39
      subst hR; subst hQz
      exact W.zret (v := z39) hx hb hr (nar01 (by omega) (by omega)) (fun t ht hW => ⟨⟨z39, z39, rfl, ⟨rfl, ⟨by omega, by omega⟩⟩, ⟨Iz39, J12, ⟨hIz39, fr_Iz39, (by rw [hq.1, prw_1 ⟨by omega, by omega⟩ (by rw [← e3]; omega)]; exact rdP_bad (by omega) (by omega) (rdA_F (show rdA I Iz19 p0 (sk (tb tx.2.2 (I p0 1).toInt) (I12 p0 2).toInt) from ⟨e2, e1, fz19.2.2.trans hq.2.2⟩) (by have q := fz39; rw [cst39_1, show z35.toInt = sk (tb tx.2.2 (I p0 1).toInt) (I12 p0 2).toInt from cgz35.trans e2] at q; exact q))), (fun h => absurd (by omega) h), dj_J12⟩, by rw [ht]; exact hP⟩⟩, hS.F ht⟩) hS.2.2 dX4_readRows_42)
  exact key12 _ 0 0 Iz5 Jz5 _ _ _ rfl ⟨by decide +kernel, by decide +kernel⟩ ⟨by decide +kernel, by decide +kernel⟩ hIz5 fr_Iz5 dj_Jz5 ⟨by rw [zp5.2.1]; decide +kernel, by rw [zp5.1]; decide +kernel⟩ (rr_0 jz5 (by decide +kernel) (by rw [frc5 p0 (ne_k hKp0 hKp1 (by decide))])) ⟨by rw [frc5 p0 (ne_k hKp0 hKp1 (by decide))]; rfl, by rw [frc5 p0 (ne_k hKp0 hKp1 (by decide))], by rw [frc5 p0 (ne_k hKp0 hKp1 (by decide))]⟩ hP hS (lv_sub hl [2, 3, 1, 0] rfl)
