abbrev cX7_readsPart : ByteArray := prog_9_method_23_code
def yX7_readsPart : MethodName := ⟨RX7, "readsPart", "()V"⟩
theorem dX7_readsPart_0 : decode cX7_readsPart 0 = .ok (.aload_n 0, 1) := by decide +kernel
theorem dX7_readsPart_1 : decode cX7_readsPart 1 = .ok (.invokevirtual 89, 3) := by decide +kernel
theorem dX7_readsPart_4 : decode cX7_readsPart 4 = .ok (.pop, 1) := by decide +kernel
theorem dX7_readsPart_5 : decode cX7_readsPart 5 = .ok (.aload_n 0, 1) := by decide +kernel
theorem dX7_readsPart_6 : decode cX7_readsPart 6 = .ok (.getfield 75, 3) := by decide +kernel
theorem dX7_readsPart_9 : decode cX7_readsPart 9 = .ok (.istore_n 1, 1) := by decide +kernel
theorem dX7_readsPart_10 : decode cX7_readsPart 10 = .ok (.aload_n 0, 1) := by decide +kernel
theorem dX7_readsPart_11 : decode cX7_readsPart 11 = .ok (.ldc 171, 2) := by decide +kernel
theorem dX7_readsPart_13 : decode cX7_readsPart 13 = .ok (.invokevirtual 142, 3) := by decide +kernel
theorem dX7_readsPart_16 : decode cX7_readsPart 16 = .ok (.ifCond .eq 30, 3) := by decide +kernel
theorem dX7_readsPart_19 : decode cX7_readsPart 19 = .ok (.aload_n 0, 1) := by decide +kernel
theorem dX7_readsPart_20 : decode cX7_readsPart 20 = .ok (.getfield 13, 3) := by decide +kernel
theorem dX7_readsPart_23 : decode cX7_readsPart 23 = .ok (.iconst 0, 1) := by decide +kernel
theorem dX7_readsPart_24 : decode cX7_readsPart 24 = .ok (.iaload, 1) := by decide +kernel
theorem dX7_readsPart_25 : decode cX7_readsPart 25 = .ok (.bipush 8, 2) := by decide +kernel
theorem dX7_readsPart_27 : decode cX7_readsPart 27 = .ok (.if_icmp .ne 12, 3) := by decide +kernel
theorem dX7_readsPart_30 : decode cX7_readsPart 30 = .ok (.aload_n 0, 1) := by decide +kernel
theorem dX7_readsPart_31 : decode cX7_readsPart 31 = .ok (.iconst 3, 1) := by decide +kernel
theorem dX7_readsPart_32 : decode cX7_readsPart 32 = .ok (.iload_n 1, 1) := by decide +kernel
theorem dX7_readsPart_33 : decode cX7_readsPart 33 = .ok (.invokevirtual 113, 3) := by decide +kernel
theorem dX7_readsPart_36 : decode cX7_readsPart 36 = .ok (.goto 52, 3) := by decide +kernel
theorem dX7_readsPart_39 : decode cX7_readsPart 39 = .ok (.aload_n 0, 1) := by decide +kernel
theorem dX7_readsPart_40 : decode cX7_readsPart 40 = .ok (.invokevirtual 173, 3) := by decide +kernel
theorem dX7_readsPart_43 : decode cX7_readsPart 43 = .ok (.goto 45, 3) := by decide +kernel
theorem dX7_readsPart_46 : decode cX7_readsPart 46 = .ok (.aload_n 0, 1) := by decide +kernel
theorem dX7_readsPart_47 : decode cX7_readsPart 47 = .ok (.ldc 176, 2) := by decide +kernel
theorem dX7_readsPart_49 : decode cX7_readsPart 49 = .ok (.invokevirtual 142, 3) := by decide +kernel
theorem dX7_readsPart_52 : decode cX7_readsPart 52 = .ok (.ifCond .eq 30, 3) := by decide +kernel
theorem dX7_readsPart_55 : decode cX7_readsPart 55 = .ok (.aload_n 0, 1) := by decide +kernel
theorem dX7_readsPart_56 : decode cX7_readsPart 56 = .ok (.getfield 13, 3) := by decide +kernel
theorem dX7_readsPart_59 : decode cX7_readsPart 59 = .ok (.iconst 1, 1) := by decide +kernel
theorem dX7_readsPart_60 : decode cX7_readsPart 60 = .ok (.iaload, 1) := by decide +kernel
theorem dX7_readsPart_61 : decode cX7_readsPart 61 = .ok (.bipush 10, 2) := by decide +kernel
theorem dX7_readsPart_63 : decode cX7_readsPart 63 = .ok (.if_icmp .ne 12, 3) := by decide +kernel
theorem dX7_readsPart_66 : decode cX7_readsPart 66 = .ok (.aload_n 0, 1) := by decide +kernel
theorem dX7_readsPart_67 : decode cX7_readsPart 67 = .ok (.iconst 3, 1) := by decide +kernel
theorem dX7_readsPart_68 : decode cX7_readsPart 68 = .ok (.iload_n 1, 1) := by decide +kernel
theorem dX7_readsPart_69 : decode cX7_readsPart 69 = .ok (.invokevirtual 113, 3) := by decide +kernel
theorem dX7_readsPart_72 : decode cX7_readsPart 72 = .ok (.goto 16, 3) := by decide +kernel
theorem dX7_readsPart_75 : decode cX7_readsPart 75 = .ok (.aload_n 0, 1) := by decide +kernel
theorem dX7_readsPart_76 : decode cX7_readsPart 76 = .ok (.invokevirtual 178, 3) := by decide +kernel
theorem dX7_readsPart_79 : decode cX7_readsPart 79 = .ok (.goto 9, 3) := by decide +kernel
theorem dX7_readsPart_82 : decode cX7_readsPart 82 = .ok (.aload_n 0, 1) := by decide +kernel
theorem dX7_readsPart_83 : decode cX7_readsPart 83 = .ok (.iconst 1, 1) := by decide +kernel
theorem dX7_readsPart_84 : decode cX7_readsPart 84 = .ok (.iload_n 1, 1) := by decide +kernel
theorem dX7_readsPart_85 : decode cX7_readsPart 85 = .ok (.invokevirtual 113, 3) := by decide +kernel
theorem dX7_readsPart_88 : decode cX7_readsPart 88 = .ok (.return_, 1) := by decide +kernel
set_option maxRecDepth 100000 in
theorem pq16 : Cond.selects RX7 yX7_readsForm yX7_readsForm ∈ pw := pw_mem (i := 16) (by decide +kernel) rfl
set_option maxRecDepth 100000 in
theorem pq21 : Cond.selects RX7 yX7_readsBody yX7_readsBody ∈ pw := pw_mem (i := 21) (by decide +kernel) rfl
set_option maxRecDepth 100000 in
theorem pq1243 : Cond.methodLink RX7 173 yX7_readsForm ∈ pw := pw_mem (i := 1243) (by decide +kernel) rfl
set_option maxRecDepth 100000 in
theorem pq1245 : Cond.instanceMethod yX7_readsForm ∈ pw := pw_mem (i := 1245) (by decide +kernel) rfl
set_option maxRecDepth 100000 in
theorem pq1246 : Cond.code yX7_readsForm cX7_readsForm 5 none ∈ pw := pw_mem (i := 1246) (by rfl) rfl
set_option maxRecDepth 100000 in
theorem pq1280 : Cond.methodLink RX7 178 yX7_readsBody ∈ pw := pw_mem (i := 1280) (by decide +kernel) rfl
set_option maxRecDepth 100000 in
theorem pq1282 : Cond.instanceMethod yX7_readsBody ∈ pw := pw_mem (i := 1282) (by decide +kernel) rfl
set_option maxRecDepth 100000 in
theorem pq1283 : Cond.code yX7_readsBody cX7_readsBody 3 none ∈ pw := pw_mem (i := 1283) (by rfl) rfl
set_option maxHeartbeats 4000000 in
set_option maxRecDepth 100000 in
theorem s_X7_readsPart (l : Launch) (dC : Nat → ClassId) (dI : Nat → Nat → Nat) (cs : Nat → ClassId) (L : List Nat) (K G : Nat → Nat) (Q : Nat → Nat → Option Nat) (hQ : Sv L K G Q) (x0 m0 : Nat) (tx : Int32) (tm : Int32 × Int) (sz : Nat) (I : Nat → Nat → Int32) (J : Nat → Nat → Int64) (hI : Iv L K x0 m0 tx tm I) (p0 : Nat) (hLp0 : p0 ∈ L) (hKp0 : K p0 = 7) (ho : hOK Q I p0) (hf : (I p0 15).toInt = -1) : Met l yX7_readsPart (.code yX7_readsPart cX7_readsPart 2 none :: pw) ({ frames := 6, cells := 0, slots := 0, locals := 133 }) (sPX (dC, dI) cs [.ref p0] sz L K I J Q (fun q => q ∈ L ∨ sz ≤ q) (fun A U H => xS A U H)) (va_Qv (fun (_ : Unit) => True) (fun _ t => sB (dC, dI) cs L K Q (fun I1 => Iv L K x0 m0 tx tm I1 ∧ (∀ b, ¬ (K b = 7 ∨ K b = 28) → I1 b = I b) ∧ hJ Q I I1 p0) t) (fun q => q ∈ L ∨ sz ≤ q)) 0 0 (fun q => q ∈ L ∨ sz ≤ q) := by
  refine Met.ofW (cc := cX7_readsPart) (maxL := 2) (ret := none) (by decide +kernel) rfl ?_
  intro p e s m args below meth c s₁ B hml hv
  obtain ⟨rfl, ⟨hsz, hP, hK, hD0, hN⟩, hXs⟩ := hv
  have hx := B.exec
  have hb := B.bytes
  have hr := B.returns
  have hts := fun w (h : w ∈ pw) => atoms_spec (ws := Cond.code yX7_readsPart cX7_readsPart 2 none :: pw) B.pre w (List.mem_cons_of_mem _ h)
  have hown : s.vm.findClass RX7 = some m.cls := findClass_of_methodNamed B.named
  have hlocks := B.notSynchronized
  subst hsz
  have hBB : 999 ≤ tm.2 ∧ tm.2 ≤ 6000000 := hI.2.2.2.2
  have hk_I : hHK Q I I p0 := hK_refl ho
  have fr_I : ∀ b, ¬ (K b = 7 ∨ K b = 28) → I b = I b := fun _ _ => rfl
  obtain ⟨A, hAe⟩ : ∃ A : Nat → Prop, A = (fun q => q ∈ L ∨ s.heap.size ≤ q) := ⟨_, rfl⟩
  rw [← hAe]
  have hAL : ∀ q, q ∈ L → A q := fun q h => by rw [hAe]; exact Or.inl h
  have hA : ∀ q, s.heap.size ≤ q → A q := fun q h => by rw [hAe]; exact Or.inr h
  have hD : ∀ F, va_D A (va_pl L F) := fun F => (hD0 F).weaken (fun k q hk _ => hAL _ (pl_mem hk))
  rw [← hAe] at hXs
  have hxx := hXs
  have hxt := hxx.1
  obtain ⟨H, hHe⟩ : ∃ H : Heap, H = s.heap := ⟨_, rfl⟩
  have hS : va_S A s.heap H [] := by rw [hHe]; exact va_S.rf
  rw [← hHe] at hP
  have hl := lv_entry ([.ref p0]) (n := 2) (Nat.le_of_ble_eq_true rfl)
  rw [lg_entry_eq]
  generalize (lg_sl ([.ref p0]) ++ List.replicate (2 - (lg_sl ([.ref p0])).length) Slot.unset).toArray = ls at hl ⊢
  have hl : lv_has ls 2 [(0, .ref p0)] := hl
  rw [← hHe]
  refine namedW (fun R Qz hR hQz => ?_)
  refine lv_aload_n hx hb dX7_readsPart_0 rfl (lv_at hl 0 rfl) ?_
  refine sw_ir (Z := (fun u => (fun I1 => Iv L K x0 m0 tx tm I1 ∧ (∀ b, ¬ (b = p0) → I1 b = I b) ∧ ((I p0 14).toInt ≤ (I1 p0 14).toInt ∧ ((I1 p0 15).toInt = -1 → (I p0 15).toInt = -1) ∧ (∀ k, ¬ k = 14 → I1 p0 k = I p0 k) ∧ (¬ u.toInt = -1 → (I1 p0 14).toInt < (I1 p0 13).toInt))))) (va_runV (As := []) (rest := []) ⟨hx, hb, hml, hown, hts⟩ (s_X7_next l dC dI cs L K G Q hQ x0 m0 tx tm H.size I J hI p0 hLp0 hKp0) (cwV 0 hts (gV pq1211 pq1213 pq10 pq81 pq1214) rfl rfl rfl (by decide +kernel) ⟨(by rw [hR]; exact (Nat.le_of_ble_eq_true rfl)), (by rw [hR]; exact (Nat.le_of_ble_eq_true rfl))⟩) (sP_V hP hD hK hN hLp0 hKp0 rfl rfl) rfl rfl hl.1 rfl (lv_room (Nat.le_of_ble_eq_true rfl)) dX7_readsPart_1 ⟨(by rw [hR]; exact (Nat.le_of_ble_eq_true rfl)), (by rw [hR]; exact (Nat.le_of_ble_eq_true rfl))⟩) hS hAL hA (fun z1 Iz1 Jz1 H locs hz1 hIz1 hP hS => ?_)
  obtain ⟨hIz1, frc1, zr1⟩ := hIz1
  replace zr1 : Hid _ := zr1
  have hk_Iz1 := hK_call hQ hLp0 hKp0 frc1 zr1.1 zr1.2.1 hk_I
  have fr_Iz1 : ∀ b, ¬ (K b = 7 ∨ K b = 28) → Iz1 b = I b := fun b q => (frc1 b (fun z => q (by rw [z]; have := hKp0; omega))).trans (fr_I b q)
  have bz1 := hz1
  refine lv_pop hx hb dX7_readsPart_4 rfl ?_
  refine lv_aload_n hx hb dX7_readsPart_5 rfl (lv_at hl 0 rfl) ?_
  refine p_get hx hb hts inX7 hown hK hP hLp0 hKp0 rfl rfl 14 (by decide) (hts _ pq1129) rfl dX7_readsPart_6 ?_
  refine lv_topi (fun z6 ez6 => ?_)
  have cgz6 := congrArg Int32.toInt ez6
  have bz6 := oI_7_14 (Iv_at hIz1 hLp0 hKp0)
  rw [← ez6] at bz6
  refine lv_istore_n (lv' := [(1, .int z6), (0, .ref p0)]) hx hb dX7_readsPart_9 rfl hl (by decide) rfl (fun ls hl => ?_)
  refine lv_aload_n hx hb dX7_readsPart_10 rfl (lv_at hl 1 rfl) ?_
  obtain ⟨y11, hv11, hx_y11⟩ := hxx.2 (RX7, 171, "mask", 4) (by simp [lits])
  dsimp only at hv11 hx_y11
  refine va_ldcS hx hb hown hv11 dX7_readsPart_11 ?_
  refine sw_ir (Z := (fun u => (fun I1 => Iv L K x0 m0 tx tm I1 ∧ (∀ b, ¬ (b = p0) → I1 b = Iz1 b) ∧ ((Iz1 p0 14).toInt ≤ (I1 p0 14).toInt ∧ ((I1 p0 15).toInt = -1 → (Iz1 p0 15).toInt = -1) ∧ (∀ k, ¬ k = 14 → I1 p0 k = Iz1 p0 k) ∧ (¬ u.toInt = 0 → ((4 : Nat) : Int) ≤ (I1 p0 14).toInt))))) (va_runV (As := [.ref y11]) (rest := []) ⟨hx, hb, hml, hown, hts⟩ (s_X7_takes l dC dI cs L K G Q hQ x0 m0 tx tm H.size Iz1 Jz1 hIz1 p0 hLp0 hKp0 y11 4) (cwV 1 hts (gV pq1228 pq1230 pq14 pq81 pq1231) rfl rfl rfl (by decide +kernel) ⟨(by rw [hR]; exact (Nat.le_of_ble_eq_true rfl)), (by rw [hR]; exact (Nat.le_of_ble_eq_true rfl))⟩) (sPX_V hP hD hK hN hLp0 hKp0 rfl rfl (gX_and (gX_s _ _) gX_t) hS ⟨hx_y11, hxt⟩ (fun q h => h.elim (hAL q) (fun h => hA q (Nat.le_trans hS.1 h)))) rfl rfl hl.1 rfl (lv_room (Nat.le_of_ble_eq_true rfl)) dX7_readsPart_13 ⟨(by rw [hR]; exact (Nat.le_of_ble_eq_true rfl)), (by rw [hR]; exact (Nat.le_of_ble_eq_true rfl))⟩) hS hAL hA (fun z13 Iz13 Jz13 H locs hz13 hIz13 hP hS => ?_)
  obtain ⟨hIz13, frc13, zr13⟩ := hIz13
  replace zr13 : Hid _ := zr13
  have hk_Iz13 := hK_call hQ hLp0 hKp0 frc13 zr13.1 zr13.2.1 hk_Iz1
  have fr_Iz13 : ∀ b, ¬ (K b = 7 ∨ K b = 28) → Iz13 b = I b := fun b q => (frc13 b (fun z => q (by rw [z]; have := hKp0; omega))).trans (fr_Iz1 b q)
  have bz13 := hz13
  have f13 : (Iz13 p0 15).toInt = -1 := by rw [zr13.2.2.1 15 (by decide), zr1.2.2.1 15 (by decide)]; exact hf
  refine lv_if_eq (tgt := 46) hx hb dX7_readsPart_16 (by decide) (fun c16 => ?_) (fun c16 => ?_)
  · have t16 := tq_eq (k := z13.toInt) (q := (0)) c16 rfl (by decide +kernel)
    refine lv_aload_n hx hb dX7_readsPart_46 rfl (lv_at hl 1 rfl) ?_
    obtain ⟨y47, hv47, hx_y47⟩ := hxx.2 (RX7, 176, "body", 4) (by simp [lits])
    dsimp only at hv47 hx_y47
    refine va_ldcS hx hb hown hv47 dX7_readsPart_47 ?_
    refine sw_ir (Z := (fun u => (fun I1 => Iv L K x0 m0 tx tm I1 ∧ (∀ b, ¬ (b = p0) → I1 b = Iz13 b) ∧ ((Iz13 p0 14).toInt ≤ (I1 p0 14).toInt ∧ ((I1 p0 15).toInt = -1 → (Iz13 p0 15).toInt = -1) ∧ (∀ k, ¬ k = 14 → I1 p0 k = Iz13 p0 k) ∧ (¬ u.toInt = 0 → ((4 : Nat) : Int) ≤ (I1 p0 14).toInt))))) (va_runV (As := [.ref y47]) (rest := []) ⟨hx, hb, hml, hown, hts⟩ (s_X7_takes l dC dI cs L K G Q hQ x0 m0 tx tm H.size Iz13 Jz13 hIz13 p0 hLp0 hKp0 y47 4) (cwV 1 hts (gV pq1228 pq1230 pq14 pq81 pq1231) rfl rfl rfl (by decide +kernel) ⟨(by rw [hR]; exact (Nat.le_of_ble_eq_true rfl)), (by rw [hR]; exact (Nat.le_of_ble_eq_true rfl))⟩) (sPX_V hP hD hK hN hLp0 hKp0 rfl rfl (gX_and (gX_s _ _) gX_t) hS ⟨hx_y47, hxt⟩ (fun q h => h.elim (hAL q) (fun h => hA q (Nat.le_trans hS.1 h)))) rfl rfl hl.1 rfl (lv_room (Nat.le_of_ble_eq_true rfl)) dX7_readsPart_49 ⟨(by rw [hR]; exact (Nat.le_of_ble_eq_true rfl)), (by rw [hR]; exact (Nat.le_of_ble_eq_true rfl))⟩) hS hAL hA (fun z49 Iz49 Jz49 H locs hz49 hIz49 hP hS => ?_)
    obtain ⟨hIz49, frc49, zr49⟩ := hIz49
    replace zr49 : Hid _ := zr49
    have hk_Iz49 := hK_call hQ hLp0 hKp0 frc49 zr49.1 zr49.2.1 hk_Iz13
    have fr_Iz49 : ∀ b, ¬ (K b = 7 ∨ K b = 28) → Iz49 b = I b := fun b q => (frc49 b (fun z => q (by rw [z]; have := hKp0; omega))).trans (fr_Iz13 b q)
    have bz49 := hz49
    have f49 : (Iz49 p0 15).toInt = -1 := by rw [zr49.2.2.1 15 (by decide)]; exact f13
    refine lv_if_eq (tgt := 82) hx hb dX7_readsPart_52 (by decide) (fun c52 => ?_) (fun c52 => ?_)
    · have t52 := tq_eq (k := z49.toInt) (q := (0)) c52 rfl (by decide +kernel)
      refine lv_aload_n hx hb dX7_readsPart_82 rfl (lv_at hl 1 rfl) ?_
      refine lv_iconst (v := 1) hx hb dX7_readsPart_83 (by decide +kernel) ?_
      refine lv_iload_n hx hb dX7_readsPart_84 rfl (lv_at hl 0 rfl) ?_
      refine sw_v (Z := (fun I1 => Iv L K x0 m0 tx tm I1 ∧ (∀ b, ¬ (b = p0) → I1 b = Iz49 b) ∧ ((Iz49 p0 14).toInt ≤ (I1 p0 14).toInt ∧ ((I1 p0 15).toInt = -1 → (Iz49 p0 15).toInt = -1) ∧ (∀ k, ¬ k = 15 → I1 p0 k = Iz49 p0 k) ∧ ¬ (I1 p0 15).toInt = -1))) (va_runV (As := [.int 1, .int z6]) (rest := []) ⟨hx, hb, hml, hown, hts⟩ (s_X7_fails l dC dI cs L K G Q hQ x0 m0 tx tm H.size Iz49 Jz49 hIz49 p0 hLp0 hKp0 1 ⟨by decide +kernel, by decide +kernel⟩ z6 ⟨by omega, by omega⟩) (cwV 2 hts (gV pq1239 pq1241 pq15 pq81 pq1242) rfl rfl rfl (by decide +kernel) ⟨(by rw [hR]; exact (Nat.le_of_ble_eq_true rfl)), (by rw [hR]; exact (Nat.le_of_ble_eq_true rfl))⟩) (sP_V hP hD hK hN hLp0 hKp0 rfl rfl) rfl rfl hl.1 rfl (lv_room (Nat.le_of_ble_eq_true rfl)) dX7_readsPart_85 ⟨(by rw [hR]; exact (Nat.le_of_ble_eq_true rfl)), (by rw [hR]; exact (Nat.le_of_ble_eq_true rfl))⟩) hS hAL hA (fun Iz85 Jz85 H locs hz85 hIz85 hP hS => ?_)
      obtain ⟨hIz85, frc85, zp85⟩ := hIz85
      replace zp85 : Hid _ := zp85
      have hk_Iz85 := hK_call hQ hLp0 hKp0 frc85 zp85.1 zp85.2.1 hk_Iz49
      have fr_Iz85 : ∀ b, ¬ (K b = 7 ∨ K b = 28) → Iz85 b = I b := fun b q => (frc85 b (fun z => q (by rw [z]; have := hKp0; omega))).trans (fr_Iz49 b q)
      subst hR; subst hQz
      exact W.vret hx hb hr (fun t ht hW => ⟨⟨(), rfl, trivial, ⟨Iz85, Jz85, ⟨hIz85, fr_Iz85, (hJ_of hk_Iz85)⟩, by rw [ht]; exact hP⟩⟩, hS.F ht⟩) hS.2.2 dX7_readsPart_88
    · have t52 := tq_ne (k := z49.toInt) (q := (0)) c52 rfl (by decide +kernel)
      refine lv_aload_n hx hb dX7_readsPart_55 rfl (lv_at hl 1 rfl) ?_
      obtain ⟨y56, ey56, hLy56, hKy56⟩ := oQ_7_1 (Sv_at hQ hLp0 hKp0)
      refine p_get (v := .ref y56) hx hb hts inX7 hown hK hP hLp0 hKp0 rfl rfl 1 (by decide) (hts _ pq1116) (congrArg (fun q => some (va_rf q)) ey56) dX7_readsPart_56 ?_
      refine lv_iconst (v := 1) hx hb dX7_readsPart_59 (by decide +kernel) ?_
      refine p_iald hx hb hK hP 18 hLy56 hKy56 rfl rfl (in_d (by decide +kernel)) dX7_readsPart_60 ?_
      refine lv_topi (fun z60 ez60 => ?_)
      refine lv_bipush (v := 10) hx hb dX7_readsPart_61 (by decide +kernel) ?_
      refine lv_icmp_ne (tgt := 75) hx hb dX7_readsPart_63 (by decide) (fun c63 => ?_) (fun c63 => ?_)
      · have t63 := tq_ne (k := z60.toInt) (q := (10)) c63 rfl (by decide +kernel)
        refine lv_aload_n hx hb dX7_readsPart_75 rfl (lv_at hl 1 rfl) ?_
        refine sw_v (Z := (fun I1 => Iv L K x0 m0 tx tm I1 ∧ (∀ b, ¬ (K b = 7 ∨ K b = 28) → I1 b = Iz49 b) ∧ hJ Q Iz49 I1 p0)) (va_runV (As := []) (rest := []) ⟨hx, hb, hml, hown, hts⟩ (s_X7_readsBody l dC dI cs L K G Q hQ x0 m0 tx tm H.size Iz49 Jz49 hIz49 p0 hLp0 hKp0 hk_Iz49.2.1 f49 (fun yh e => by obtain rfl : y56 = yh := Option.some.inj (ey56.symm.trans e); have q := hk_Iz49.2.1 f49 y56 ey56 1 (by decide); unfold rng at q; have c := congrArg Int32.toInt (show z60 = Iz49 y56 1 from ez60); omega)) (cwV 0 hts (gV pq1280 pq1282 pq21 pq81 pq1283) rfl rfl rfl (by decide +kernel) ⟨(by rw [hR]; exact (Nat.le_of_ble_eq_true rfl)), (by rw [hR]; exact (Nat.le_of_ble_eq_true rfl))⟩) (sPX_V hP hD hK hN hLp0 hKp0 rfl rfl gX_x hS hxx (fun q h => h.elim (hAL q) (fun h => hA q (Nat.le_trans hS.1 h)))) rfl rfl hl.1 rfl (lv_room (Nat.le_of_ble_eq_true rfl)) dX7_readsPart_76 ⟨(by rw [hR]; exact (Nat.le_of_ble_eq_true rfl)), (by rw [hR]; exact (Nat.le_of_ble_eq_true rfl))⟩) hS hAL hA (fun Iz76 Jz76 H locs hz76 hIz76 hP hS => ?_)
        obtain ⟨hIz76, frc76, zp76⟩ := hIz76
        replace zp76 : Hid _ := zp76
        have fr_Iz76 : ∀ b, ¬ (K b = 7 ∨ K b = 28) → Iz76 b = I b := fun b q => (frc76 b (fun z => q (by omega))).trans (fr_Iz49 b q)
        refine lv_goto (tgt := 88) hx hb dX7_readsPart_79 (by decide) ?_
        subst hR; subst hQz
        exact W.vret hx hb hr (fun t ht hW => ⟨⟨(), rfl, trivial, ⟨Iz76, Jz76, ⟨hIz76, fr_Iz76, (hJ_tr hk_Iz49 zp76)⟩, by rw [ht]; exact hP⟩⟩, hS.F ht⟩) hS.2.2 dX7_readsPart_88
      · have t63 := tq_eq (k := z60.toInt) (q := (10)) c63 rfl (by decide +kernel)
        refine lv_aload_n hx hb dX7_readsPart_66 rfl (lv_at hl 1 rfl) ?_
        refine lv_iconst (v := 3) hx hb dX7_readsPart_67 (by decide +kernel) ?_
        refine lv_iload_n hx hb dX7_readsPart_68 rfl (lv_at hl 0 rfl) ?_
        refine sw_v (Z := (fun I1 => Iv L K x0 m0 tx tm I1 ∧ (∀ b, ¬ (b = p0) → I1 b = Iz49 b) ∧ ((Iz49 p0 14).toInt ≤ (I1 p0 14).toInt ∧ ((I1 p0 15).toInt = -1 → (Iz49 p0 15).toInt = -1) ∧ (∀ k, ¬ k = 15 → I1 p0 k = Iz49 p0 k) ∧ ¬ (I1 p0 15).toInt = -1))) (va_runV (As := [.int 3, .int z6]) (rest := []) ⟨hx, hb, hml, hown, hts⟩ (s_X7_fails l dC dI cs L K G Q hQ x0 m0 tx tm H.size Iz49 Jz49 hIz49 p0 hLp0 hKp0 3 ⟨by decide +kernel, by decide +kernel⟩ z6 ⟨by omega, by omega⟩) (cwV 2 hts (gV pq1239 pq1241 pq15 pq81 pq1242) rfl rfl rfl (by decide +kernel) ⟨(by rw [hR]; exact (Nat.le_of_ble_eq_true rfl)), (by rw [hR]; exact (Nat.le_of_ble_eq_true rfl))⟩) (sP_V hP hD hK hN hLp0 hKp0 rfl rfl) rfl rfl hl.1 rfl (lv_room (Nat.le_of_ble_eq_true rfl)) dX7_readsPart_69 ⟨(by rw [hR]; exact (Nat.le_of_ble_eq_true rfl)), (by rw [hR]; exact (Nat.le_of_ble_eq_true rfl))⟩) hS hAL hA (fun Iz69 Jz69 H locs hz69 hIz69 hP hS => ?_)
        obtain ⟨hIz69, frc69, zp69⟩ := hIz69
        replace zp69 : Hid _ := zp69
        have hk_Iz69 := hK_call hQ hLp0 hKp0 frc69 zp69.1 zp69.2.1 hk_Iz49
        have fr_Iz69 : ∀ b, ¬ (K b = 7 ∨ K b = 28) → Iz69 b = I b := fun b q => (frc69 b (fun z => q (by rw [z]; have := hKp0; omega))).trans (fr_Iz49 b q)
        refine lv_goto (tgt := 88) hx hb dX7_readsPart_72 (by decide) ?_
        subst hR; subst hQz
        exact W.vret hx hb hr (fun t ht hW => ⟨⟨(), rfl, trivial, ⟨Iz69, Jz69, ⟨hIz69, fr_Iz69, (hJ_of hk_Iz69)⟩, by rw [ht]; exact hP⟩⟩, hS.F ht⟩) hS.2.2 dX7_readsPart_88
  · have t16 := tq_ne (k := z13.toInt) (q := (0)) c16 rfl (by decide +kernel)
    refine lv_aload_n hx hb dX7_readsPart_19 rfl (lv_at hl 1 rfl) ?_
    obtain ⟨y20, ey20, hLy20, hKy20⟩ := oQ_7_1 (Sv_at hQ hLp0 hKp0)
    refine p_get (v := .ref y20) hx hb hts inX7 hown hK hP hLp0 hKp0 rfl rfl 1 (by decide) (hts _ pq1116) (congrArg (fun q => some (va_rf q)) ey20) dX7_readsPart_20 ?_
    refine lv_iconst (v := 0) hx hb dX7_readsPart_23 (by decide +kernel) ?_
    refine p_iald hx hb hK hP 18 hLy20 hKy20 rfl rfl (in_d (by decide +kernel)) dX7_readsPart_24 ?_
    refine lv_topi (fun z24 ez24 => ?_)
    refine lv_bipush (v := 8) hx hb dX7_readsPart_25 (by decide +kernel) ?_
    refine lv_icmp_ne (tgt := 39) hx hb dX7_readsPart_27 (by decide) (fun c27 => ?_) (fun c27 => ?_)
    · have t27 := tq_ne (k := z24.toInt) (q := (8)) c27 rfl (by decide +kernel)
      refine lv_aload_n hx hb dX7_readsPart_39 rfl (lv_at hl 1 rfl) ?_
      refine sw_v (Z := (fun I1 => Iv L K x0 m0 tx tm I1 ∧ (∀ b, ¬ (K b = 7 ∨ K b = 28) → I1 b = Iz13 b) ∧ hJ Q Iz13 I1 p0)) (va_runV (As := []) (rest := []) ⟨hx, hb, hml, hown, hts⟩ (s_X7_readsForm l dC dI cs L K G Q hQ x0 m0 tx tm H.size Iz13 Jz13 hIz13 p0 hLp0 hKp0 hk_Iz13.2.1 f13 (fun yh e => by obtain rfl : y20 = yh := Option.some.inj (ey20.symm.trans e); have q := hk_Iz13.2.1 f13 y20 ey20 0 (by decide); unfold rng at q; have c := congrArg Int32.toInt (show z24 = Iz13 y20 0 from ez24); omega)) (cwV 0 hts (gV pq1243 pq1245 pq16 pq81 pq1246) rfl rfl rfl (by decide +kernel) ⟨(by rw [hR]; exact (Nat.le_of_ble_eq_true rfl)), (by rw [hR]; exact (Nat.le_of_ble_eq_true rfl))⟩) (sPX_V hP hD hK hN hLp0 hKp0 rfl rfl gX_x hS hxx (fun q h => h.elim (hAL q) (fun h => hA q (Nat.le_trans hS.1 h)))) rfl rfl hl.1 rfl (lv_room (Nat.le_of_ble_eq_true rfl)) dX7_readsPart_40 ⟨(by rw [hR]; exact (Nat.le_of_ble_eq_true rfl)), (by rw [hR]; exact (Nat.le_of_ble_eq_true rfl))⟩) hS hAL hA (fun Iz40 Jz40 H locs hz40 hIz40 hP hS => ?_)
      obtain ⟨hIz40, frc40, zp40⟩ := hIz40
      replace zp40 : Hid _ := zp40
      have fr_Iz40 : ∀ b, ¬ (K b = 7 ∨ K b = 28) → Iz40 b = I b := fun b q => (frc40 b (fun z => q (by omega))).trans (fr_Iz13 b q)
      refine lv_goto (tgt := 88) hx hb dX7_readsPart_43 (by decide) ?_
      subst hR; subst hQz
      exact W.vret hx hb hr (fun t ht hW => ⟨⟨(), rfl, trivial, ⟨Iz40, Jz40, ⟨hIz40, fr_Iz40, (hJ_tr hk_Iz13 zp40)⟩, by rw [ht]; exact hP⟩⟩, hS.F ht⟩) hS.2.2 dX7_readsPart_88
    · have t27 := tq_eq (k := z24.toInt) (q := (8)) c27 rfl (by decide +kernel)
      refine lv_aload_n hx hb dX7_readsPart_30 rfl (lv_at hl 1 rfl) ?_
      refine lv_iconst (v := 3) hx hb dX7_readsPart_31 (by decide +kernel) ?_
      refine lv_iload_n hx hb dX7_readsPart_32 rfl (lv_at hl 0 rfl) ?_
      refine sw_v (Z := (fun I1 => Iv L K x0 m0 tx tm I1 ∧ (∀ b, ¬ (b = p0) → I1 b = Iz13 b) ∧ ((Iz13 p0 14).toInt ≤ (I1 p0 14).toInt ∧ ((I1 p0 15).toInt = -1 → (Iz13 p0 15).toInt = -1) ∧ (∀ k, ¬ k = 15 → I1 p0 k = Iz13 p0 k) ∧ ¬ (I1 p0 15).toInt = -1))) (va_runV (As := [.int 3, .int z6]) (rest := []) ⟨hx, hb, hml, hown, hts⟩ (s_X7_fails l dC dI cs L K G Q hQ x0 m0 tx tm H.size Iz13 Jz13 hIz13 p0 hLp0 hKp0 3 ⟨by decide +kernel, by decide +kernel⟩ z6 ⟨by omega, by omega⟩) (cwV 2 hts (gV pq1239 pq1241 pq15 pq81 pq1242) rfl rfl rfl (by decide +kernel) ⟨(by rw [hR]; exact (Nat.le_of_ble_eq_true rfl)), (by rw [hR]; exact (Nat.le_of_ble_eq_true rfl))⟩) (sP_V hP hD hK hN hLp0 hKp0 rfl rfl) rfl rfl hl.1 rfl (lv_room (Nat.le_of_ble_eq_true rfl)) dX7_readsPart_33 ⟨(by rw [hR]; exact (Nat.le_of_ble_eq_true rfl)), (by rw [hR]; exact (Nat.le_of_ble_eq_true rfl))⟩) hS hAL hA (fun Iz33 Jz33 H locs hz33 hIz33 hP hS => ?_)
      obtain ⟨hIz33, frc33, zp33⟩ := hIz33
      replace zp33 : Hid _ := zp33
      have hk_Iz33 := hK_call hQ hLp0 hKp0 frc33 zp33.1 zp33.2.1 hk_Iz13
      have fr_Iz33 : ∀ b, ¬ (K b = 7 ∨ K b = 28) → Iz33 b = I b := fun b q => (frc33 b (fun z => q (by rw [z]; have := hKp0; omega))).trans (fr_Iz13 b q)
      refine lv_goto (tgt := 88) hx hb dX7_readsPart_36 (by decide) ?_
      subst hR; subst hQz
      exact W.vret hx hb hr (fun t ht hW => ⟨⟨(), rfl, trivial, ⟨Iz33, Jz33, ⟨hIz33, fr_Iz33, (hJ_of hk_Iz33)⟩, by rw [ht]; exact hP⟩⟩, hS.F ht⟩) hS.2.2 dX7_readsPart_88
