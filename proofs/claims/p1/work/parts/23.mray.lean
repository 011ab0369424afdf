def yX7_steps : MethodName := ⟨RX7, "steps", "(II)I"⟩
abbrev cX7_steps : ByteArray := prog_9_method_50_code
def yX7_by : MethodName := ⟨RX7, "by", "(III)I"⟩
abbrev cX7_by : ByteArray := prog_9_method_51_code
abbrev cX7_ray : ByteArray := prog_9_method_108_code
def yX7_ray : MethodName := ⟨RX7, "ray", "(IIII)I"⟩
theorem dX7_by_0 : decode cX7_by 0 = .ok (.iload_n 2, 1) := by decide +kernel
theorem dX7_by_1 : decode cX7_by 1 = .ok (.ifCond .ne 7, 3) := by decide +kernel
theorem dX7_by_4 : decode cX7_by 4 = .ok (.iconst 0, 1) := by decide +kernel
theorem dX7_by_5 : decode cX7_by 5 = .ok (.goto 16, 3) := by decide +kernel
theorem dX7_by_8 : decode cX7_by 8 = .ok (.iconst 2, 1) := by decide +kernel
theorem dX7_by_9 : decode cX7_by 9 = .ok (.iload_n 0, 1) := by decide +kernel
theorem dX7_by_10 : decode cX7_by 10 = .ok (.imul, 1) := by decide +kernel
theorem dX7_by_11 : decode cX7_by 11 = .ok (.iload_n 1, 1) := by decide +kernel
theorem dX7_by_12 : decode cX7_by 12 = .ok (.imul, 1) := by decide +kernel
theorem dX7_by_13 : decode cX7_by 13 = .ok (.iload_n 2, 1) := by decide +kernel
theorem dX7_by_14 : decode cX7_by 14 = .ok (.iadd, 1) := by decide +kernel
theorem dX7_by_15 : decode cX7_by 15 = .ok (.iconst 2, 1) := by decide +kernel
theorem dX7_by_16 : decode cX7_by 16 = .ok (.iload_n 2, 1) := by decide +kernel
theorem dX7_by_17 : decode cX7_by 17 = .ok (.imul, 1) := by decide +kernel
theorem dX7_by_18 : decode cX7_by 18 = .ok (.invokestatic 253, 3) := by decide +kernel
theorem dX7_by_21 : decode cX7_by 21 = .ok (.ireturn, 1) := by decide +kernel
theorem dX7_ray_0 : decode cX7_ray 0 = .ok (.iload_n 1, 1) := by decide +kernel
theorem dX7_ray_1 : decode cX7_ray 1 = .ok (.i2l, 1) := by decide +kernel
theorem dX7_ray_2 : decode cX7_ray 2 = .ok (.ldc2_w 405, 3) := by decide +kernel
theorem dX7_ray_5 : decode cX7_ray 5 = .ok (.ldc2_w 407, 3) := by decide +kernel
theorem dX7_ray_8 : decode cX7_ray 8 = .ok (.invokestatic 96, 3) := by decide +kernel
theorem dX7_ray_11 : decode cX7_ray 11 = .ok (.ifCond .eq 46, 3) := by decide +kernel
theorem dX7_ray_14 : decode cX7_ray 14 = .ok (.iload_n 2, 1) := by decide +kernel
theorem dX7_ray_15 : decode cX7_ray 15 = .ok (.i2l, 1) := by decide +kernel
theorem dX7_ray_16 : decode cX7_ray 16 = .ok (.ldc2_w 405, 3) := by decide +kernel
theorem dX7_ray_19 : decode cX7_ray 19 = .ok (.ldc2_w 407, 3) := by decide +kernel
theorem dX7_ray_22 : decode cX7_ray 22 = .ok (.invokestatic 96, 3) := by decide +kernel
theorem dX7_ray_25 : decode cX7_ray 25 = .ok (.ifCond .eq 32, 3) := by decide +kernel
theorem dX7_ray_28 : decode cX7_ray 28 = .ok (.iload_n 3, 1) := by decide +kernel
theorem dX7_ray_29 : decode cX7_ray 29 = .ok (.i2l, 1) := by decide +kernel
theorem dX7_ray_30 : decode cX7_ray 30 = .ok (.ldc2_w 409, 3) := by decide +kernel
theorem dX7_ray_33 : decode cX7_ray 33 = .ok (.ldc2_w 402, 3) := by decide +kernel
theorem dX7_ray_36 : decode cX7_ray 36 = .ok (.invokestatic 96, 3) := by decide +kernel
theorem dX7_ray_39 : decode cX7_ray 39 = .ok (.ifCond .eq 18, 3) := by decide +kernel
theorem dX7_ray_42 : decode cX7_ray 42 = .ok (.iload 4, 2) := by decide +kernel
theorem dX7_ray_44 : decode cX7_ray 44 = .ok (.i2l, 1) := by decide +kernel
theorem dX7_ray_45 : decode cX7_ray 45 = .ok (.ldc2_w 409, 3) := by decide +kernel
theorem dX7_ray_48 : decode cX7_ray 48 = .ok (.ldc2_w 402, 3) := by decide +kernel
theorem dX7_ray_51 : decode cX7_ray 51 = .ok (.invokestatic 96, 3) := by decide +kernel
theorem dX7_ray_54 : decode cX7_ray 54 = .ok (.ifCond .ne 5, 3) := by decide +kernel
theorem dX7_ray_57 : decode cX7_ray 57 = .ok (.iconst (-1), 1) := by decide +kernel
theorem dX7_ray_58 : decode cX7_ray 58 = .ok (.ireturn, 1) := by decide +kernel
theorem dX7_ray_59 : decode cX7_ray 59 = .ok (.iload_n 3, 1) := by decide +kernel
theorem dX7_ray_60 : decode cX7_ray 60 = .ok (.iload 4, 2) := by decide +kernel
theorem dX7_ray_62 : decode cX7_ray 62 = .ok (.invokestatic 260, 3) := by decide +kernel
theorem dX7_ray_65 : decode cX7_ray 65 = .ok (.istore 5, 2) := by decide +kernel
theorem dX7_ray_67 : decode cX7_ray 67 = .ok (.iconst 0, 1) := by decide +kernel
theorem dX7_ray_68 : decode cX7_ray 68 = .ok (.istore 6, 2) := by decide +kernel
theorem dX7_ray_70 : decode cX7_ray 70 = .ok (.iload 6, 2) := by decide +kernel
theorem dX7_ray_72 : decode cX7_ray 72 = .ok (.iload 5, 2) := by decide +kernel
theorem dX7_ray_74 : decode cX7_ray 74 = .ok (.if_icmp .gt 76, 3) := by decide +kernel
theorem dX7_ray_77 : decode cX7_ray 77 = .ok (.aload_n 0, 1) := by decide +kernel
theorem dX7_ray_78 : decode cX7_ray 78 = .ok (.iload_n 1, 1) := by decide +kernel
theorem dX7_ray_79 : decode cX7_ray 79 = .ok (.iload 6, 2) := by decide +kernel
theorem dX7_ray_81 : decode cX7_ray 81 = .ok (.iload_n 3, 1) := by decide +kernel
theorem dX7_ray_82 : decode cX7_ray 82 = .ok (.iload 5, 2) := by decide +kernel
theorem dX7_ray_84 : decode cX7_ray 84 = .ok (.invokestatic 269, 3) := by decide +kernel
theorem dX7_ray_87 : decode cX7_ray 87 = .ok (.iadd, 1) := by decide +kernel
theorem dX7_ray_88 : decode cX7_ray 88 = .ok (.iload_n 2, 1) := by decide +kernel
theorem dX7_ray_89 : decode cX7_ray 89 = .ok (.iload 6, 2) := by decide +kernel
theorem dX7_ray_91 : decode cX7_ray 91 = .ok (.iload 4, 2) := by decide +kernel
theorem dX7_ray_93 : decode cX7_ray 93 = .ok (.iload 5, 2) := by decide +kernel
theorem dX7_ray_95 : decode cX7_ray 95 = .ok (.invokestatic 269, 3) := by decide +kernel
theorem dX7_ray_98 : decode cX7_ray 98 = .ok (.iadd, 1) := by decide +kernel
theorem dX7_ray_99 : decode cX7_ray 99 = .ok (.invokevirtual 399, 3) := by decide +kernel
theorem dX7_ray_102 : decode cX7_ray 102 = .ok (.istore 7, 2) := by decide +kernel
theorem dX7_ray_104 : decode cX7_ray 104 = .ok (.iconst 0, 1) := by decide +kernel
theorem dX7_ray_105 : decode cX7_ray 105 = .ok (.istore 8, 2) := by decide +kernel
theorem dX7_ray_107 : decode cX7_ray 107 = .ok (.iload 8, 2) := by decide +kernel
theorem dX7_ray_109 : decode cX7_ray 109 = .ok (.aload_n 0, 1) := by decide +kernel
theorem dX7_ray_110 : decode cX7_ray 110 = .ok (.getfield 9, 3) := by decide +kernel
theorem dX7_ray_113 : decode cX7_ray 113 = .ok (.iconst 1, 1) := by decide +kernel
theorem dX7_ray_114 : decode cX7_ray 114 = .ok (.iaload, 1) := by decide +kernel
theorem dX7_ray_115 : decode cX7_ray 115 = .ok (.if_icmp .ge 29, 3) := by decide +kernel
theorem dX7_ray_144 : decode cX7_ray 144 = .ok (.iinc 6 1, 3) := by decide +kernel
theorem dX7_ray_147 : decode cX7_ray 147 = .ok (.goto (-77), 3) := by decide +kernel
theorem dX7_ray_150 : decode cX7_ray 150 = .ok (.bipush (-2), 2) := by decide +kernel
theorem dX7_ray_152 : decode cX7_ray 152 = .ok (.ireturn, 1) := by decide +kernel
theorem dX7_steps_0 : decode cX7_steps 0 = .ok (.iload_n 0, 1) := by decide +kernel
theorem dX7_steps_1 : decode cX7_steps 1 = .ok (.invokestatic 250, 3) := by decide +kernel
theorem dX7_steps_4 : decode cX7_steps 4 = .ok (.iload_n 1, 1) := by decide +kernel
theorem dX7_steps_5 : decode cX7_steps 5 = .ok (.invokestatic 250, 3) := by decide +kernel
theorem dX7_steps_8 : decode cX7_steps 8 = .ok (.invokestatic 219, 3) := by decide +kernel
theorem dX7_steps_11 : decode cX7_steps 11 = .ok (.ireturn, 1) := by decide +kernel
set_option maxRecDepth 100000 in
theorem pq1439 : Cond.methodLink RX7 260 yX7_steps ∈ pw := pw_mem (i := 1439) (by decide +kernel) rfl
set_option maxRecDepth 100000 in
theorem pq1440 : Cond.static yX7_steps ∈ pw := pw_mem (i := 1440) (by decide +kernel) rfl
set_option maxRecDepth 100000 in
theorem pq1441 : Cond.code yX7_steps cX7_steps 2 (some .int) ∈ pw := pw_mem (i := 1441) (by rfl) rfl
set_option maxRecDepth 100000 in
theorem pq1442 : Cond.methodLink RX7 250 Lib.Math.abs.name ∈ pw := pw_mem (i := 1442) (by decide +kernel) rfl
set_option maxRecDepth 100000 in
theorem pq1443 : Cond.methodLink RX7 219 Lib.Math.max.name ∈ pw := pw_mem (i := 1443) (by decide +kernel) rfl
set_option maxRecDepth 100000 in
theorem pq1470 : Cond.methodLink RX7 269 yX7_by ∈ pw := pw_mem (i := 1470) (by decide +kernel) rfl
set_option maxRecDepth 100000 in
theorem pq1471 : Cond.static yX7_by ∈ pw := pw_mem (i := 1471) (by decide +kernel) rfl
set_option maxRecDepth 100000 in
theorem pq1472 : Cond.code yX7_by cX7_by 3 (some .int) ∈ pw := pw_mem (i := 1472) (by rfl) rfl
set_option maxRecDepth 100000 in
theorem pq1473 : Cond.methodLink RX7 253 yJ9_floorDiv_7cf53 ∈ pw := pw_mem (i := 1473) (by decide +kernel) rfl
set_option maxRecDepth 100000 in
theorem pq1620 : Cond.constantLong RX7 402 (300) ∈ pw := pw_mem (i := 1620) (by decide +kernel) rfl
set_option maxRecDepth 100000 in
theorem pq1646 : Cond.constantLong RX7 405 (-9999) ∈ pw := pw_mem (i := 1646) (by decide +kernel) rfl
set_option maxRecDepth 100000 in
theorem pq1647 : Cond.constantLong RX7 407 (9999) ∈ pw := pw_mem (i := 1647) (by decide +kernel) rfl
set_option maxRecDepth 100000 in
theorem pq1648 : Cond.constantLong RX7 409 (-300) ∈ pw := pw_mem (i := 1648) (by decide +kernel) rfl
set_option maxHeartbeats 4000000 in
set_option maxRecDepth 100000 in
theorem c_X7_steps (l : Launch) (dC : Nat → ClassId) (dI : Nat → Nat → Nat) (sz : Nat) (p0 : Int32) (p1 : Int32) (g0 : ¬ (p0 < -300 ∨ 300 < p0)) (g1 : ¬ (p1 < -300 ∨ 300 < p1)) : Met l yX7_steps (.code yX7_steps cX7_steps 2 (some .int) :: pw) ({ frames := 1, cells := 0, slots := 0, locals := 14 }) (pc (dC, dI) [.int p0, .int p1] sz [] []) (va_Qi (fun (r : Int32) (_ : Unit) => 0 ≤ r.toInt ∧ r.toInt ≤ 300) (fun _ _ => True) (fun _ => False)) 0 0 (fun _ => False) := by
  refine Met.ofW (cc := cX7_steps) (maxL := 2) (ret := (some .int)) (by decide +kernel) rfl ?_
  intro p e s m args below meth c s₁ B hml hv
  obtain ⟨rfl, hsz, hP, hK, hD0, hN⟩ := hv
  have hx := B.exec
  have hb := B.bytes
  have hr := B.returns
  have hts := fun w (h : w ∈ pw) => atoms_spec (ws := Cond.code yX7_steps cX7_steps 2 (some .int) :: pw) B.pre w (List.mem_cons_of_mem _ h)
  have hown : s.vm.findClass RX7 = some m.cls := findClass_of_methodNamed B.named
  have hlocks := B.notSynchronized
  subst hsz
  have hD := hD0
  obtain ⟨H, hHe⟩ : ∃ H : Heap, H = s.heap := ⟨_, rfl⟩
  have hS : va_S (fun _ => False) s.heap H [] := by rw [hHe]; exact va_S.rf
  rw [← hHe] at hP
  have hl := lv_entry ([.int p0, .int p1]) (n := 2) (Nat.le_of_ble_eq_true rfl)
  rw [lg_entry_eq]
  generalize (lg_sl ([.int p0, .int p1]) ++ List.replicate (2 - (lg_sl ([.int p0, .int p1])).length) Slot.unset).toArray = ls at hl ⊢
  have hl : lv_has ls 2 [(0, .int p0), (1, .int p1)] := hl
  rw [← hHe]
  refine lv_iload_n hx hb dX7_steps_0 rfl (lv_at hl 0 rfl) ?_
  refine va_mabs hx hb (hml.trans hl.1.symm) hown (hts _ pq1442) (hts _ pq747) (hts _ pq82) (hts _ pq748) (Nat.le_of_ble_eq_true rfl) (Nat.le_of_ble_eq_true rfl) (Nat.le_of_ble_eq_true rfl) (Nat.le_of_ble_eq_true rfl) dX7_steps_1 ?_
  refine lv_topi (fun z1 ez1 => ?_)
  refine lv_iload_n hx hb dX7_steps_4 rfl (lv_at hl 1 rfl) ?_
  refine va_mabs hx hb (hml.trans hl.1.symm) hown (hts _ pq1442) (hts _ pq747) (hts _ pq82) (hts _ pq748) (Nat.le_of_ble_eq_true rfl) (Nat.le_of_ble_eq_true rfl) (Nat.le_of_ble_eq_true rfl) (Nat.le_of_ble_eq_true rfl) dX7_steps_5 ?_
  refine lv_topi (fun z2 ez2 => ?_)
  refine va_mmax hx hb (hml.trans hl.1.symm) hown (hts _ pq1443) (hts _ pq750) (hts _ pq82) (hts _ pq751) (Nat.le_of_ble_eq_true rfl) (Nat.le_of_ble_eq_true rfl) (Nat.le_of_ble_eq_true rfl) (Nat.le_of_ble_eq_true rfl) dX7_steps_8 ?_
  refine lv_topi (fun z3 ez3 => ?_)
  exact W.iret (v := z3) hx hb hr (fun t ht hW => ⟨⟨z3, (), rfl, (max300 (abs300 g0 ez1) (abs300 g1 ez2) ez3), trivial⟩, hS.F ht⟩) hS.2.2 dX7_steps_11

set_option maxHeartbeats 4000000 in
set_option maxRecDepth 100000 in
theorem c_X7_by (l : Launch) (dC : Nat → ClassId) (dI : Nat → Nat → Nat) (sz : Nat) (p0 : Int32) (p1 : Int32) (N : Nat) (hN3 : N ≤ 300) : Met l yX7_by (.code yX7_by cX7_by 3 (some .int) :: pw) ({ frames := 1, cells := 0, slots := 0, locals := 22 }) (pc (dC, dI) [.int p0, .int p1, .int (nI N)] sz [] []) (va_Qi (fun (r : Int32) (_ : Unit) => True) (fun _ _ => True) (fun _ => False)) 0 0 (fun _ => False) := by
  refine Met.ofW (cc := cX7_by) (maxL := 3) (ret := (some .int)) (by decide +kernel) rfl ?_
  intro p e s m args below meth c s₁ B hml hv
  obtain ⟨rfl, hsz, hP, hK, hD0, hN⟩ := hv
  have hx := B.exec
  have hb := B.bytes
  have hr := B.returns
  have hts := fun w (h : w ∈ pw) => atoms_spec (ws := Cond.code yX7_by cX7_by 3 (some .int) :: pw) B.pre w (List.mem_cons_of_mem _ h)
  have hown : s.vm.findClass RX7 = some m.cls := findClass_of_methodNamed B.named
  have hlocks := B.notSynchronized
  subst hsz
  have hD := hD0
  obtain ⟨H, hHe⟩ : ∃ H : Heap, H = s.heap := ⟨_, rfl⟩
  have hS : va_S (fun _ => False) s.heap H [] := by rw [hHe]; exact va_S.rf
  rw [← hHe] at hP
  have hl := lv_entry ([.int p0, .int p1, .int (nI N)]) (n := 3) (Nat.le_of_ble_eq_true rfl)
  rw [lg_entry_eq]
  generalize (lg_sl ([.int p0, .int p1, .int (nI N)]) ++ List.replicate (3 - (lg_sl ([.int p0, .int p1, .int (nI N)])).length) Slot.unset).toArray = ls at hl ⊢
  have hl : lv_has ls 3 [(0, .int p0), (1, .int p1), (2, .int (nI N))] := hl
  rw [← hHe]
  refine lv_iload_n hx hb dX7_by_0 rfl (lv_at hl 2 rfl) ?_
  refine lv_if_ne (tgt := 8) hx hb dX7_by_1 (by decide) (fun c1 => ?_) (fun c1 => ?_)
  · refine lv_iconst (v := 2) hx hb dX7_by_8 (by decide +kernel) ?_
    refine lv_iload_n hx hb dX7_by_9 rfl (lv_at hl 0 rfl) ?_
    refine lv_imul hx hb dX7_by_10 ?_
    refine lv_topi (fun z2 ez2 => ?_)
    refine lv_iload_n hx hb dX7_by_11 rfl (lv_at hl 1 rfl) ?_
    refine lv_imul hx hb dX7_by_12 ?_
    refine lv_topi (fun z3 ez3 => ?_)
    refine lv_iload_n hx hb dX7_by_13 rfl (lv_at hl 2 rfl) ?_
    refine lv_iadd hx hb dX7_by_14 ?_
    refine lv_topi (fun z4 ez4 => ?_)
    refine lv_iconst (v := 2) hx hb dX7_by_15 (by decide +kernel) ?_
    refine lv_iload_n hx hb dX7_by_16 rfl (lv_at hl 2 rfl) ?_
    refine lv_imul hx hb dX7_by_17 ?_
    refine lv_topi (fun z5 ez5 => ?_)
    have hPc := hP.sub (ws' := []) [] rfl
    have hDc := hD.sub (ws' := []) [] (by decide) rfl
    have hKc := hK.sub (tys' := []) [] rfl
    refine ro_i (va_runS (As := [.int z4, .int z5]) (rest := []) ⟨hx, hb, hml, hown, hts⟩ (c_J9_floorDiv l dC dI  H.size z4 z5 ((dbl_ne hN3 (nI_q c1) ez5))) (va_cwS 2 hts (gS pq1473 pq782 pq82 pq783) rfl rfl rfl (by decide +kernel) ⟨(Nat.le_of_ble_eq_true rfl), (Nat.le_of_ble_eq_true rfl)⟩) (pc_S hPc hDc hKc hN) rfl rfl hl.1 rfl (lv_room (Nat.le_of_ble_eq_true rfl)) dX7_by_18 ⟨(Nat.le_of_ble_eq_true rfl), (Nat.le_of_ble_eq_true rfl)⟩) hS hP (fun r6 H locs hr6 hP hS => ?_)
    exact W.iret (v := r6) hx hb hr (fun t ht hW => ⟨⟨r6, (), rfl, trivial, trivial⟩, hS.F ht⟩) hS.2.2 dX7_by_21
  · refine lv_iconst (v := 0) hx hb dX7_by_4 (by decide +kernel) ?_
    refine lv_goto (tgt := 21) hx hb dX7_by_5 (by decide) ?_
    exact W.iret (v := 0) hx hb hr (fun t ht hW => ⟨⟨0, (), rfl, trivial, trivial⟩, hS.F ht⟩) hS.2.2 dX7_by_21

set_option maxHeartbeats 4000000 in
set_option maxRecDepth 100000 in
theorem c_X7_ray (l : Launch) (dC : Nat → ClassId) (dI : Nat → Nat → Nat) (h0 mnw mhd mas mps msf mdt mhdd masd mpsd msfd mkp mtp mld mmd men mil mqu mbx : Nat) (kI : ClassId) (sz : Nat) (p0 : Int32) (p1 : Int32) (p2 : Int32) (p3 : Int32) : Met l yX7_ray (.code yX7_ray cX7_ray 9 (some .int) :: pw) ({ frames := 2, cells := 0, slots := 0, locals := 44 }) (pc (dC, dI) [.ref h0, .int p0, .int p1, .int p2, .int p3] sz [(h0, .inr (7, [.ref mnw, .ref mhd, .ref mas, .ref mps, .ref msf, .ref mdt, .ref mhdd, .ref masd, .ref mpsd, .ref msfd, .ref mkp, .int 0, .ref mtp, .int 0, .int 0, .int 0, .int 0, .ref mld, .int 0, .ref mmd, .ref men, .ref mil, .ref mqu, .int 0, .int 0, .ref mbx])), (mnw, .inl (kI, 99, .inl (fun _ => 0)))] [(kI, .int)]) (va_Qi (fun (r : Int32) (_ : Unit) => r = if (p0 < -9999 ∨ 9999 < p0) ∨ (p1 < -9999 ∨ 9999 < p1) ∨ (p2 < -300 ∨ 300 < p2) ∨ (p3 < -300 ∨ 300 < p3) then (-1) else (-2)) (fun _ _ => True) (fun _ => False)) 0 0 (fun _ => False) := by
  refine Met.ofW (cc := cX7_ray) (maxL := 9) (ret := (some .int)) (by decide +kernel) rfl ?_
  intro p e s m args below meth c s₁ B hml hv
  obtain ⟨rfl, hsz, hP, hK, hD0, hN⟩ := hv
  have hx := B.exec
  have hb := B.bytes
  have hr := B.returns
  have hts := fun w (h : w ∈ pw) => atoms_spec (ws := Cond.code yX7_ray cX7_ray 9 (some .int) :: pw) B.pre w (List.mem_cons_of_mem _ h)
  have hown : s.vm.findClass RX7 = some m.cls := findClass_of_methodNamed B.named
  have hlocks := B.notSynchronized
  subst hsz
  have hD := hD0
  obtain ⟨H, hHe⟩ : ∃ H : Heap, H = s.heap := ⟨_, rfl⟩
  have hS : va_S (fun _ => False) s.heap H [] := by rw [hHe]; exact va_S.rf
  rw [← hHe] at hP
  have hl := lv_entry ([.ref h0, .int p0, .int p1, .int p2, .int p3]) (n := 9) (Nat.le_of_ble_eq_true rfl)
  rw [lg_entry_eq]
  generalize (lg_sl ([.ref h0, .int p0, .int p1, .int p2, .int p3]) ++ List.replicate (9 - (lg_sl ([.ref h0, .int p0, .int p1, .int p2, .int p3])).length) Slot.unset).toArray = ls at hl ⊢
  have hl : lv_has ls 9 [(0, .ref h0), (1, .int p0), (2, .int p1), (3, .int p2), (4, .int p3)] := hl
  rw [← hHe]
  refine lv_iload_n hx hb dX7_ray_0 rfl (lv_at hl 1 rfl) ?_
  refine lv_i2l (v := p0.toInt64) hx hb dX7_ray_1 rfl ?_
  refine lv_ldc2 hx hb hown (hts _ pq1646) dX7_ray_2 ?_
  refine lv_ldc2 hx hb hown (hts _ pq1647) dX7_ray_5 ?_
  have hPc := hP.sub (ws' := []) [] rfl
  have hDc := hD.sub (ws' := []) [] (by decide) rfl
  have hKc := hK.sub (tys' := []) [] rfl
  refine ro_i (va_runS (As := [.long p0.toInt64, .long (-9999), .long 9999]) (rest := []) ⟨hx, hb, hml, hown, hts⟩ (c_X7_in l dC dI  H.size p0.toInt64 (-9999) 9999 ) (va_cwS 3 hts (gS pq1234 pq1235 pq81 pq1236) rfl rfl rfl (by decide +kernel) ⟨(Nat.le_of_ble_eq_true rfl), (Nat.le_of_ble_eq_true rfl)⟩) (pc_S hPc hDc hKc hN) rfl rfl hl.1 rfl (lv_room (Nat.le_of_ble_eq_true rfl)) dX7_ray_8 ⟨(Nat.le_of_ble_eq_true rfl), (Nat.le_of_ble_eq_true rfl)⟩) hS hP (fun r1 H locs hr1 hP hS => ?_)
  refine lv_if_eq (tgt := 57) hx hb dX7_ray_11 (by decide) (fun c2 => ?_) (fun c2 => ?_)
  · refine lv_iconst (v := (-1)) hx hb dX7_ray_57 (by decide +kernel) ?_
    exact W.iret (v := (-1)) hx hb hr (fun t ht hW => ⟨⟨(-1), (), rfl, (if_pos (Or.inl ((wd (-9999) 9999 (-9999) 9999 (by decide +kernel) (by decide +kernel) _).mp (rng_p hr1 c2)))).symm, trivial⟩, hS.F ht⟩) hS.2.2 dX7_ray_58
  · refine lv_iload_n hx hb dX7_ray_14 rfl (lv_at hl 2 rfl) ?_
    refine lv_i2l (v := p1.toInt64) hx hb dX7_ray_15 rfl ?_
    refine lv_ldc2 hx hb hown (hts _ pq1646) dX7_ray_16 ?_
    refine lv_ldc2 hx hb hown (hts _ pq1647) dX7_ray_19 ?_
    have hPc := hP.sub (ws' := []) [] rfl
    have hDc := hD.sub (ws' := []) [] (by decide) rfl
    have hKc := hK.sub (tys' := []) [] rfl
    refine ro_i (va_runS (As := [.long p1.toInt64, .long (-9999), .long 9999]) (rest := []) ⟨hx, hb, hml, hown, hts⟩ (c_X7_in l dC dI  H.size p1.toInt64 (-9999) 9999 ) (va_cwS 3 hts (gS pq1234 pq1235 pq81 pq1236) rfl rfl rfl (by decide +kernel) ⟨(Nat.le_of_ble_eq_true rfl), (Nat.le_of_ble_eq_true rfl)⟩) (pc_S hPc hDc hKc hN) rfl rfl hl.1 rfl (lv_room (Nat.le_of_ble_eq_true rfl)) dX7_ray_22 ⟨(Nat.le_of_ble_eq_true rfl), (Nat.le_of_ble_eq_true rfl)⟩) hS hP (fun r3 H locs hr3 hP hS => ?_)
    refine lv_if_eq (tgt := 57) hx hb dX7_ray_25 (by decide) (fun c4 => ?_) (fun c4 => ?_)
    · refine lv_iconst (v := (-1)) hx hb dX7_ray_57 (by decide +kernel) ?_
      exact W.iret (v := (-1)) hx hb hr (fun t ht hW => ⟨⟨(-1), (), rfl, (if_pos (Or.inr (Or.inl ((wd (-9999) 9999 (-9999) 9999 (by decide +kernel) (by decide +kernel) _).mp (rng_p hr3 c4))))).symm, trivial⟩, hS.F ht⟩) hS.2.2 dX7_ray_58
    · refine lv_iload_n hx hb dX7_ray_28 rfl (lv_at hl 3 rfl) ?_
      refine lv_i2l (v := p2.toInt64) hx hb dX7_ray_29 rfl ?_
      refine lv_ldc2 hx hb hown (hts _ pq1648) dX7_ray_30 ?_
      refine lv_ldc2 hx hb hown (hts _ pq1620) dX7_ray_33 ?_
      have hPc := hP.sub (ws' := []) [] rfl
      have hDc := hD.sub (ws' := []) [] (by decide) rfl
      have hKc := hK.sub (tys' := []) [] rfl
      refine ro_i (va_runS (As := [.long p2.toInt64, .long (-300), .long 300]) (rest := []) ⟨hx, hb, hml, hown, hts⟩ (c_X7_in l dC dI  H.size p2.toInt64 (-300) 300 ) (va_cwS 3 hts (gS pq1234 pq1235 pq81 pq1236) rfl rfl rfl (by decide +kernel) ⟨(Nat.le_of_ble_eq_true rfl), (Nat.le_of_ble_eq_true rfl)⟩) (pc_S hPc hDc hKc hN) rfl rfl hl.1 rfl (lv_room (Nat.le_of_ble_eq_true rfl)) dX7_ray_36 ⟨(Nat.le_of_ble_eq_true rfl), (Nat.le_of_ble_eq_true rfl)⟩) hS hP (fun r5 H locs hr5 hP hS => ?_)
      refine lv_if_eq (tgt := 57) hx hb dX7_ray_39 (by decide) (fun c6 => ?_) (fun c6 => ?_)
      · refine lv_iconst (v := (-1)) hx hb dX7_ray_57 (by decide +kernel) ?_
        exact W.iret (v := (-1)) hx hb hr (fun t ht hW => ⟨⟨(-1), (), rfl, (if_pos (Or.inr (Or.inr (Or.inl ((wd (-300) 300 (-300) 300 (by decide +kernel) (by decide +kernel) _).mp (rng_p hr5 c6)))))).symm, trivial⟩, hS.F ht⟩) hS.2.2 dX7_ray_58
      · refine lv_iload hx hb dX7_ray_42 (lv_at hl 4 rfl) ?_
        refine lv_i2l (v := p3.toInt64) hx hb dX7_ray_44 rfl ?_
        refine lv_ldc2 hx hb hown (hts _ pq1648) dX7_ray_45 ?_
        refine lv_ldc2 hx hb hown (hts _ pq1620) dX7_ray_48 ?_
        have hPc := hP.sub (ws' := []) [] rfl
        have hDc := hD.sub (ws' := []) [] (by decide) rfl
        have hKc := hK.sub (tys' := []) [] rfl
        refine ro_i (va_runS (As := [.long p3.toInt64, .long (-300), .long 300]) (rest := []) ⟨hx, hb, hml, hown, hts⟩ (c_X7_in l dC dI  H.size p3.toInt64 (-300) 300 ) (va_cwS 3 hts (gS pq1234 pq1235 pq81 pq1236) rfl rfl rfl (by decide +kernel) ⟨(Nat.le_of_ble_eq_true rfl), (Nat.le_of_ble_eq_true rfl)⟩) (pc_S hPc hDc hKc hN) rfl rfl hl.1 rfl (lv_room (Nat.le_of_ble_eq_true rfl)) dX7_ray_51 ⟨(Nat.le_of_ble_eq_true rfl), (Nat.le_of_ble_eq_true rfl)⟩) hS hP (fun r7 H locs hr7 hP hS => ?_)
        refine lv_if_ne (tgt := 59) hx hb dX7_ray_54 (by decide) (fun c8 => ?_) (fun c8 => ?_)
        · refine lv_iload_n hx hb dX7_ray_59 rfl (lv_at hl 3 rfl) ?_
          refine lv_iload hx hb dX7_ray_60 (lv_at hl 4 rfl) ?_
          have hPc := hP.sub (ws' := []) [] rfl
          have hDc := hD.sub (ws' := []) [] (by decide) rfl
          have hKc := hK.sub (tys' := []) [] rfl
          refine ro_i (va_runS (As := [.int p2, .int p3]) (rest := []) ⟨hx, hb, hml, hown, hts⟩ (c_X7_steps l dC dI  H.size p2 p3 ((fun q => rng_n hr5 c6 ((wd (-300) 300 (-300) 300 (by decide +kernel) (by decide +kernel) _).mpr q))) ((fun q => rng_n hr7 c8 ((wd (-300) 300 (-300) 300 (by decide +kernel) (by decide +kernel) _).mpr q)))) (va_cwS 2 hts (gS pq1439 pq1440 pq81 pq1441) rfl rfl rfl (by decide +kernel) ⟨(Nat.le_of_ble_eq_true rfl), (Nat.le_of_ble_eq_true rfl)⟩) (pc_S hPc hDc hKc hN) rfl rfl hl.1 rfl (lv_room (Nat.le_of_ble_eq_true rfl)) dX7_ray_62 ⟨(Nat.le_of_ble_eq_true rfl), (Nat.le_of_ble_eq_true rfl)⟩) hS hP (fun r9 H locs hr9 hP hS => ?_)
          obtain ⟨N, hN3, rfl⟩ := nI_300 hr9
          refine lv_istore (lv' := [(5, .int (nI N)), (0, .ref h0), (1, .int p0), (2, .int p1), (3, .int p2), (4, .int p3)]) hx hb dX7_ray_65 hl (by decide) rfl (fun ls hl => ?_)
          refine lv_iconst (v := 0) hx hb dX7_ray_67 (by decide +kernel) ?_
          refine lv_istore (lv' := [(6, .int 0), (5, .int (nI N)), (0, .ref h0), (1, .int p0), (2, .int p1), (3, .int p2), (4, .int p3)]) hx hb dX7_ray_68 hl (by decide) rfl (fun ls hl => ?_)
          refine namedW (fun R Q hR hQ => ?_)
          refine loopW (α := Nat) (I := fun j ls H lo => j ≤ N + 1 ∧ va_P (dC, dI) vwCl [(h0, .inr (7, [.ref mnw, .ref mhd, .ref mas, .ref mps, .ref msf, .ref mdt, .ref mhdd, .ref masd, .ref mpsd, .ref msfd, .ref mkp, .int 0, .ref mtp, .int 0, .int 0, .int 0, .int 0, .ref mld, .int 0, .ref mmd, .ref men, .ref mil, .ref mqu, .int 0, .int 0, .ref mbx])), (mnw, .inl (kI, 99, .inl (fun _ => 0)))] H ∧ va_D (fun _ => True) [(h0, .inr (7, [.ref mnw, .ref mhd, .ref mas, .ref mps, .ref msf, .ref mdt, .ref mhdd, .ref masd, .ref mpsd, .ref msfd, .ref mkp, .int 0, .ref mtp, .int 0, .int 0, .int 0, .int 0, .ref mld, .int 0, .ref mmd, .ref men, .ref mil, .ref mqu, .int 0, .int 0, .ref mbx])), (mnw, .inl (kI, 99, .inl (fun _ => 0)))] ∧ va_S (fun _ => False) s.heap H lo ∧ lv_has ls 9 [(6, .int (nI j)), (5, .int (nI N)), (0, .ref h0), (1, .int p0), (2, .int p1), (3, .int p2), (4, .int p3)]) (G := fun j ls H lo => W p l e R s m (([.ref h0, .int p0, .int p1, .int p2, .int p3] : List Value).toArray) below meth c H lo 0 0 Q (F0 m 70 ls [])) (mu := fun j => N + 1 - j) ?_ 0 ls H _ ⟨Nat.zero_le _, hP, hD, hS, hl⟩
          intro j ls H locs hI ihj
          subst hR; subst hQ
          obtain ⟨hjj, hP, hD, hS, hl⟩ := hI
          have hl : lv_has ls 9 [(6, .int (nI j)), (5, .int (nI N)), (0, .ref h0), (1, .int p0), (2, .int p1), (3, .int p2), (4, .int p3)] := hl
          refine lv_iload hx hb dX7_ray_70 (lv_at hl 0 rfl) ?_
          refine lv_iload hx hb dX7_ray_72 (lv_at hl 1 rfl) ?_
          refine lv_icmp_gt (tgt := 150) hx hb dX7_ray_74 (by decide) (fun c10 => ?_) (fun c10 => ?_)
          · refine lv_bipush (v := (-2)) hx hb dX7_ray_150 (by decide +kernel) ?_
            exact W.iret (v := (-2)) hx hb hr (fun t ht hW => ⟨⟨(-2), (), rfl, (if_neg (fun h => h.elim (fun q => rng_n hr1 c2 ((wd (-9999) 9999 (-9999) 9999 (by decide +kernel) (by decide +kernel) _).mpr q)) (fun h => h.elim (fun q => rng_n hr3 c4 ((wd (-9999) 9999 (-9999) 9999 (by decide +kernel) (by decide +kernel) _).mpr q)) (fun h => h.elim (fun q => rng_n hr5 c6 ((wd (-300) 300 (-300) 300 (by decide +kernel) (by decide +kernel) _).mpr q)) (fun q => rng_n hr7 c8 ((wd (-300) 300 (-300) 300 (by decide +kernel) (by decide +kernel) _).mpr q)))))).symm, trivial⟩, hS.F ht⟩) hS.2.2 dX7_ray_152
          · refine lv_aload_n hx hb dX7_ray_77 rfl (lv_at hl 2 rfl) ?_
            refine lv_iload_n hx hb dX7_ray_78 rfl (lv_at hl 3 rfl) ?_
            refine lv_iload hx hb dX7_ray_79 (lv_at hl 0 rfl) ?_
            refine lv_iload_n hx hb dX7_ray_81 rfl (lv_at hl 5 rfl) ?_
            refine lv_iload hx hb dX7_ray_82 (lv_at hl 1 rfl) ?_
            have hPc := hP.sub (ws' := []) [] rfl
            have hDc := hD.sub (ws' := []) [] (by decide) rfl
            have hKc := hK.sub (tys' := []) [] rfl
            refine ro_i (va_runS (As := [.int (nI j), .int p2, .int (nI N)]) (rest := [.int p0, .ref h0]) ⟨hx, hb, hml, hown, hts⟩ (c_X7_by l dC dI  H.size (nI j) p2 N hN3) (va_cwS 3 hts (gS pq1470 pq1471 pq81 pq1472) rfl rfl rfl (by decide +kernel) ⟨(Nat.le_of_ble_eq_true rfl), (Nat.le_of_ble_eq_true rfl)⟩) (pc_S hPc hDc hKc hN) rfl rfl hl.1 rfl (lv_room (Nat.le_of_ble_eq_true rfl)) dX7_ray_84 ⟨(Nat.le_of_ble_eq_true rfl), (Nat.le_of_ble_eq_true rfl)⟩) hS hP (fun r11 H locs hr11 hP hS => ?_)
            refine lv_iadd hx hb dX7_ray_87 ?_
            refine lv_topi (fun z12 ez12 => ?_)
            refine lv_iload_n hx hb dX7_ray_88 rfl (lv_at hl 4 rfl) ?_
            refine lv_iload hx hb dX7_ray_89 (lv_at hl 0 rfl) ?_
            refine lv_iload hx hb dX7_ray_91 (lv_at hl 6 rfl) ?_
            refine lv_iload hx hb dX7_ray_93 (lv_at hl 1 rfl) ?_
            have hPc := hP.sub (ws' := []) [] rfl
            have hDc := hD.sub (ws' := []) [] (by decide) rfl
            have hKc := hK.sub (tys' := []) [] rfl
            refine ro_i (va_runS (As := [.int (nI j), .int p3, .int (nI N)]) (rest := [.int p1, .int z12, .ref h0]) ⟨hx, hb, hml, hown, hts⟩ (c_X7_by l dC dI  H.size (nI j) p3 N hN3) (va_cwS 3 hts (gS pq1470 pq1471 pq81 pq1472) rfl rfl rfl (by decide +kernel) ⟨(Nat.le_of_ble_eq_true rfl), (Nat.le_of_ble_eq_true rfl)⟩) (pc_S hPc hDc hKc hN) rfl rfl hl.1 rfl (lv_room (Nat.le_of_ble_eq_true rfl)) dX7_ray_95 ⟨(Nat.le_of_ble_eq_true rfl), (Nat.le_of_ble_eq_true rfl)⟩) hS hP (fun r13 H locs hr13 hP hS => ?_)
            refine lv_iadd hx hb dX7_ray_98 ?_
            refine lv_topi (fun z14 ez14 => ?_)
            have hPc := hP.sub (ws' := [(h0, .inr (7, [.ref mnw, .ref mhd, .ref mas, .ref mps, .ref msf, .ref mdt, .ref mhdd, .ref masd, .ref mpsd, .ref msfd, .ref mkp, .int 0, .ref mtp, .int 0, .int 0, .int 0, .int 0, .ref mld, .int 0, .ref mmd, .ref men, .ref mil, .ref mqu, .int 0, .int 0, .ref mbx])), (mnw, .inl (kI, 99, .inl (fun _ => 0)))]) [0, 1] rfl
            have hDc := hD.sub (ws' := [(h0, .inr (7, [.ref mnw, .ref mhd, .ref mas, .ref mps, .ref msf, .ref mdt, .ref mhdd, .ref masd, .ref mpsd, .ref msfd, .ref mkp, .int 0, .ref mtp, .int 0, .int 0, .int 0, .int 0, .ref mld, .int 0, .ref mmd, .ref men, .ref mil, .ref mqu, .int 0, .int 0, .ref mbx])), (mnw, .inl (kI, 99, .inl (fun _ => 0)))]) [0, 1] (by decide) rfl
            have hKc := hK.sub (tys' := [(kI, .int)]) [0] rfl
            refine ro_i (va_runV (As := [.int z12, .int z14]) (rest := []) ⟨hx, hb, hml, hown, hts⟩ (c_X7_bodiesAt l dC dI h0 mnw mhd mas mps msf mdt mhdd masd mpsd msfd mkp mtp mld mmd men mil mqu mbx kI H.size z12 z14 ) (cwV 2 hts (gV pq1612 pq1614 pq67 pq81 pq1615) rfl rfl rfl (by decide +kernel) ⟨(Nat.le_of_ble_eq_true rfl), (Nat.le_of_ble_eq_true rfl)⟩) (pc_V hPc hDc hKc hN (va_recv hK hP (ci := 7) (q0 := 0) rfl rfl)) rfl rfl hl.1 rfl (lv_room (Nat.le_of_ble_eq_true rfl)) dX7_ray_99 ⟨(Nat.le_of_ble_eq_true rfl), (Nat.le_of_ble_eq_true rfl)⟩) hS hP (fun r15 H locs hr15 hP hS => ?_)
            subst hr15
            refine lv_istore (lv' := [(7, .int 0), (6, .int (nI j)), (5, .int (nI N)), (0, .ref h0), (1, .int p0), (2, .int p1), (3, .int p2), (4, .int p3)]) hx hb dX7_ray_102 hl (by decide) rfl (fun ls hl => ?_)
            refine lv_iconst (v := 0) hx hb dX7_ray_104 (by decide +kernel) ?_
            refine lv_istore (lv' := [(8, .int 0), (7, .int 0), (6, .int (nI j)), (5, .int (nI N)), (0, .ref h0), (1, .int p0), (2, .int p1), (3, .int p2), (4, .int p3)]) hx hb dX7_ray_105 hl (by decide) rfl (fun ls hl => ?_)
            refine lv_iload hx hb dX7_ray_107 (lv_at hl 0 rfl) ?_
            refine lv_aload_n hx hb dX7_ray_109 rfl (lv_at hl 4 rfl) ?_
            refine va_get (D := (dC, dI)) (ci := 7) (v := .ref mnw) (C := RX7) (T := TX7) (N := 26) hx hb hts inX7 hown hK hP 0 rfl rfl 0 (by decide) (hts _ pq1115) (fun _ h9 => h9) rfl dX7_ray_110 ?_
            refine lv_iconst (v := 1) hx hb dX7_ray_113 (by decide +kernel) ?_
            refine va_iald hx hb hK hP 1 0 rfl rfl (in_d (by decide +kernel)) dX7_ray_114 ?_
            refine lv_topi (fun z16 ez16 => ?_)
            obtain rfl : z16 = 0 := ez16.trans (by decide +kernel)
            refine lv_icmp_ge (tgt := 144) hx hb dX7_ray_115 (by decide) (fun c17 => ?_) (fun c17 => absurd (by decide +kernel) c17)
            obtain ⟨z18, ez18⟩ : ∃ y : Int32, y = nI j + 1 := ⟨_, rfl⟩
            refine lv_iinc (v := z18) (lv' := [(6, .int z18), (8, .int 0), (7, .int 0), (5, .int (nI N)), (0, .ref h0), (1, .int p0), (2, .int p1), (3, .int p2), (4, .int p3)]) hx hb dX7_ray_144 hl (k := 2) rfl (by rw [ez18]; rfl) (by decide) rfl (fun ls hl => ?_)
            refine lv_goto (tgt := 70) hx hb dX7_ray_147 (by decide) ?_
            have hlt : j ≤ N := nI_leb (n := N) (by omega) c10
            obtain rfl : z18 = nI (j + 1) := ez18.trans (nI_1 j)
            exact ihj (j + 1) _ _ _ ⟨by omega, hP, hD, hS, lv_sub hl [0, 3, 4, 5, 6, 7, 8] rfl⟩ (by omega)
        · refine lv_iconst (v := (-1)) hx hb dX7_ray_57 (by decide +kernel) ?_
          exact W.iret (v := (-1)) hx hb hr (fun t ht hW => ⟨⟨(-1), (), rfl, (if_pos (Or.inr (Or.inr (Or.inr ((wd (-300) 300 (-300) 300 (by decide +kernel) (by decide +kernel) _).mp (rng_p hr7 c8)))))).symm, trivial⟩, hS.F ht⟩) hS.2.2 dX7_ray_58
