abbrev cX7_keep : ByteArray := prog_9_method_29_code
abbrev cX7_ticks : ByteArray := prog_9_method_82_code
def yX7_keep : MethodName := ⟨RX7, "keep", "(I)I"⟩
def yX7_ticks : MethodName := ⟨RX7, "ticks", "(I)I"⟩
theorem dX7_keep_0 : decode cX7_keep 0 = .ok (.iload_n 1, 1) := by decide +kernel
theorem dX7_keep_1 : decode cX7_keep 1 = .ok (.i2l, 1) := by decide +kernel
theorem dX7_keep_2 : decode cX7_keep 2 = .ok (.lconst 0, 1) := by decide +kernel
theorem dX7_keep_3 : decode cX7_keep 3 = .ok (.lconst 1, 1) := by decide +kernel
theorem dX7_keep_4 : decode cX7_keep 4 = .ok (.invokestatic 96, 3) := by decide +kernel
theorem dX7_keep_7 : decode cX7_keep 7 = .ok (.ifCond .ne 5, 3) := by decide +kernel
theorem dX7_keep_10 : decode cX7_keep 10 = .ok (.iconst (-1), 1) := by decide +kernel
theorem dX7_keep_11 : decode cX7_keep 11 = .ok (.ireturn, 1) := by decide +kernel
theorem dX7_keep_12 : decode cX7_keep 12 = .ok (.aload_n 0, 1) := by decide +kernel
theorem dX7_keep_13 : decode cX7_keep 13 = .ok (.getfield 9, 3) := by decide +kernel
theorem dX7_keep_16 : decode cX7_keep 16 = .ok (.aload_n 0, 1) := by decide +kernel
theorem dX7_keep_17 : decode cX7_keep 17 = .ok (.getfield 25, 3) := by decide +kernel
theorem dX7_keep_20 : decode cX7_keep 20 = .ok (.iconst 0, 1) := by decide +kernel
theorem dX7_keep_21 : decode cX7_keep 21 = .ok (.aload_n 0, 1) := by decide +kernel
theorem dX7_keep_22 : decode cX7_keep 22 = .ok (.getfield 22, 3) := by decide +kernel
theorem dX7_keep_25 : decode cX7_keep 25 = .ok (.aload_n 0, 1) := by decide +kernel
theorem dX7_keep_26 : decode cX7_keep 26 = .ok (.getfield 38, 3) := by decide +kernel
theorem dX7_keep_29 : decode cX7_keep 29 = .ok (.iload_n 1, 1) := by decide +kernel
theorem dX7_keep_30 : decode cX7_keep 30 = .ok (.invokestatic 184, 3) := by decide +kernel
theorem dX7_keep_33 : decode cX7_keep 33 = .ok (.aload_n 0, 1) := by decide +kernel
theorem dX7_keep_34 : decode cX7_keep 34 = .ok (.getfield 41, 3) := by decide +kernel
theorem dX7_keep_37 : decode cX7_keep 37 = .ok (.iload_n 1, 1) := by decide +kernel
theorem dX7_keep_38 : decode cX7_keep 38 = .ok (.iconst 1, 1) := by decide +kernel
theorem dX7_keep_39 : decode cX7_keep 39 = .ok (.bastore, 1) := by decide +kernel
theorem dX7_keep_40 : decode cX7_keep 40 = .ok (.aload_n 0, 1) := by decide +kernel
theorem dX7_keep_41 : decode cX7_keep 41 = .ok (.getfield 9, 3) := by decide +kernel
theorem dX7_keep_44 : decode cX7_keep 44 = .ok (.iconst 1, 1) := by decide +kernel
theorem dX7_keep_45 : decode cX7_keep 45 = .ok (.iaload, 1) := by decide +kernel
theorem dX7_keep_46 : decode cX7_keep 46 = .ok (.ireturn, 1) := by decide +kernel
theorem dX7_ticks_0 : decode cX7_ticks 0 = .ok (.iload_n 1, 1) := by decide +kernel
theorem dX7_ticks_1 : decode cX7_ticks 1 = .ok (.i2l, 1) := by decide +kernel
theorem dX7_ticks_2 : decode cX7_ticks 2 = .ok (.lconst 1, 1) := by decide +kernel
theorem dX7_ticks_3 : decode cX7_ticks 3 = .ok (.ldc2_w 299, 3) := by decide +kernel
theorem dX7_ticks_6 : decode cX7_ticks 6 = .ok (.invokestatic 96, 3) := by decide +kernel
theorem dX7_ticks_9 : decode cX7_ticks 9 = .ok (.ifCond .ne 5, 3) := by decide +kernel
theorem dX7_ticks_12 : decode cX7_ticks 12 = .ok (.iconst (-1), 1) := by decide +kernel
theorem dX7_ticks_13 : decode cX7_ticks 13 = .ok (.ireturn, 1) := by decide +kernel
theorem dX7_ticks_14 : decode cX7_ticks 14 = .ok (.aload_n 0, 1) := by decide +kernel
theorem dX7_ticks_15 : decode cX7_ticks 15 = .ok (.invokevirtual 286, 3) := by decide +kernel
theorem dX7_ticks_18 : decode cX7_ticks 18 = .ok (.aload_n 0, 1) := by decide +kernel
theorem dX7_ticks_19 : decode cX7_ticks 19 = .ok (.invokevirtual 331, 3) := by decide +kernel
theorem dX7_ticks_22 : decode cX7_ticks 22 = .ok (.iconst 0, 1) := by decide +kernel
theorem dX7_ticks_23 : decode cX7_ticks 23 = .ok (.istore_n 2, 1) := by decide +kernel
theorem dX7_ticks_24 : decode cX7_ticks 24 = .ok (.iconst 0, 1) := by decide +kernel
theorem dX7_ticks_25 : decode cX7_ticks 25 = .ok (.istore_n 3, 1) := by decide +kernel
theorem dX7_ticks_26 : decode cX7_ticks 26 = .ok (.iload_n 3, 1) := by decide +kernel
theorem dX7_ticks_27 : decode cX7_ticks 27 = .ok (.iload_n 1, 1) := by decide +kernel
theorem dX7_ticks_28 : decode cX7_ticks 28 = .ok (.if_icmp .ge 107, 3) := by decide +kernel
theorem dX7_ticks_31 : decode cX7_ticks 31 = .ok (.iconst 0, 1) := by decide +kernel
theorem dX7_ticks_32 : decode cX7_ticks 32 = .ok (.istore 4, 2) := by decide +kernel
theorem dX7_ticks_34 : decode cX7_ticks 34 = .ok (.iload 4, 2) := by decide +kernel
theorem dX7_ticks_36 : decode cX7_ticks 36 = .ok (.aload_n 0, 1) := by decide +kernel
theorem dX7_ticks_37 : decode cX7_ticks 37 = .ok (.getfield 9, 3) := by decide +kernel
theorem dX7_ticks_40 : decode cX7_ticks 40 = .ok (.iconst 1, 1) := by decide +kernel
theorem dX7_ticks_41 : decode cX7_ticks 41 = .ok (.iaload, 1) := by decide +kernel
theorem dX7_ticks_42 : decode cX7_ticks 42 = .ok (.if_icmp .ge 77, 3) := by decide +kernel
theorem dX7_ticks_119 : decode cX7_ticks 119 = .ok (.aload_n 0, 1) := by decide +kernel
theorem dX7_ticks_120 : decode cX7_ticks 120 = .ok (.getfield 9, 3) := by decide +kernel
theorem dX7_ticks_123 : decode cX7_ticks 123 = .ok (.iconst 2, 1) := by decide +kernel
theorem dX7_ticks_124 : decode cX7_ticks 124 = .ok (.dup2, 1) := by decide +kernel
theorem dX7_ticks_125 : decode cX7_ticks 125 = .ok (.iaload, 1) := by decide +kernel
theorem dX7_ticks_126 : decode cX7_ticks 126 = .ok (.iconst 1, 1) := by decide +kernel
theorem dX7_ticks_127 : decode cX7_ticks 127 = .ok (.iadd, 1) := by decide +kernel
theorem dX7_ticks_128 : decode cX7_ticks 128 = .ok (.iastore, 1) := by decide +kernel
theorem dX7_ticks_129 : decode cX7_ticks 129 = .ok (.iinc 3 1, 3) := by decide +kernel
theorem dX7_ticks_132 : decode cX7_ticks 132 = .ok (.goto (-106), 3) := by decide +kernel
theorem dX7_ticks_135 : decode cX7_ticks 135 = .ok (.iload_n 2, 1) := by decide +kernel
theorem dX7_ticks_136 : decode cX7_ticks 136 = .ok (.ireturn, 1) := by decide +kernel
set_option maxRecDepth 100000 in
theorem pq26 : Cond.selects RX7 yX7_keepsPast yX7_keepsPast ∈ pw := pw_mem (i := 26) (by decide +kernel) rfl
set_option maxRecDepth 100000 in
theorem pq1324 : Cond.methodLink RX7 286 yX7_keepsPast ∈ pw := pw_mem (i := 1324) (by decide +kernel) rfl
set_option maxRecDepth 100000 in
theorem pq1326 : Cond.instanceMethod yX7_keepsPast ∈ pw := pw_mem (i := 1326) (by decide +kernel) rfl
set_option maxRecDepth 100000 in
theorem pq1327 : Cond.code yX7_keepsPast cX7_keepsPast 1 none ∈ pw := pw_mem (i := 1327) (by rfl) rfl
set_option maxRecDepth 100000 in
theorem pq1359 : Cond.constantLong RX7 299 (20) ∈ pw := pw_mem (i := 1359) (by decide +kernel) rfl
theorem two01 {x : Int32} (h : ¬ (x < 0 ∨ 1 < x)) : x = 0 ∨ x = 1 := by
  have h1 : ¬ x < 0 := fun q => h (Or.inl q)
  have h2 : ¬ 1 < x := fun q => h (Or.inr q)
  rcases nI_of2 (M := 1) (n := 1) (by decide +kernel) h1 (Int32.not_lt.mp h2) with ⟨j, hj, rfl⟩
  rcases (show j = 0 ∨ j = 1 by omega) with rfl | rfl
  · exact Or.inl rfl
  · exact Or.inr rfl

set_option maxHeartbeats 4000000 in
set_option maxRecDepth 100000 in
theorem c_X7_keep (l : Launch) (dC : Nat → ClassId) (dI : Nat → Nat → Nat) (h0 mnw mhd mas mps msf mdt mhdd masd mpsd msfd mkp mtp mld mmd men mil mqu mbx : Nat) (kI kJ kI5 kJ5 kZ : ClassId) (sz : Nat) (p0 : Int32) : Met l yX7_keep (.code yX7_keep cX7_keep 2 (some .int) :: pw) ({ frames := 1, cells := 0, slots := 0, locals := 26 }) (pc (dC, dI) [.ref h0, .int p0] sz [(h0, .inr (7, [.ref mnw, .ref mhd, .ref mas, .ref mps, .ref msf, .ref mdt, .ref mhdd, .ref masd, .ref mpsd, .ref msfd, .ref mkp, .int 0, .ref mtp, .int 0, .int 0, .int 0, .int 0, .ref mld, .int 0, .ref mmd, .ref men, .ref mil, .ref mqu, .int 0, .int 0, .ref mbx])), (mnw, .inl (kI, 99, .inl (fun _ => 0))), (mdt, .inl (kJ, 640, .inr (.inl (fun _ => 0)))), (msf, .inl (kI5, 198, .inl (fun _ => 0))), (msfd, .inl (kJ5, 1280, .inr (.inl (fun _ => 0)))), (mkp, .inl (kZ, 2, .inl (fun _ => 0)))] [(kI, .int), (kJ, .long), (kI5, .int), (kJ5, .long), (kZ, .boolean)]) (va_Qi (fun (r : Int32) (_ : Unit) => r = if p0 < 0 ∨ 1 < p0 then (-1) else 0) (fun _ _ => True) (va_A [(h0, .inr (7, [.ref mnw, .ref mhd, .ref mas, .ref mps, .ref msf, .ref mdt, .ref mhdd, .ref masd, .ref mpsd, .ref msfd, .ref mkp, .int 0, .ref mtp, .int 0, .int 0, .int 0, .int 0, .ref mld, .int 0, .ref mmd, .ref men, .ref mil, .ref mqu, .int 0, .int 0, .ref mbx])), (mnw, .inl (kI, 99, .inl (fun _ => 0))), (mdt, .inl (kJ, 640, .inr (.inl (fun _ => 0)))), (msf, .inl (kI5, 198, .inl (fun _ => 0))), (msfd, .inl (kJ5, 1280, .inr (.inl (fun _ => 0)))), (mkp, .inl (kZ, 2, .inl (fun _ => 0)))] sz)) 0 0 (va_A [(h0, .inr (7, [.ref mnw, .ref mhd, .ref mas, .ref mps, .ref msf, .ref mdt, .ref mhdd, .ref masd, .ref mpsd, .ref msfd, .ref mkp, .int 0, .ref mtp, .int 0, .int 0, .int 0, .int 0, .ref mld, .int 0, .ref mmd, .ref men, .ref mil, .ref mqu, .int 0, .int 0, .ref mbx])), (mnw, .inl (kI, 99, .inl (fun _ => 0))), (mdt, .inl (kJ, 640, .inr (.inl (fun _ => 0)))), (msf, .inl (kI5, 198, .inl (fun _ => 0))), (msfd, .inl (kJ5, 1280, .inr (.inl (fun _ => 0)))), (mkp, .inl (kZ, 2, .inl (fun _ => 0)))] sz) := by
  refine Met.ofW (cc := cX7_keep) (maxL := 2) (ret := (some .int)) (by decide +kernel) rfl ?_
  intro p e s m args below meth c s₁ B hml hv
  obtain ⟨rfl, hsz, hP, hK, hD0, hN⟩ := hv
  have hx := B.exec
  have hb := B.bytes
  have hr := B.returns
  have hts := fun w (h : w ∈ pw) => atoms_spec (ws := Cond.code yX7_keep cX7_keep 2 (some .int) :: pw) B.pre w (List.mem_cons_of_mem _ h)
  have hown : s.vm.findClass RX7 = some m.cls := findClass_of_methodNamed B.named
  have hlocks := B.notSynchronized
  subst hsz
  have hD := hD0.self (sz := s.heap.size)
  generalize hAe : va_A [(h0, .inr (7, [.ref mnw, .ref mhd, .ref mas, .ref mps, .ref msf, .ref mdt, .ref mhdd, .ref masd, .ref mpsd, .ref msfd, .ref mkp, .int 0, .ref mtp, .int 0, .int 0, .int 0, .int 0, .ref mld, .int 0, .ref mmd, .ref men, .ref mil, .ref mqu, .int 0, .int 0, .ref mbx])), (mnw, .inl (kI, 99, .inl (fun _ => 0))), (mdt, .inl (kJ, 640, .inr (.inl (fun _ => 0)))), (msf, .inl (kI5, 198, .inl (fun _ => 0))), (msfd, .inl (kJ5, 1280, .inr (.inl (fun _ => 0)))), (mkp, .inl (kZ, 2, .inl (fun _ => 0)))] s.heap.size = A at hD ⊢
  have hA : ∀ q : Nat, s.heap.size ≤ q → A q := fun q h => by rw [← hAe]; exact Or.inr h
  obtain ⟨H, hHe⟩ : ∃ H : Heap, H = s.heap := ⟨_, rfl⟩
  have hS : va_S A s.heap H [] := by rw [hHe]; exact va_S.rf
  rw [← hHe] at hP
  have hl := lv_entry ([.ref h0, .int p0]) (n := 2) (Nat.le_of_ble_eq_true rfl)
  rw [lg_entry_eq]
  generalize (lg_sl ([.ref h0, .int p0]) ++ List.replicate (2 - (lg_sl ([.ref h0, .int p0])).length) Slot.unset).toArray = ls at hl ⊢
  have hl : lv_has ls 2 [(0, .ref h0), (1, .int p0)] := hl
  rw [← hHe]
  refine lv_iload_n hx hb dX7_keep_0 rfl (lv_at hl 1 rfl) ?_
  refine lv_i2l (v := p0.toInt64) hx hb dX7_keep_1 rfl ?_
  refine lv_lconst (v := 0) hx hb dX7_keep_2 (by decide +kernel) ?_
  refine lv_lconst (v := 1) hx hb dX7_keep_3 (by decide +kernel) ?_
  have hPc := hP.sub (ws' := []) [] rfl
  have hDc := hD.sub (ws' := []) [] (by decide) rfl
  have hKc := hK.sub (tys' := []) [] rfl
  refine ro_i (va_runS (As := [.long p0.toInt64, .long 0, .long 1]) (rest := []) ⟨hx, hb, hml, hown, hts⟩ (c_X7_in l dC dI  H.size p0.toInt64 0 1 ) (va_cwS 3 hts (gS pq1234 pq1235 pq81 pq1236) rfl rfl rfl (by decide +kernel) ⟨(Nat.le_of_ble_eq_true rfl), (Nat.le_of_ble_eq_true rfl)⟩) (pc_S hPc hDc hKc hN) rfl rfl hl.1 rfl (lv_room (Nat.le_of_ble_eq_true rfl)) dX7_keep_4 ⟨(Nat.le_of_ble_eq_true rfl), (Nat.le_of_ble_eq_true rfl)⟩) hS hP (fun r1 H locs hr1 hP hS => ?_)
  refine lv_if_ne (tgt := 12) hx hb dX7_keep_7 (by decide) (fun c2 => ?_) (fun c2 => ?_)
  · rcases two01 (fun q => rng_n hr1 c2 ((wd 0 1 0 1 (by decide +kernel) (by decide +kernel) _).mpr q)) with rfl | rfl
    · refine lv_aload_n hx hb dX7_keep_12 rfl (lv_at hl 0 rfl) ?_
      refine va_get (D := (dC, dI)) (ci := 7) (v := .ref mnw) (C := RX7) (T := TX7) (N := 26) hx hb hts inX7 hown hK hP 0 rfl rfl 0 (by decide) (hts _ pq1115) (fun _ h9 => h9) rfl dX7_keep_13 ?_
      refine lv_aload_n hx hb dX7_keep_16 rfl (lv_at hl 0 rfl) ?_
      refine va_get (D := (dC, dI)) (ci := 7) (v := .ref mdt) (C := RX7) (T := TX7) (N := 26) hx hb hts inX7 hown hK hP 0 rfl rfl 5 (by decide) (hts _ pq1120) (fun _ h9 => h9) rfl dX7_keep_17 ?_
      refine lv_iconst (v := 0) hx hb dX7_keep_20 (by decide +kernel) ?_
      refine lv_aload_n hx hb dX7_keep_21 rfl (lv_at hl 0 rfl) ?_
      refine va_get (D := (dC, dI)) (ci := 7) (v := .ref msf) (C := RX7) (T := TX7) (N := 26) hx hb hts inX7 hown hK hP 0 rfl rfl 4 (by decide) (hts _ pq1119) (fun _ h9 => h9) rfl dX7_keep_22 ?_
      refine lv_aload_n hx hb dX7_keep_25 rfl (lv_at hl 0 rfl) ?_
      refine va_get (D := (dC, dI)) (ci := 7) (v := .ref msfd) (C := RX7) (T := TX7) (N := 26) hx hb hts inX7 hown hK hP 0 rfl rfl 9 (by decide) (hts _ pq1124) (fun _ h9 => h9) rfl dX7_keep_26 ?_
      refine lv_iload_n hx hb dX7_keep_29 rfl (lv_at hl 1 rfl) ?_
      have hPc := hP.sub (ws' := [(mnw, .inl (kI, 99, .inl (fun _ => 0))), (mdt, .inl (kJ, 640, .inr (.inl (fun _ => 0)))), (msf, .inl (kI5, 198, .inl (fun _ => 0))), (msfd, .inl (kJ5, 1280, .inr (.inl (fun _ => 0))))]) [1, 2, 3, 4] rfl
      have hDc := hD.sub (ws' := [(mnw, .inl (kI, 99, .inl (fun _ => 0))), (mdt, .inl (kJ, 640, .inr (.inl (fun _ => 0)))), (msf, .inl (kI5, 198, .inl (fun _ => 0))), (msfd, .inl (kJ5, 1280, .inr (.inl (fun _ => 0))))]) [1, 2, 3, 4] (by decide) rfl
      have hKc := hK.sub (tys' := [(kI, .int), (kJ, .long), (kI5, .int), (kJ5, .long)]) [0, 1, 2, 3] rfl
      have hFc := va_free (wc := [(mnw, .inl (kI, 99, .inl (fun _ => 0))), (mdt, .inl (kJ, 640, .inr (.inl (fun _ => 0)))), (msf, .inl (kI5, 198, .inl (fun _ => 0))), (msfd, .inl (kJ5, 1280, .inr (.inl (fun _ => 0))))]) hD hS hA [1, 2, 3, 4] rfl
      refine va_callv (va_runS (As := [.ref mnw, .ref mdt, .int 0, .ref msf, .ref msfd, .int 0]) (rest := []) ⟨hx, hb, hml, hown, hts⟩ (c_X7_moves_0 l dC dI mnw mdt msf msfd kI kJ kI5 kJ5 H.size 198 1280 ((by decide)) ((by decide))) (va_cwS 6 hts (gS pq1291 pq1292 pq81 pq1293) rfl rfl rfl (by decide +kernel) ⟨(Nat.le_of_ble_eq_true rfl), (Nat.le_of_ble_eq_true rfl)⟩) (pc_S hPc hDc hKc hN) rfl rfl hl.1 rfl (lv_room (Nat.le_of_ble_eq_true rfl)) dX7_keep_30 ⟨(Nat.le_of_ble_eq_true rfl), (Nat.le_of_ble_eq_true rfl)⟩) hS (fun q _ h => hFc q h) hFc (fun u t H1 locs ht hvm hw hB hz1 hk1 hS => ?_)
      obtain ⟨hP1, hK1, hD1⟩ := hB
      rw [ht] at hP1
      have hK1 := va_K.moved hvm.symm hK1
      obtain ⟨hP, hD⟩ := va_join (wr := [(h0, .inr (7, [.ref mnw, .ref mhd, .ref mas, .ref mps, .ref msf, .ref mdt, .ref mhdd, .ref masd, .ref mpsd, .ref msfd, .ref mkp, .int 0, .ref mtp, .int 0, .int 0, .int 0, .int 0, .ref mld, .int 0, .ref mmd, .ref men, .ref mil, .ref mqu, .int 0, .int 0, .ref mbx])), (mkp, .inl (kZ, 2, .inl (fun _ => 0)))]) (w1 := [(mnw, .inl (kI, 99, .inl (fun _ => 0))), (mdt, .inl (kJ, 640, .inr (.inl (fun _ => 0)))), (msf, .inl (kI5, 198, .inl (fun _ => 0))), (msfd, .inl (kJ5, 1280, .inr (.inl (fun _ => 0))))]) hP hD [1, 2, 3, 4] [0, 5] rfl rfl (by decide) (by decide) hk1 hFc hP1 hD1
      generalize H1 = H at hP hS ⊢
      have hP : va_P (dC, dI) vwCl [(h0, .inr (7, [.ref mnw, .ref mhd, .ref mas, .ref mps, .ref msf, .ref mdt, .ref mhdd, .ref masd, .ref mpsd, .ref msfd, .ref mkp, .int 0, .ref mtp, .int 0, .int 0, .int 0, .int 0, .ref mld, .int 0, .ref mmd, .ref men, .ref mil, .ref mqu, .int 0, .int 0, .ref mbx])), (mkp, .inl (kZ, 2, .inl (fun _ => 0))), (mnw, .inl (kI, 99, .inl (fun _ => 0))), (mdt, .inl (kJ, 640, .inr (.inl (fun _ => 0)))), (msf, .inl (kI5, 198, .inl (fun _ => 0))), (msfd, .inl (kJ5, 1280, .inr (.inl (fun _ => 0))))] H := hP
      have hD : va_D A [(h0, .inr (7, [.ref mnw, .ref mhd, .ref mas, .ref mps, .ref msf, .ref mdt, .ref mhdd, .ref masd, .ref mpsd, .ref msfd, .ref mkp, .int 0, .ref mtp, .int 0, .int 0, .int 0, .int 0, .ref mld, .int 0, .ref mmd, .ref men, .ref mil, .ref mqu, .int 0, .int 0, .ref mbx])), (mkp, .inl (kZ, 2, .inl (fun _ => 0))), (mnw, .inl (kI, 99, .inl (fun _ => 0))), (mdt, .inl (kJ, 640, .inr (.inl (fun _ => 0)))), (msf, .inl (kI5, 198, .inl (fun _ => 0))), (msfd, .inl (kJ5, 1280, .inr (.inl (fun _ => 0))))] := hD
      refine lv_aload_n hx hb dX7_keep_33 rfl (lv_at hl 0 rfl) ?_
      refine va_get (D := (dC, dI)) (ci := 7) (v := .ref mkp) (C := RX7) (T := TX7) (N := 26) hx hb hts inX7 hown hK hP 0 rfl rfl 10 (by decide) (hts _ pq1125) (fun _ h9 => h9) rfl dX7_keep_34 ?_
      refine lv_iload_n hx hb dX7_keep_37 rfl (lv_at hl 1 rfl) ?_
      refine lv_iconst (v := 1) hx hb dX7_keep_38 (by decide +kernel) ?_
      refine va_zast hx hb hK hP hD hS 1 4 rfl rfl (in_d (by decide +kernel)) dX7_keep_39 (fun H locs hP hD hS => ?_)
      obtain ⟨f3, hP, hD⟩ : ∃ f3 : Nat → Int32, va_P (dC, dI) vwCl [(h0, .inr (7, [.ref mnw, .ref mhd, .ref mas, .ref mps, .ref msf, .ref mdt, .ref mhdd, .ref masd, .ref mpsd, .ref msfd, .ref mkp, .int 0, .ref mtp, .int 0, .int 0, .int 0, .int 0, .ref mld, .int 0, .ref mmd, .ref men, .ref mil, .ref mqu, .int 0, .int 0, .ref mbx])), (mkp, .inl (kZ, 2, .inl f3)), (mnw, .inl (kI, 99, .inl (fun _ => 0))), (mdt, .inl (kJ, 640, .inr (.inl (fun _ => 0)))), (msf, .inl (kI5, 198, .inl (fun _ => 0))), (msfd, .inl (kJ5, 1280, .inr (.inl (fun _ => 0))))] H ∧ va_D A [(h0, .inr (7, [.ref mnw, .ref mhd, .ref mas, .ref mps, .ref msf, .ref mdt, .ref mhdd, .ref masd, .ref mpsd, .ref msfd, .ref mkp, .int 0, .ref mtp, .int 0, .int 0, .int 0, .int 0, .ref mld, .int 0, .ref mmd, .ref men, .ref mil, .ref mqu, .int 0, .int 0, .ref mbx])), (mkp, .inl (kZ, 2, .inl f3)), (mnw, .inl (kI, 99, .inl (fun _ => 0))), (mdt, .inl (kJ, 640, .inr (.inl (fun _ => 0)))), (msf, .inl (kI5, 198, .inl (fun _ => 0))), (msfd, .inl (kJ5, 1280, .inr (.inl (fun _ => 0))))] := ⟨_, hP, hD⟩
      refine lv_aload_n hx hb dX7_keep_40 rfl (lv_at hl 0 rfl) ?_
      refine va_get (D := (dC, dI)) (ci := 7) (v := .ref mnw) (C := RX7) (T := TX7) (N := 26) hx hb hts inX7 hown hK hP 0 rfl rfl 0 (by decide) (hts _ pq1115) (fun _ h9 => h9) rfl dX7_keep_41 ?_
      refine lv_iconst (v := 1) hx hb dX7_keep_44 (by decide +kernel) ?_
      refine va_iald hx hb hK hP 2 0 rfl rfl (in_d (by decide +kernel)) dX7_keep_45 ?_
      refine lv_topi (fun z4 ez4 => ?_)
      obtain rfl : z4 = 0 := ez4.trans (by decide +kernel)
      exact W.iret (v := 0) hx hb hr (fun t ht hW => ⟨⟨0, (), rfl, (if_neg (fun q => rng_n hr1 c2 ((wd 0 1 0 1 (by decide +kernel) (by decide +kernel) _).mpr q))).symm, trivial⟩, hS.F ht⟩) hS.2.2 dX7_keep_46
    · refine lv_aload_n hx hb dX7_keep_12 rfl (lv_at hl 0 rfl) ?_
      refine va_get (D := (dC, dI)) (ci := 7) (v := .ref mnw) (C := RX7) (T := TX7) (N := 26) hx hb hts inX7 hown hK hP 0 rfl rfl 0 (by decide) (hts _ pq1115) (fun _ h9 => h9) rfl dX7_keep_13 ?_
      refine lv_aload_n hx hb dX7_keep_16 rfl (lv_at hl 0 rfl) ?_
      refine va_get (D := (dC, dI)) (ci := 7) (v := .ref mdt) (C := RX7) (T := TX7) (N := 26) hx hb hts inX7 hown hK hP 0 rfl rfl 5 (by decide) (hts _ pq1120) (fun _ h9 => h9) rfl dX7_keep_17 ?_
      refine lv_iconst (v := 0) hx hb dX7_keep_20 (by decide +kernel) ?_
      refine lv_aload_n hx hb dX7_keep_21 rfl (lv_at hl 0 rfl) ?_
      refine va_get (D := (dC, dI)) (ci := 7) (v := .ref msf) (C := RX7) (T := TX7) (N := 26) hx hb hts inX7 hown hK hP 0 rfl rfl 4 (by decide) (hts _ pq1119) (fun _ h9 => h9) rfl dX7_keep_22 ?_
      refine lv_aload_n hx hb dX7_keep_25 rfl (lv_at hl 0 rfl) ?_
      refine va_get (D := (dC, dI)) (ci := 7) (v := .ref msfd) (C := RX7) (T := TX7) (N := 26) hx hb hts inX7 hown hK hP 0 rfl rfl 9 (by decide) (hts _ pq1124) (fun _ h9 => h9) rfl dX7_keep_26 ?_
      refine lv_iload_n hx hb dX7_keep_29 rfl (lv_at hl 1 rfl) ?_
      have hPc := hP.sub (ws' := [(mnw, .inl (kI, 99, .inl (fun _ => 0))), (mdt, .inl (kJ, 640, .inr (.inl (fun _ => 0)))), (msf, .inl (kI5, 198, .inl (fun _ => 0))), (msfd, .inl (kJ5, 1280, .inr (.inl (fun _ => 0))))]) [1, 2, 3, 4] rfl
      have hDc := hD.sub (ws' := [(mnw, .inl (kI, 99, .inl (fun _ => 0))), (mdt, .inl (kJ, 640, .inr (.inl (fun _ => 0)))), (msf, .inl (kI5, 198, .inl (fun _ => 0))), (msfd, .inl (kJ5, 1280, .inr (.inl (fun _ => 0))))]) [1, 2, 3, 4] (by decide) rfl
      have hKc := hK.sub (tys' := [(kI, .int), (kJ, .long), (kI5, .int), (kJ5, .long)]) [0, 1, 2, 3] rfl
      have hFc := va_free (wc := [(mnw, .inl (kI, 99, .inl (fun _ => 0))), (mdt, .inl (kJ, 640, .inr (.inl (fun _ => 0)))), (msf, .inl (kI5, 198, .inl (fun _ => 0))), (msfd, .inl (kJ5, 1280, .inr (.inl (fun _ => 0))))]) hD hS hA [1, 2, 3, 4] rfl
      refine va_callv (va_runS (As := [.ref mnw, .ref mdt, .int 0, .ref msf, .ref msfd, .int 1]) (rest := []) ⟨hx, hb, hml, hown, hts⟩ (c_X7_moves_1 l dC dI mnw mdt msf msfd kI kJ kI5 kJ5 H.size 198 1280 ((by decide)) ((by decide))) (va_cwS 6 hts (gS pq1291 pq1292 pq81 pq1293) rfl rfl rfl (by decide +kernel) ⟨(Nat.le_of_ble_eq_true rfl), (Nat.le_of_ble_eq_true rfl)⟩) (pc_S hPc hDc hKc hN) rfl rfl hl.1 rfl (lv_room (Nat.le_of_ble_eq_true rfl)) dX7_keep_30 ⟨(Nat.le_of_ble_eq_true rfl), (Nat.le_of_ble_eq_true rfl)⟩) hS (fun q _ h => hFc q h) hFc (fun u t H1 locs ht hvm hw hB hz1 hk1 hS => ?_)
      obtain ⟨hP1, hK1, hD1⟩ := hB
      rw [ht] at hP1
      have hK1 := va_K.moved hvm.symm hK1
      obtain ⟨hP, hD⟩ := va_join (wr := [(h0, .inr (7, [.ref mnw, .ref mhd, .ref mas, .ref mps, .ref msf, .ref mdt, .ref mhdd, .ref masd, .ref mpsd, .ref msfd, .ref mkp, .int 0, .ref mtp, .int 0, .int 0, .int 0, .int 0, .ref mld, .int 0, .ref mmd, .ref men, .ref mil, .ref mqu, .int 0, .int 0, .ref mbx])), (mkp, .inl (kZ, 2, .inl (fun _ => 0)))]) (w1 := [(mnw, .inl (kI, 99, .inl (fun _ => 0))), (mdt, .inl (kJ, 640, .inr (.inl (fun _ => 0)))), (msf, .inl (kI5, 198, .inl (fun _ => 0))), (msfd, .inl (kJ5, 1280, .inr (.inl (fun _ => 0))))]) hP hD [1, 2, 3, 4] [0, 5] rfl rfl (by decide) (by decide) hk1 hFc hP1 hD1
      generalize H1 = H at hP hS ⊢
      have hP : va_P (dC, dI) vwCl [(h0, .inr (7, [.ref mnw, .ref mhd, .ref mas, .ref mps, .ref msf, .ref mdt, .ref mhdd, .ref masd, .ref mpsd, .ref msfd, .ref mkp, .int 0, .ref mtp, .int 0, .int 0, .int 0, .int 0, .ref mld, .int 0, .ref mmd, .ref men, .ref mil, .ref mqu, .int 0, .int 0, .ref mbx])), (mkp, .inl (kZ, 2, .inl (fun _ => 0))), (mnw, .inl (kI, 99, .inl (fun _ => 0))), (mdt, .inl (kJ, 640, .inr (.inl (fun _ => 0)))), (msf, .inl (kI5, 198, .inl (fun _ => 0))), (msfd, .inl (kJ5, 1280, .inr (.inl (fun _ => 0))))] H := hP
      have hD : va_D A [(h0, .inr (7, [.ref mnw, .ref mhd, .ref mas, .ref mps, .ref msf, .ref mdt, .ref mhdd, .ref masd, .ref mpsd, .ref msfd, .ref mkp, .int 0, .ref mtp, .int 0, .int 0, .int 0, .int 0, .ref mld, .int 0, .ref mmd, .ref men, .ref mil, .ref mqu, .int 0, .int 0, .ref mbx])), (mkp, .inl (kZ, 2, .inl (fun _ => 0))), (mnw, .inl (kI, 99, .inl (fun _ => 0))), (mdt, .inl (kJ, 640, .inr (.inl (fun _ => 0)))), (msf, .inl (kI5, 198, .inl (fun _ => 0))), (msfd, .inl (kJ5, 1280, .inr (.inl (fun _ => 0))))] := hD
      refine lv_aload_n hx hb dX7_keep_33 rfl (lv_at hl 0 rfl) ?_
      refine va_get (D := (dC, dI)) (ci := 7) (v := .ref mkp) (C := RX7) (T := TX7) (N := 26) hx hb hts inX7 hown hK hP 0 rfl rfl 10 (by decide) (hts _ pq1125) (fun _ h9 => h9) rfl dX7_keep_34 ?_
      refine lv_iload_n hx hb dX7_keep_37 rfl (lv_at hl 1 rfl) ?_
      refine lv_iconst (v := 1) hx hb dX7_keep_38 (by decide +kernel) ?_
      refine va_zast hx hb hK hP hD hS 1 4 rfl rfl (in_d (by decide +kernel)) dX7_keep_39 (fun H locs hP hD hS => ?_)
      obtain ⟨f5, hP, hD⟩ : ∃ f5 : Nat → Int32, va_P (dC, dI) vwCl [(h0, .inr (7, [.ref mnw, .ref mhd, .ref mas, .ref mps, .ref msf, .ref mdt, .ref mhdd, .ref masd, .ref mpsd, .ref msfd, .ref mkp, .int 0, .ref mtp, .int 0, .int 0, .int 0, .int 0, .ref mld, .int 0, .ref mmd, .ref men, .ref mil, .ref mqu, .int 0, .int 0, .ref mbx])), (mkp, .inl (kZ, 2, .inl f5)), (mnw, .inl (kI, 99, .inl (fun _ => 0))), (mdt, .inl (kJ, 640, .inr (.inl (fun _ => 0)))), (msf, .inl (kI5, 198, .inl (fun _ => 0))), (msfd, .inl (kJ5, 1280, .inr (.inl (fun _ => 0))))] H ∧ va_D A [(h0, .inr (7, [.ref mnw, .ref mhd, .ref mas, .ref mps, .ref msf, .ref mdt, .ref mhdd, .ref masd, .ref mpsd, .ref msfd, .ref mkp, .int 0, .ref mtp, .int 0, .int 0, .int 0, .int 0, .ref mld, .int 0, .ref mmd, .ref men, .ref mil, .ref mqu, .int 0, .int 0, .ref mbx])), (mkp, .inl (kZ, 2, .inl f5)), (mnw, .inl (kI, 99, .inl (fun _ => 0))), (mdt, .inl (kJ, 640, .inr (.inl (fun _ => 0)))), (msf, .inl (kI5, 198, .inl (fun _ => 0))), (msfd, .inl (kJ5, 1280, .inr (.inl (fun _ => 0))))] := ⟨_, hP, hD⟩
      refine lv_aload_n hx hb dX7_keep_40 rfl (lv_at hl 0 rfl) ?_
      refine va_get (D := (dC, dI)) (ci := 7) (v := .ref mnw) (C := RX7) (T := TX7) (N := 26) hx hb hts inX7 hown hK hP 0 rfl rfl 0 (by decide) (hts _ pq1115) (fun _ h9 => h9) rfl dX7_keep_41 ?_
      refine lv_iconst (v := 1) hx hb dX7_keep_44 (by decide +kernel) ?_
      refine va_iald hx hb hK hP 2 0 rfl rfl (in_d (by decide +kernel)) dX7_keep_45 ?_
      refine lv_topi (fun z6 ez6 => ?_)
      obtain rfl : z6 = 0 := ez6.trans (by decide +kernel)
      exact W.iret (v := 0) hx hb hr (fun t ht hW => ⟨⟨0, (), rfl, (if_neg (fun q => rng_n hr1 c2 ((wd 0 1 0 1 (by decide +kernel) (by decide +kernel) _).mpr q))).symm, trivial⟩, hS.F ht⟩) hS.2.2 dX7_keep_46
  · refine lv_iconst (v := (-1)) hx hb dX7_keep_10 (by decide +kernel) ?_
    exact W.iret (v := (-1)) hx hb hr (fun t ht hW => ⟨⟨(-1), (), rfl, (if_pos ((wd 0 1 0 1 (by decide +kernel) (by decide +kernel) _).mp (rng_p hr1 c2))).symm, trivial⟩, hS.F ht⟩) hS.2.2 dX7_keep_11

theorem cl1 : (1 : Int32).toNatClampNeg = 1 := by decide +kernel

set_option maxHeartbeats 4000000 in
set_option maxRecDepth 100000 in
theorem c_X7_laysAll1 (l : Launch) (dC : Nat → ClassId) (dI : Nat → Nat → Nat) (h0 mnw mhd mas mps msf mdt mhdd masd mpsd msfd mkp mtp mld mmd men mil mqu mbx : Nat) (kI : ClassId) (sz : Nat) : Met l yX7_laysAll (.code yX7_laysAll cX7_laysAll 14 none :: pw) ({ frames := 0, cells := 0, slots := 0, locals := 0 }) (pc (dC, dI) [.ref h0] sz [(h0, .inr (7, [.ref mnw, .ref mhd, .ref mas, .ref mps, .ref msf, .ref mdt, .ref mhdd, .ref masd, .ref mpsd, .ref msfd, .ref mkp, .int 1, .ref mtp, .int 0, .int 0, .int 0, .int 0, .ref mld, .int 0, .ref mmd, .ref men, .ref mil, .ref mqu, .int 0, .int 0, .ref mbx])), (mnw, .inl (kI, 99, .inl (fun _ => 0)))] [(kI, .int)]) (va_Qv (fun (_ : Unit) => True) (fun _ _ => True) (fun _ => False)) 0 0 (fun _ => False) := by
  refine Met.ofW (cc := cX7_laysAll) (maxL := 14) (ret := none) (by decide +kernel) rfl ?_
  intro p e s m args below meth c s₁ B hml hv
  obtain ⟨rfl, hsz, hP, hK, hD0, hN⟩ := hv
  have hx := B.exec
  have hb := B.bytes
  have hr := B.returns
  have hts := fun w (h : w ∈ pw) => atoms_spec (ws := Cond.code yX7_laysAll cX7_laysAll 14 none :: pw) B.pre w (List.mem_cons_of_mem _ h)
  have hown : s.vm.findClass RX7 = some m.cls := findClass_of_methodNamed B.named
  have hlocks := B.notSynchronized
  subst hsz
  have hD := hD0
  obtain ⟨H, hHe⟩ : ∃ H : Heap, H = s.heap := ⟨_, rfl⟩
  have hS : va_S (fun _ => False) s.heap H [] := by rw [hHe]; exact va_S.rf
  rw [← hHe] at hP
  have hl := lv_entry ([.ref h0]) (n := 14) (Nat.le_of_ble_eq_true rfl)
  rw [lg_entry_eq]
  generalize (lg_sl ([.ref h0]) ++ List.replicate (14 - (lg_sl ([.ref h0])).length) Slot.unset).toArray = ls at hl ⊢
  have hl : lv_has ls 14 [(0, .ref h0)] := hl
  rw [← hHe]
  refine lv_iconst (v := 0) hx hb dX7_laysAll_0 (by decide +kernel) ?_
  refine lv_istore_n (lv' := [(1, .int 0), (0, .ref h0)]) hx hb dX7_laysAll_1 rfl hl (by decide) rfl (fun ls hl => ?_)
  refine lv_iload_n hx hb dX7_laysAll_2 rfl (lv_at hl 0 rfl) ?_
  refine lv_aload_n hx hb dX7_laysAll_3 rfl (lv_at hl 1 rfl) ?_
  refine va_get (D := (dC, dI)) (ci := 7) (v := .ref mnw) (C := RX7) (T := TX7) (N := 26) hx hb hts inX7 hown hK hP 0 rfl rfl 0 (by decide) (hts _ pq1115) (fun _ h9 => h9) rfl dX7_laysAll_4 ?_
  refine lv_iconst (v := 1) hx hb dX7_laysAll_7 (by decide +kernel) ?_
  refine va_iald hx hb hK hP 1 0 rfl rfl (in_d (by decide +kernel)) dX7_laysAll_8 ?_
  refine lv_topi (fun z1 ez1 => ?_)
  obtain rfl : z1 = 0 := ez1.trans (by decide +kernel)
  refine lv_icmp_ge (tgt := 245) hx hb dX7_laysAll_9 (by decide) (fun c2 => ?_) (fun c2 => absurd (by decide +kernel) c2)
  exact W.vret hx hb hr (fun t ht hW => ⟨⟨(), rfl, trivial, trivial⟩, hS.F ht⟩) hS.2.2 dX7_laysAll_245

set_option maxHeartbeats 4000000 in
set_option maxRecDepth 100000 in
theorem c_X7_ticks (l : Launch) (dC : Nat → ClassId) (dI : Nat → Nat → Nat) (h0 mnw mhd mas mps msf mdt mhdd masd mpsd msfd mkp mtp mld mmd men mil mqu mbx : Nat) (kI kJ kI3 kJ3 kI4 kJ4 : ClassId) (sz : Nat) (p0 : Int32) : Met l yX7_ticks (.code yX7_ticks cX7_ticks 7 (some .int) :: pw) ({ frames := 3, cells := 0, slots := 0, locals := 67 }) (pc (dC, dI) [.ref h0, .int p0] sz [(h0, .inr (7, [.ref mnw, .ref mhd, .ref mas, .ref mps, .ref msf, .ref mdt, .ref mhdd, .ref masd, .ref mpsd, .ref msfd, .ref mkp, .int 0, .ref mtp, .int 0, .int 0, .int 0, .int 0, .ref mld, .int 0, .ref mmd, .ref men, .ref mil, .ref mqu, .int 0, .int 0, .ref mbx])), (mnw, .inl (kI, 99, .inl (fun _ => 0))), (mdt, .inl (kJ, 640, .inr (.inl (fun _ => 0)))), (mas, .inl (kI3, 99, .inl (fun _ => 0))), (masd, .inl (kJ3, 640, .inr (.inl (fun _ => 0)))), (mps, .inl (kI4, 990, .inl (fun _ => 0))), (mpsd, .inl (kJ4, 6400, .inr (.inl (fun _ => 0))))] [(kI, .int), (kJ, .long), (kI3, .int), (kJ3, .long), (kI4, .int), (kJ4, .long)]) (va_Qi (fun (r : Int32) (_ : Unit) => r = if p0 < 1 ∨ 20 < p0 then (-1) else 0) (fun _ _ => True) (va_A [(h0, .inr (7, [.ref mnw, .ref mhd, .ref mas, .ref mps, .ref msf, .ref mdt, .ref mhdd, .ref masd, .ref mpsd, .ref msfd, .ref mkp, .int 0, .ref mtp, .int 0, .int 0, .int 0, .int 0, .ref mld, .int 0, .ref mmd, .ref men, .ref mil, .ref mqu, .int 0, .int 0, .ref mbx])), (mnw, .inl (kI, 99, .inl (fun _ => 0))), (mdt, .inl (kJ, 640, .inr (.inl (fun _ => 0)))), (mas, .inl (kI3, 99, .inl (fun _ => 0))), (masd, .inl (kJ3, 640, .inr (.inl (fun _ => 0)))), (mps, .inl (kI4, 990, .inl (fun _ => 0))), (mpsd, .inl (kJ4, 6400, .inr (.inl (fun _ => 0))))] sz)) 0 0 (va_A [(h0, .inr (7, [.ref mnw, .ref mhd, .ref mas, .ref mps, .ref msf, .ref mdt, .ref mhdd, .ref masd, .ref mpsd, .ref msfd, .ref mkp, .int 0, .ref mtp, .int 0, .int 0, .int 0, .int 0, .ref mld, .int 0, .ref mmd, .ref men, .ref mil, .ref mqu, .int 0, .int 0, .ref mbx])), (mnw, .inl (kI, 99, .inl (fun _ => 0))), (mdt, .inl (kJ, 640, .inr (.inl (fun _ => 0)))), (mas, .inl (kI3, 99, .inl (fun _ => 0))), (masd, .inl (kJ3, 640, .inr (.inl (fun _ => 0)))), (mps, .inl (kI4, 990, .inl (fun _ => 0))), (mpsd, .inl (kJ4, 6400, .inr (.inl (fun _ => 0))))] sz) := by
  refine Met.ofW (cc := cX7_ticks) (maxL := 7) (ret := (some .int)) (by decide +kernel) rfl ?_
  intro p e s m args below meth c s₁ B hml hv
  obtain ⟨rfl, hsz, hP, hK, hD0, hN⟩ := hv
  have hx := B.exec
  have hb := B.bytes
  have hr := B.returns
  have hts := fun w (h : w ∈ pw) => atoms_spec (ws := Cond.code yX7_ticks cX7_ticks 7 (some .int) :: pw) B.pre w (List.mem_cons_of_mem _ h)
  have hown : s.vm.findClass RX7 = some m.cls := findClass_of_methodNamed B.named
  have hlocks := B.notSynchronized
  subst hsz
  have hD := hD0.self (sz := s.heap.size)
  generalize hAe : va_A [(h0, .inr (7, [.ref mnw, .ref mhd, .ref mas, .ref mps, .ref msf, .ref mdt, .ref mhdd, .ref masd, .ref mpsd, .ref msfd, .ref mkp, .int 0, .ref mtp, .int 0, .int 0, .int 0, .int 0, .ref mld, .int 0, .ref mmd, .ref men, .ref mil, .ref mqu, .int 0, .int 0, .ref mbx])), (mnw, .inl (kI, 99, .inl (fun _ => 0))), (mdt, .inl (kJ, 640, .inr (.inl (fun _ => 0)))), (mas, .inl (kI3, 99, .inl (fun _ => 0))), (masd, .inl (kJ3, 640, .inr (.inl (fun _ => 0)))), (mps, .inl (kI4, 990, .inl (fun _ => 0))), (mpsd, .inl (kJ4, 6400, .inr (.inl (fun _ => 0))))] s.heap.size = A at hD ⊢
  have hA : ∀ q : Nat, s.heap.size ≤ q → A q := fun q h => by rw [← hAe]; exact Or.inr h
  obtain ⟨H, hHe⟩ : ∃ H : Heap, H = s.heap := ⟨_, rfl⟩
  have hS : va_S A s.heap H [] := by rw [hHe]; exact va_S.rf
  rw [← hHe] at hP
  have hl := lv_entry ([.ref h0, .int p0]) (n := 7) (Nat.le_of_ble_eq_true rfl)
  rw [lg_entry_eq]
  generalize (lg_sl ([.ref h0, .int p0]) ++ List.replicate (7 - (lg_sl ([.ref h0, .int p0])).length) Slot.unset).toArray = ls at hl ⊢
  have hl : lv_has ls 7 [(0, .ref h0), (1, .int p0)] := hl
  rw [← hHe]
  refine lv_iload_n hx hb dX7_ticks_0 rfl (lv_at hl 1 rfl) ?_
  refine lv_i2l (v := p0.toInt64) hx hb dX7_ticks_1 rfl ?_
  refine lv_lconst (v := 1) hx hb dX7_ticks_2 (by decide +kernel) ?_
  refine lv_ldc2 hx hb hown (hts _ pq1359) dX7_ticks_3 ?_
  have hPc := hP.sub (ws' := []) [] rfl
  have hDc := hD.sub (ws' := []) [] (by decide) rfl
  have hKc := hK.sub (tys' := []) [] rfl
  refine ro_i (va_runS (As := [.long p0.toInt64, .long 1, .long 20]) (rest := []) ⟨hx, hb, hml, hown, hts⟩ (c_X7_in l dC dI  H.size p0.toInt64 1 20 ) (va_cwS 3 hts (gS pq1234 pq1235 pq81 pq1236) rfl rfl rfl (by decide +kernel) ⟨(Nat.le_of_ble_eq_true rfl), (Nat.le_of_ble_eq_true rfl)⟩) (pc_S hPc hDc hKc hN) rfl rfl hl.1 rfl (lv_room (Nat.le_of_ble_eq_true rfl)) dX7_ticks_6 ⟨(Nat.le_of_ble_eq_true rfl), (Nat.le_of_ble_eq_true rfl)⟩) hS hP (fun r1 H locs hr1 hP hS => ?_)
  refine lv_if_ne (tgt := 14) hx hb dX7_ticks_9 (by decide) (fun c2 => ?_) (fun c2 => ?_)
  · obtain ⟨N, hN20, rfl⟩ := nI_of2 (M := 20) (n := 20) (by decide +kernel) (fun h => (fun q => rng_n hr1 c2 ((wd 1 20 1 20 (by decide +kernel) (by decide +kernel) _).mpr q)) (Or.inl (Int32.lt_trans h (by decide +kernel)))) (Int32.not_lt.mp (fun h => (fun q => rng_n hr1 c2 ((wd 1 20 1 20 (by decide +kernel) (by decide +kernel) _).mpr q)) (Or.inr h)))
    refine lv_aload_n hx hb dX7_ticks_14 rfl (lv_at hl 0 rfl) ?_
    have hPc := hP.sub (ws' := [(h0, .inr (7, [.ref mnw, .ref mhd, .ref mas, .ref mps, .ref msf, .ref mdt, .ref mhdd, .ref masd, .ref mpsd, .ref msfd, .ref mkp, .int 0, .ref mtp, .int 0, .int 0, .int 0, .int 0, .ref mld, .int 0, .ref mmd, .ref men, .ref mil, .ref mqu, .int 0, .int 0, .ref mbx])), (mnw, .inl (kI, 99, .inl (fun _ => 0))), (mdt, .inl (kJ, 640, .inr (.inl (fun _ => 0)))), (mas, .inl (kI3, 99, .inl (fun _ => 0))), (masd, .inl (kJ3, 640, .inr (.inl (fun _ => 0)))), (mps, .inl (kI4, 990, .inl (fun _ => 0))), (mpsd, .inl (kJ4, 6400, .inr (.inl (fun _ => 0))))]) [0, 1, 2, 3, 4, 5, 6] rfl
    have hDc := hD.sub (ws' := [(h0, .inr (7, [.ref mnw, .ref mhd, .ref mas, .ref mps, .ref msf, .ref mdt, .ref mhdd, .ref masd, .ref mpsd, .ref msfd, .ref mkp, .int 0, .ref mtp, .int 0, .int 0, .int 0, .int 0, .ref mld, .int 0, .ref mmd, .ref men, .ref mil, .ref mqu, .int 0, .int 0, .ref mbx])), (mnw, .inl (kI, 99, .inl (fun _ => 0))), (mdt, .inl (kJ, 640, .inr (.inl (fun _ => 0)))), (mas, .inl (kI3, 99, .inl (fun _ => 0))), (masd, .inl (kJ3, 640, .inr (.inl (fun _ => 0)))), (mps, .inl (kI4, 990, .inl (fun _ => 0))), (mpsd, .inl (kJ4, 6400, .inr (.inl (fun _ => 0))))]) [0, 1, 2, 3, 4, 5, 6] (by decide) rfl
    have hKc := hK.sub (tys' := [(kI, .int), (kJ, .long), (kI3, .int), (kJ3, .long), (kI4, .int), (kJ4, .long)]) [0, 1, 2, 3, 4, 5] rfl
    have hFc := va_free (wc := [(h0, .inr (7, [.ref mnw, .ref mhd, .ref mas, .ref mps, .ref msf, .ref mdt, .ref mhdd, .ref masd, .ref mpsd, .ref msfd, .ref mkp, .int 0, .ref mtp, .int 0, .int 0, .int 0, .int 0, .ref mld, .int 0, .ref mmd, .ref men, .ref mil, .ref mqu, .int 0, .int 0, .ref mbx])), (mnw, .inl (kI, 99, .inl (fun _ => 0))), (mdt, .inl (kJ, 640, .inr (.inl (fun _ => 0)))), (mas, .inl (kI3, 99, .inl (fun _ => 0))), (masd, .inl (kJ3, 640, .inr (.inl (fun _ => 0)))), (mps, .inl (kI4, 990, .inl (fun _ => 0))), (mpsd, .inl (kJ4, 6400, .inr (.inl (fun _ => 0))))]) hD hS hA [0, 1, 2, 3, 4, 5, 6] rfl
    refine va_callv (va_runV (As := []) (rest := []) ⟨hx, hb, hml, hown, hts⟩ (c_X7_keepsPast l dC dI h0 mnw mhd mas mps msf mdt mhdd masd mpsd msfd mkp mtp mld mmd men mil mqu mbx kI kJ kI3 kJ3 kI4 kJ4 H.size  ) (cwV 0 hts (gV pq1324 pq1326 pq26 pq81 pq1327) rfl rfl rfl (by decide +kernel) ⟨(Nat.le_of_ble_eq_true rfl), (Nat.le_of_ble_eq_true rfl)⟩) (pc_V hPc hDc hKc hN (va_recv hK hP (ci := 7) (q0 := 0) rfl rfl)) rfl rfl hl.1 rfl (lv_room (Nat.le_of_ble_eq_true rfl)) dX7_ticks_15 ⟨(Nat.le_of_ble_eq_true rfl), (Nat.le_of_ble_eq_true rfl)⟩) hS (fun q _ h => hFc q h) hFc (fun u t H1 locs ht hvm hw hB hz1 hk1 hS => ?_)
    obtain ⟨hP1, hK1, hD1⟩ := hB
    rw [ht] at hP1
    have hK1 := va_K.moved hvm.symm hK1
    obtain ⟨hP, hD⟩ := va_join (wr := []) (w1 := [(h0, .inr (7, [.ref mnw, .ref mhd, .ref mas, .ref mps, .ref msf, .ref mdt, .ref mhdd, .ref masd, .ref mpsd, .ref msfd, .ref mkp, .int 1, .ref mtp, .int 0, .int 0, .int 0, .int 0, .ref mld, .int 0, .ref mmd, .ref men, .ref mil, .ref mqu, .int 0, .int 0, .ref mbx])), (mnw, .inl (kI, 99, .inl (fun _ => 0)))]) hP hD [0, 1, 2, 3, 4, 5, 6] [] rfl rfl (by decide) (by decide) hk1 hFc hP1 hD1
    generalize H1 = H at hP hS ⊢
    have hP : va_P (dC, dI) vwCl [(h0, .inr (7, [.ref mnw, .ref mhd, .ref mas, .ref mps, .ref msf, .ref mdt, .ref mhdd, .ref masd, .ref mpsd, .ref msfd, .ref mkp, .int 1, .ref mtp, .int 0, .int 0, .int 0, .int 0, .ref mld, .int 0, .ref mmd, .ref men, .ref mil, .ref mqu, .int 0, .int 0, .ref mbx])), (mnw, .inl (kI, 99, .inl (fun _ => 0)))] H := hP
    have hD : va_D A [(h0, .inr (7, [.ref mnw, .ref mhd, .ref mas, .ref mps, .ref msf, .ref mdt, .ref mhdd, .ref masd, .ref mpsd, .ref msfd, .ref mkp, .int 1, .ref mtp, .int 0, .int 0, .int 0, .int 0, .ref mld, .int 0, .ref mmd, .ref men, .ref mil, .ref mqu, .int 0, .int 0, .ref mbx])), (mnw, .inl (kI, 99, .inl (fun _ => 0)))] := hD
    refine lv_aload_n hx hb dX7_ticks_18 rfl (lv_at hl 0 rfl) ?_
    have hPc := hP.sub (ws' := [(h0, .inr (7, [.ref mnw, .ref mhd, .ref mas, .ref mps, .ref msf, .ref mdt, .ref mhdd, .ref masd, .ref mpsd, .ref msfd, .ref mkp, .int 1, .ref mtp, .int 0, .int 0, .int 0, .int 0, .ref mld, .int 0, .ref mmd, .ref men, .ref mil, .ref mqu, .int 0, .int 0, .ref mbx])), (mnw, .inl (kI, 99, .inl (fun _ => 0)))]) [0, 1] rfl
    have hDc := hD.sub (ws' := [(h0, .inr (7, [.ref mnw, .ref mhd, .ref mas, .ref mps, .ref msf, .ref mdt, .ref mhdd, .ref masd, .ref mpsd, .ref msfd, .ref mkp, .int 1, .ref mtp, .int 0, .int 0, .int 0, .int 0, .ref mld, .int 0, .ref mmd, .ref men, .ref mil, .ref mqu, .int 0, .int 0, .ref mbx])), (mnw, .inl (kI, 99, .inl (fun _ => 0)))]) [0, 1] (by decide) rfl
    have hKc := hK.sub (tys' := [(kI, .int)]) [0] rfl
    refine ro_v (va_runV (As := []) (rest := []) ⟨hx, hb, hml, hown, hts⟩ (c_X7_laysAll1 l dC dI h0 mnw mhd mas mps msf mdt mhdd masd mpsd msfd mkp mtp mld mmd men mil mqu mbx kI H.size  ) (cwV 0 hts (gV pq1427 pq1429 pq40 pq81 pq1430) rfl rfl rfl (by decide +kernel) ⟨(Nat.le_of_ble_eq_true rfl), (Nat.le_of_ble_eq_true rfl)⟩) (pc_V hPc hDc hKc hN (va_recv hK hP (ci := 7) (q0 := 0) rfl rfl)) rfl rfl hl.1 rfl (lv_room (Nat.le_of_ble_eq_true rfl)) dX7_ticks_19 ⟨(Nat.le_of_ble_eq_true rfl), (Nat.le_of_ble_eq_true rfl)⟩) hS hP (fun H locs hP hS => ?_)
    refine lv_iconst (v := 0) hx hb dX7_ticks_22 (by decide +kernel) ?_
    refine lv_istore_n (lv' := [(2, .int 0), (0, .ref h0), (1, .int (nI N))]) hx hb dX7_ticks_23 rfl hl (by decide) rfl (fun ls hl => ?_)
    refine lv_iconst (v := 0) hx hb dX7_ticks_24 (by decide +kernel) ?_
    refine lv_istore_n (lv' := [(3, .int 0), (2, .int 0), (0, .ref h0), (1, .int (nI N))]) hx hb dX7_ticks_25 rfl hl (by decide) rfl (fun ls hl => ?_)
    refine namedW (fun R Q hR hQ => ?_)
    refine loopW (α := Nat) (I := fun j ls H lo => j ≤ N ∧ ∃ fr : Nat → Int32, fr 1 = 0 ∧ va_P (dC, dI) vwCl [(h0, .inr (7, [.ref mnw, .ref mhd, .ref mas, .ref mps, .ref msf, .ref mdt, .ref mhdd, .ref masd, .ref mpsd, .ref msfd, .ref mkp, .int 1, .ref mtp, .int 0, .int 0, .int 0, .int 0, .ref mld, .int 0, .ref mmd, .ref men, .ref mil, .ref mqu, .int 0, .int 0, .ref mbx])), (mnw, .inl (kI, 99, .inl fr))] H ∧ va_D A [(h0, .inr (7, [.ref mnw, .ref mhd, .ref mas, .ref mps, .ref msf, .ref mdt, .ref mhdd, .ref masd, .ref mpsd, .ref msfd, .ref mkp, .int 1, .ref mtp, .int 0, .int 0, .int 0, .int 0, .ref mld, .int 0, .ref mmd, .ref men, .ref mil, .ref mqu, .int 0, .int 0, .ref mbx])), (mnw, .inl (kI, 99, .inl fr))] ∧ va_S A s.heap H lo ∧ lv_has ls 7 [(3, .int (nI j)), (2, .int 0), (0, .ref h0), (1, .int (nI N))]) (G := fun j ls H lo => W p l e R s m (([.ref h0, .int (nI N)] : List Value).toArray) below meth c H lo 0 0 Q (F0 m 26 ls [])) (mu := fun j => N - j) ?_ 0 ls H _ ⟨Nat.zero_le _, (fun _ => 0), rfl, hP, hD, hS, hl⟩
    intro j ls H locs hI ihj
    subst hR; subst hQ
    obtain ⟨hjj, fr, hfr, hP, hD, hS, hl⟩ := hI
    have hl : lv_has ls 7 [(3, .int (nI j)), (2, .int 0), (0, .ref h0), (1, .int (nI N))] := hl
    refine lv_iload_n hx hb dX7_ticks_26 rfl (lv_at hl 0 rfl) ?_
    refine lv_iload_n hx hb dX7_ticks_27 rfl (lv_at hl 3 rfl) ?_
    refine lv_icmp_ge (tgt := 135) hx hb dX7_ticks_28 (by decide) (fun c3 => ?_) (fun c3 => ?_)
    · refine lv_iload_n hx hb dX7_ticks_135 rfl (lv_at hl 1 rfl) ?_
      exact W.iret (v := 0) hx hb hr (fun t ht hW => ⟨⟨0, (), rfl, (if_neg (fun q => rng_n hr1 c2 ((wd 1 20 1 20 (by decide +kernel) (by decide +kernel) _).mpr q))).symm, trivial⟩, hS.F ht⟩) hS.2.2 dX7_ticks_136
    · refine lv_iconst (v := 0) hx hb dX7_ticks_31 (by decide +kernel) ?_
      refine lv_istore (lv' := [(4, .int 0), (3, .int (nI j)), (2, .int 0), (0, .ref h0), (1, .int (nI N))]) hx hb dX7_ticks_32 hl (by decide) rfl (fun ls hl => ?_)
      refine lv_iload hx hb dX7_ticks_34 (lv_at hl 0 rfl) ?_
      refine lv_aload_n hx hb dX7_ticks_36 rfl (lv_at hl 3 rfl) ?_
      refine va_get (D := (dC, dI)) (ci := 7) (v := .ref mnw) (C := RX7) (T := TX7) (N := 26) hx hb hts inX7 hown hK hP 0 rfl rfl 0 (by decide) (hts _ pq1115) (fun _ h9 => h9) rfl dX7_ticks_37 ?_
      refine lv_iconst (v := 1) hx hb dX7_ticks_40 (by decide +kernel) ?_
      refine va_iald hx hb hK hP 1 0 rfl rfl (in_d (by decide +kernel)) dX7_ticks_41 ?_
      refine lv_topi (fun z4 ez4 => ?_)
      obtain rfl : z4 = 0 := ez4.trans (by rw [cl1]; exact hfr)
      refine lv_icmp_ge (tgt := 119) hx hb dX7_ticks_42 (by decide) (fun c5 => ?_) (fun c5 => absurd (by decide +kernel) c5)
      refine lv_aload_n hx hb dX7_ticks_119 rfl (lv_at hl 3 rfl) ?_
      refine va_get (D := (dC, dI)) (ci := 7) (v := .ref mnw) (C := RX7) (T := TX7) (N := 26) hx hb hts inX7 hown hK hP 0 rfl rfl 0 (by decide) (hts _ pq1115) (fun _ h9 => h9) rfl dX7_ticks_120 ?_
      refine lv_iconst (v := 2) hx hb dX7_ticks_123 (by decide +kernel) ?_
      refine lv_dup2_11 hx hb dX7_ticks_124 rfl rfl ?_
      refine va_iald hx hb hK hP 1 0 rfl rfl (in_d (by decide +kernel)) dX7_ticks_125 ?_
      refine lv_topi (fun z6 ez6 => ?_)
      refine lv_iconst (v := 1) hx hb dX7_ticks_126 (by decide +kernel) ?_
      refine lv_iadd hx hb dX7_ticks_127 ?_
      refine lv_topi (fun z7 ez7 => ?_)
      refine va_iast hx hb hK hP hD hS 1 0 rfl rfl (in_d (by decide +kernel)) dX7_ticks_128 (fun H locs hP hD hS => ?_)
      obtain ⟨f8, hP, hD, hf8⟩ : ∃ f8 : Nat → Int32, va_P (dC, dI) vwCl [(h0, .inr (7, [.ref mnw, .ref mhd, .ref mas, .ref mps, .ref msf, .ref mdt, .ref mhdd, .ref masd, .ref mpsd, .ref msfd, .ref mkp, .int 1, .ref mtp, .int 0, .int 0, .int 0, .int 0, .ref mld, .int 0, .ref mmd, .ref men, .ref mil, .ref mqu, .int 0, .int 0, .ref mbx])), (mnw, .inl (kI, 99, .inl f8))] H ∧ va_D A [(h0, .inr (7, [.ref mnw, .ref mhd, .ref mas, .ref mps, .ref msf, .ref mdt, .ref mhdd, .ref masd, .ref mpsd, .ref msfd, .ref mkp, .int 1, .ref mtp, .int 0, .int 0, .int 0, .int 0, .ref mld, .int 0, .ref mmd, .ref men, .ref mil, .ref mqu, .int 0, .int 0, .ref mbx])), (mnw, .inl (kI, 99, .inl f8))] ∧ f8 1 = 0 := ⟨_, hP, hD, (pk_un (by decide +kernel)).trans hfr⟩
      obtain ⟨z9, ez9⟩ : ∃ y : Int32, y = nI j + 1 := ⟨_, rfl⟩
      refine lv_iinc (v := z9) (lv' := [(3, .int z9), (4, .int 0), (2, .int 0), (0, .ref h0), (1, .int (nI N))]) hx hb dX7_ticks_129 hl (k := 1) rfl (by rw [ez9]; rfl) (by decide) rfl (fun ls hl => ?_)
      refine lv_goto (tgt := 26) hx hb dX7_ticks_132 (by decide) ?_
      have hlt : j < N := nI_ltb (n := N) (by omega) c3
      obtain rfl : z9 = nI (j + 1) := ez9.trans (nI_1 j)
      exact ihj (j + 1) _ _ _ ⟨by omega, f8, hf8, hP, hD, hS, lv_sub hl [0, 2, 3, 4] rfl⟩ (by omega)
  · refine lv_iconst (v := (-1)) hx hb dX7_ticks_12 (by decide +kernel) ?_
    exact W.iret (v := (-1)) hx hb hr (fun t ht hW => ⟨⟨(-1), (), rfl, (if_pos ((wd 1 20 1 20 (by decide +kernel) (by decide +kernel) _).mp (rng_p hr1 c2))).symm, trivial⟩, hS.F ht⟩) hS.2.2 dX7_ticks_13
