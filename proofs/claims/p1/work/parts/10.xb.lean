abbrev cX6_alike : ByteArray := prog_1_method_41_code
abbrev cX6_apart : ByteArray := prog_1_method_53_code
abbrev cX6_best : ByteArray := prog_1_method_54_code
abbrev cX6_dense : ByteArray := prog_1_method_36_code
abbrev cX6_dots : ByteArray := prog_1_method_37_code
abbrev cX6_first : ByteArray := prog_1_method_50_code
abbrev cX6_gap : ByteArray := prog_1_method_52_code
abbrev cX6_island : ByteArray := prog_1_method_32_code
abbrev cX6_letter : ByteArray := prog_1_method_35_code
abbrev cX6_like : ByteArray := prog_1_method_34_code
abbrev cX6_reach : ByteArray := prog_1_method_51_code
abbrev cX6_seen : ByteArray := prog_1_method_57_code
abbrev cX6_share : ByteArray := prog_1_method_39_code
abbrev cX6_shifts : ByteArray := prog_1_method_33_code
abbrev cX6_slope : ByteArray := prog_1_method_55_code
abbrev cX6_spread : ByteArray := prog_1_method_38_code
abbrev cX6_touching : ByteArray := prog_1_method_48_code
def yX6_alike : MethodName := ⟨RX6, "alike", "(III)I"⟩
def yX6_apart : MethodName := ⟨RX6, "apart", "(III)I"⟩
def yX6_best : MethodName := ⟨RX6, "best", "(III)I"⟩
def yX6_dense : MethodName := ⟨RX6, "dense", "(IIII)I"⟩
def yX6_dots : MethodName := ⟨RX6, "dots", "(IZI)I"⟩
def yX6_first : MethodName := ⟨RX6, "first", "(III)I"⟩
def yX6_gap : MethodName := ⟨RX6, "gap", "(III)I"⟩
def yX6_island : MethodName := ⟨RX6, "island", "(III)I"⟩
def yX6_letter : MethodName := ⟨RX6, "letter", "(II)I"⟩
def yX6_like : MethodName := ⟨RX6, "like", "(I)I"⟩
def yX6_reach : MethodName := ⟨RX6, "reach", "(IIII)I"⟩
def yX6_seen : MethodName := ⟨RX6, "seen", "(II)I"⟩
def yX6_share : MethodName := ⟨RX6, "share", "(I)J"⟩
def yX6_shifts : MethodName := ⟨RX6, "shifts", "(II)I"⟩
def yX6_slope : MethodName := ⟨RX6, "slope", "(III)I"⟩
def yX6_spread : MethodName := ⟨RX6, "spread", "(II)I"⟩
def yX6_touching : MethodName := ⟨RX6, "touching", "(I)I"⟩
theorem dX6_alike_0 : decode cX6_alike 0 = .ok (.aload_n 0, 1) := by decide +kernel
theorem dX6_alike_1 : decode cX6_alike 1 = .ok (.iload_n 1, 1) := by decide +kernel
theorem dX6_alike_2 : decode cX6_alike 2 = .ok (.invokevirtual 130, 3) := by decide +kernel
theorem dX6_alike_5 : decode cX6_alike 5 = .ok (.ifCond .eq 19, 3) := by decide +kernel
theorem dX6_alike_24 : decode cX6_alike 24 = .ok (.iconst (-1), 1) := by decide +kernel
theorem dX6_alike_25 : decode cX6_alike 25 = .ok (.ireturn, 1) := by decide +kernel
theorem dX6_apart_0 : decode cX6_apart 0 = .ok (.aload_n 0, 1) := by decide +kernel
theorem dX6_apart_1 : decode cX6_apart 1 = .ok (.iload_n 1, 1) := by decide +kernel
theorem dX6_apart_2 : decode cX6_apart 2 = .ok (.iload_n 2, 1) := by decide +kernel
theorem dX6_apart_3 : decode cX6_apart 3 = .ok (.invokevirtual 303, 3) := by decide +kernel
theorem dX6_apart_6 : decode cX6_apart 6 = .ok (.ifCond .eq 11, 3) := by decide +kernel
theorem dX6_apart_17 : decode cX6_apart 17 = .ok (.sipush (-2000), 3) := by decide +kernel
theorem dX6_apart_20 : decode cX6_apart 20 = .ok (.ireturn, 1) := by decide +kernel
theorem dX6_best_0 : decode cX6_best 0 = .ok (.aload_n 0, 1) := by decide +kernel
theorem dX6_best_1 : decode cX6_best 1 = .ok (.iload_n 1, 1) := by decide +kernel
theorem dX6_best_2 : decode cX6_best 2 = .ok (.iload_n 2, 1) := by decide +kernel
theorem dX6_best_3 : decode cX6_best 3 = .ok (.invokevirtual 303, 3) := by decide +kernel
theorem dX6_best_6 : decode cX6_best 6 = .ok (.ifCond .eq 11, 3) := by decide +kernel
theorem dX6_best_17 : decode cX6_best 17 = .ok (.sipush (-2000), 3) := by decide +kernel
theorem dX6_best_20 : decode cX6_best 20 = .ok (.ireturn, 1) := by decide +kernel
theorem dX6_dense_0 : decode cX6_dense 0 = .ok (.aload_n 0, 1) := by decide +kernel
theorem dX6_dense_1 : decode cX6_dense 1 = .ok (.iload_n 1, 1) := by decide +kernel
theorem dX6_dense_2 : decode cX6_dense 2 = .ok (.invokevirtual 130, 3) := by decide +kernel
theorem dX6_dense_5 : decode cX6_dense 5 = .ok (.ifCond .eq 12, 3) := by decide +kernel
theorem dX6_dense_17 : decode cX6_dense 17 = .ok (.iconst (-1), 1) := by decide +kernel
theorem dX6_dense_18 : decode cX6_dense 18 = .ok (.ireturn, 1) := by decide +kernel
theorem dX6_dots_0 : decode cX6_dots 0 = .ok (.aload_n 0, 1) := by decide +kernel
theorem dX6_dots_1 : decode cX6_dots 1 = .ok (.iload_n 1, 1) := by decide +kernel
theorem dX6_dots_2 : decode cX6_dots 2 = .ok (.invokevirtual 130, 3) := by decide +kernel
theorem dX6_dots_5 : decode cX6_dots 5 = .ok (.ifCond .eq 7, 3) := by decide +kernel
theorem dX6_dots_12 : decode cX6_dots 12 = .ok (.iconst (-1), 1) := by decide +kernel
theorem dX6_dots_13 : decode cX6_dots 13 = .ok (.ireturn, 1) := by decide +kernel
theorem dX6_first_0 : decode cX6_first 0 = .ok (.aload_n 0, 1) := by decide +kernel
theorem dX6_first_1 : decode cX6_first 1 = .ok (.iload_n 1, 1) := by decide +kernel
theorem dX6_first_2 : decode cX6_first 2 = .ok (.iload_n 2, 1) := by decide +kernel
theorem dX6_first_3 : decode cX6_first 3 = .ok (.invokevirtual 303, 3) := by decide +kernel
theorem dX6_first_6 : decode cX6_first 6 = .ok (.ifCond .eq 13, 3) := by decide +kernel
theorem dX6_first_19 : decode cX6_first 19 = .ok (.iconst (-1), 1) := by decide +kernel
theorem dX6_first_20 : decode cX6_first 20 = .ok (.ireturn, 1) := by decide +kernel
theorem dX6_gap_0 : decode cX6_gap 0 = .ok (.aload_n 0, 1) := by decide +kernel
theorem dX6_gap_1 : decode cX6_gap 1 = .ok (.iload_n 1, 1) := by decide +kernel
theorem dX6_gap_2 : decode cX6_gap 2 = .ok (.iload_n 2, 1) := by decide +kernel
theorem dX6_gap_3 : decode cX6_gap 3 = .ok (.invokevirtual 303, 3) := by decide +kernel
theorem dX6_gap_6 : decode cX6_gap 6 = .ok (.ifCond .ne 5, 3) := by decide +kernel
theorem dX6_gap_9 : decode cX6_gap 9 = .ok (.iconst (-1), 1) := by decide +kernel
theorem dX6_gap_10 : decode cX6_gap 10 = .ok (.ireturn, 1) := by decide +kernel
theorem dX6_island_0 : decode cX6_island 0 = .ok (.aload_n 0, 1) := by decide +kernel
theorem dX6_island_1 : decode cX6_island 1 = .ok (.iload_n 1, 1) := by decide +kernel
theorem dX6_island_2 : decode cX6_island 2 = .ok (.invokevirtual 130, 3) := by decide +kernel
theorem dX6_island_5 : decode cX6_island 5 = .ok (.ifCond .eq 16, 3) := by decide +kernel
theorem dX6_island_21 : decode cX6_island 21 = .ok (.iconst (-1), 1) := by decide +kernel
theorem dX6_island_22 : decode cX6_island 22 = .ok (.ireturn, 1) := by decide +kernel
theorem dX6_letter_0 : decode cX6_letter 0 = .ok (.aload_n 0, 1) := by decide +kernel
theorem dX6_letter_1 : decode cX6_letter 1 = .ok (.iload_n 1, 1) := by decide +kernel
theorem dX6_letter_2 : decode cX6_letter 2 = .ok (.invokevirtual 130, 3) := by decide +kernel
theorem dX6_letter_5 : decode cX6_letter 5 = .ok (.ifCond .eq 8, 3) := by decide +kernel
theorem dX6_letter_13 : decode cX6_letter 13 = .ok (.iconst (-1), 1) := by decide +kernel
theorem dX6_letter_14 : decode cX6_letter 14 = .ok (.ireturn, 1) := by decide +kernel
theorem dX6_like_0 : decode cX6_like 0 = .ok (.aload_n 0, 1) := by decide +kernel
theorem dX6_like_1 : decode cX6_like 1 = .ok (.iload_n 1, 1) := by decide +kernel
theorem dX6_like_2 : decode cX6_like 2 = .ok (.invokevirtual 130, 3) := by decide +kernel
theorem dX6_like_5 : decode cX6_like 5 = .ok (.ifCond .ne 5, 3) := by decide +kernel
theorem dX6_like_8 : decode cX6_like 8 = .ok (.iconst (-1), 1) := by decide +kernel
theorem dX6_like_9 : decode cX6_like 9 = .ok (.ireturn, 1) := by decide +kernel
theorem dX6_reach_0 : decode cX6_reach 0 = .ok (.aload_n 0, 1) := by decide +kernel
theorem dX6_reach_1 : decode cX6_reach 1 = .ok (.iload_n 1, 1) := by decide +kernel
theorem dX6_reach_2 : decode cX6_reach 2 = .ok (.invokevirtual 86, 3) := by decide +kernel
theorem dX6_reach_5 : decode cX6_reach 5 = .ok (.ifCond .eq 32, 3) := by decide +kernel
theorem dX6_reach_37 : decode cX6_reach 37 = .ok (.iconst (-1), 1) := by decide +kernel
theorem dX6_reach_38 : decode cX6_reach 38 = .ok (.ireturn, 1) := by decide +kernel
theorem dX6_seen_0 : decode cX6_seen 0 = .ok (.aload_n 0, 1) := by decide +kernel
theorem dX6_seen_1 : decode cX6_seen 1 = .ok (.iload_n 1, 1) := by decide +kernel
theorem dX6_seen_2 : decode cX6_seen 2 = .ok (.iload_n 2, 1) := by decide +kernel
theorem dX6_seen_3 : decode cX6_seen 3 = .ok (.invokevirtual 303, 3) := by decide +kernel
theorem dX6_seen_6 : decode cX6_seen 6 = .ok (.ifCond .eq 25, 3) := by decide +kernel
theorem dX6_seen_31 : decode cX6_seen 31 = .ok (.iconst (-1), 1) := by decide +kernel
theorem dX6_seen_32 : decode cX6_seen 32 = .ok (.ireturn, 1) := by decide +kernel
theorem dX6_share_0 : decode cX6_share 0 = .ok (.aload_n 0, 1) := by decide +kernel
theorem dX6_share_1 : decode cX6_share 1 = .ok (.iload_n 1, 1) := by decide +kernel
theorem dX6_share_2 : decode cX6_share 2 = .ok (.invokevirtual 130, 3) := by decide +kernel
theorem dX6_share_5 : decode cX6_share 5 = .ok (.ifCond .ne 7, 3) := by decide +kernel
theorem dX6_share_8 : decode cX6_share 8 = .ok (.ldc2_w 291, 3) := by decide +kernel
theorem dX6_share_11 : decode cX6_share 11 = .ok (.lreturn, 1) := by decide +kernel
theorem dX6_shifts_0 : decode cX6_shifts 0 = .ok (.aload_n 0, 1) := by decide +kernel
theorem dX6_shifts_1 : decode cX6_shifts 1 = .ok (.iload_n 1, 1) := by decide +kernel
theorem dX6_shifts_2 : decode cX6_shifts 2 = .ok (.invokevirtual 130, 3) := by decide +kernel
theorem dX6_shifts_5 : decode cX6_shifts 5 = .ok (.ifCond .eq 11, 3) := by decide +kernel
theorem dX6_shifts_16 : decode cX6_shifts 16 = .ok (.iconst (-1), 1) := by decide +kernel
theorem dX6_shifts_17 : decode cX6_shifts 17 = .ok (.ireturn, 1) := by decide +kernel
theorem dX6_slope_0 : decode cX6_slope 0 = .ok (.aload_n 0, 1) := by decide +kernel
theorem dX6_slope_1 : decode cX6_slope 1 = .ok (.iload_n 1, 1) := by decide +kernel
theorem dX6_slope_2 : decode cX6_slope 2 = .ok (.iload_n 2, 1) := by decide +kernel
theorem dX6_slope_3 : decode cX6_slope 3 = .ok (.invokevirtual 303, 3) := by decide +kernel
theorem dX6_slope_6 : decode cX6_slope 6 = .ok (.ifCond .eq 11, 3) := by decide +kernel
theorem dX6_slope_17 : decode cX6_slope 17 = .ok (.ldc_w 350, 3) := by decide +kernel
theorem dX6_slope_20 : decode cX6_slope 20 = .ok (.ireturn, 1) := by decide +kernel
theorem dX6_spread_0 : decode cX6_spread 0 = .ok (.aload_n 0, 1) := by decide +kernel
theorem dX6_spread_1 : decode cX6_spread 1 = .ok (.iload_n 1, 1) := by decide +kernel
theorem dX6_spread_2 : decode cX6_spread 2 = .ok (.invokevirtual 130, 3) := by decide +kernel
theorem dX6_spread_5 : decode cX6_spread 5 = .ok (.ifCond .ne 5, 3) := by decide +kernel
theorem dX6_spread_8 : decode cX6_spread 8 = .ok (.iconst (-1), 1) := by decide +kernel
theorem dX6_spread_9 : decode cX6_spread 9 = .ok (.ireturn, 1) := by decide +kernel
theorem dX6_touching_0 : decode cX6_touching 0 = .ok (.aload_n 0, 1) := by decide +kernel
theorem dX6_touching_1 : decode cX6_touching 1 = .ok (.iload_n 1, 1) := by decide +kernel
theorem dX6_touching_2 : decode cX6_touching 2 = .ok (.invokevirtual 86, 3) := by decide +kernel
theorem dX6_touching_5 : decode cX6_touching 5 = .ok (.ifCond .ne 5, 3) := by decide +kernel
theorem dX6_touching_8 : decode cX6_touching 8 = .ok (.iconst (-1), 1) := by decide +kernel
theorem dX6_touching_9 : decode cX6_touching 9 = .ok (.ireturn, 1) := by decide +kernel
set_option maxRecDepth 100000 in
theorem pq949 : Cond.constantLong RX6 291 (-1) ∈ pw := pw_mem (i := 949) (by decide +kernel) rfl
set_option maxRecDepth 100000 in
theorem pq1068 : Cond.constant RX6 350 (-2000000) ∈ pw := pw_mem (i := 1068) (by decide +kernel) rfl
set_option maxHeartbeats 4000000 in
set_option maxRecDepth 100000 in
theorem c_X6_touching (l : Launch) (dC : Nat → ClassId) (dI : Nat → Nat → Nat) (h0 tp nw dr rd sc sk fl ps sh nm nb : Nat) (sz : Nat) (p0 : Int32) : Met l yX6_touching (.code yX6_touching cX6_touching 4 (some .int) :: pw) ({ frames := 1, cells := 0, slots := 0, locals := 21 }) (pc (dC, dI) [.ref h0, .int p0] sz [(h0, .inr (6, [.ref tp, .int 0, .ref nw, .ref dr, .ref rd, .ref sc, .ref sk, .ref fl, .ref ps, .int 0, .int 0, .ref sh])), (nw, .inr (1, [.ref nm, .ref nb, .int 0, .int 0, .int 0]))] []) (va_Qi (fun (r : Int32) (_ : Unit) => r = (-1)) (fun _ _ => True) (fun _ => False)) 0 0 (fun _ => False) := by
  refine Met.ofW (cc := cX6_touching) (maxL := 4) (ret := (some .int)) (by decide +kernel) rfl ?_
  intro p e s m args below meth c s₁ B hml hv
  obtain ⟨rfl, hsz, hP, hK, hD0, hN⟩ := hv
  have hx := B.exec
  have hb := B.bytes
  have hr := B.returns
  have hts := fun w (h : w ∈ pw) => atoms_spec (ws := Cond.code yX6_touching cX6_touching 4 (some .int) :: pw) B.pre w (List.mem_cons_of_mem _ h)
  have hown : s.vm.findClass RX6 = some m.cls := findClass_of_methodNamed B.named
  have hlocks := B.notSynchronized
  subst hsz
  have hD := hD0
  obtain ⟨H, hHe⟩ : ∃ H : Heap, H = s.heap := ⟨_, rfl⟩
  have hS : va_S (fun _ => False) s.heap H [] := by rw [hHe]; exact va_S.rf
  rw [← hHe] at hP
  have hl := lv_entry ([.ref h0, .int p0]) (n := 4) (Nat.le_of_ble_eq_true rfl)
  rw [lg_entry_eq]
  generalize (lg_sl ([.ref h0, .int p0]) ++ List.replicate (4 - (lg_sl ([.ref h0, .int p0])).length) Slot.unset).toArray = ls at hl ⊢
  have hl : lv_has ls 4 [(0, .ref h0), (1, .int p0)] := hl
  rw [← hHe]
  refine lv_aload_n hx hb dX6_touching_0 rfl (lv_at hl 0 rfl) ?_
  refine lv_iload_n hx hb dX6_touching_1 rfl (lv_at hl 1 rfl) ?_
  have hPc := hP.sub (ws' := [(h0, .inr (6, [.ref tp, .int 0, .ref nw, .ref dr, .ref rd, .ref sc, .ref sk, .ref fl, .ref ps, .int 0, .int 0, .ref sh])), (nw, .inr (1, [.ref nm, .ref nb, .int 0, .int 0, .int 0]))]) [0, 1] rfl
  have hDc := hD.sub (ws' := [(h0, .inr (6, [.ref tp, .int 0, .ref nw, .ref dr, .ref rd, .ref sc, .ref sk, .ref fl, .ref ps, .int 0, .int 0, .ref sh])), (nw, .inr (1, [.ref nm, .ref nb, .int 0, .int 0, .int 0]))]) [0, 1] (by decide) rfl
  have hKc := hK.sub (tys' := []) [] rfl
  refine ro_i (va_runV (As := [.int p0]) (rest := []) ⟨hx, hb, hml, hown, hts⟩ (c_X6_isBody l dC dI h0 tp nw dr rd sc sk fl ps sh nm nb H.size p0 ) (cwV 1 hts (gV pq636 pq638 pq2 pq74 pq639) rfl rfl rfl (by decide +kernel) ⟨(Nat.le_of_ble_eq_true rfl), (Nat.le_of_ble_eq_true rfl)⟩) (pc_V hPc hDc hKc hN (va_recv hK hP (ci := 6) (q0 := 0) rfl rfl)) rfl rfl hl.1 rfl (lv_room (Nat.le_of_ble_eq_true rfl)) dX6_touching_2 ⟨(Nat.le_of_ble_eq_true rfl), (Nat.le_of_ble_eq_true rfl)⟩) hS hP (fun r1 H locs hr1 hP hS => ?_)
  subst hr1
  refine lv_if_ne (tgt := 10) hx hb dX6_touching_5 (by decide) (fun c2 => absurd (by decide +kernel) c2) (fun c2 => ?_)
  refine lv_iconst (v := (-1)) hx hb dX6_touching_8 (by decide +kernel) ?_
  exact W.iret (v := (-1)) hx hb hr (fun t ht hW => ⟨⟨(-1), (), rfl, rfl, trivial⟩, hS.F ht⟩) hS.2.2 dX6_touching_9

set_option maxHeartbeats 4000000 in
set_option maxRecDepth 100000 in
theorem c_X6_first (l : Launch) (dC : Nat → ClassId) (dI : Nat → Nat → Nat) (h0 tp nw dr rd sc sk fl ps sh nm nb : Nat) (sz : Nat) (p0 : Int32) (p1 : Int32) (p2 : Int32) : Met l yX6_first (.code yX6_first cX6_first 6 (some .int) :: pw) ({ frames := 2, cells := 0, slots := 0, locals := 43 }) (pc (dC, dI) [.ref h0, .int p0, .int p1, .int p2] sz [(h0, .inr (6, [.ref tp, .int 0, .ref nw, .ref dr, .ref rd, .ref sc, .ref sk, .ref fl, .ref ps, .int 0, .int 0, .ref sh])), (nw, .inr (1, [.ref nm, .ref nb, .int 0, .int 0, .int 0]))] []) (va_Qi (fun (r : Int32) (_ : Unit) => r = (-1)) (fun _ _ => True) (fun _ => False)) 0 0 (fun _ => False) := by
  refine Met.ofW (cc := cX6_first) (maxL := 6) (ret := (some .int)) (by decide +kernel) rfl ?_
  intro p e s m args below meth c s₁ B hml hv
  obtain ⟨rfl, hsz, hP, hK, hD0, hN⟩ := hv
  have hx := B.exec
  have hb := B.bytes
  have hr := B.returns
  have hts := fun w (h : w ∈ pw) => atoms_spec (ws := Cond.code yX6_first cX6_first 6 (some .int) :: pw) B.pre w (List.mem_cons_of_mem _ h)
  have hown : s.vm.findClass RX6 = some m.cls := findClass_of_methodNamed B.named
  have hlocks := B.notSynchronized
  subst hsz
  have hD := hD0
  obtain ⟨H, hHe⟩ : ∃ H : Heap, H = s.heap := ⟨_, rfl⟩
  have hS : va_S (fun _ => False) s.heap H [] := by rw [hHe]; exact va_S.rf
  rw [← hHe] at hP
  have hl := lv_entry ([.ref h0, .int p0, .int p1, .int p2]) (n := 6) (Nat.le_of_ble_eq_true rfl)
  rw [lg_entry_eq]
  generalize (lg_sl ([.ref h0, .int p0, .int p1, .int p2]) ++ List.replicate (6 - (lg_sl ([.ref h0, .int p0, .int p1, .int p2])).length) Slot.unset).toArray = ls at hl ⊢
  have hl : lv_has ls 6 [(0, .ref h0), (1, .int p0), (2, .int p1), (3, .int p2)] := hl
  rw [← hHe]
  refine lv_aload_n hx hb dX6_first_0 rfl (lv_at hl 0 rfl) ?_
  refine lv_iload_n hx hb dX6_first_1 rfl (lv_at hl 1 rfl) ?_
  refine lv_iload_n hx hb dX6_first_2 rfl (lv_at hl 2 rfl) ?_
  have hPc := hP.sub (ws' := [(h0, .inr (6, [.ref tp, .int 0, .ref nw, .ref dr, .ref rd, .ref sc, .ref sk, .ref fl, .ref ps, .int 0, .int 0, .ref sh])), (nw, .inr (1, [.ref nm, .ref nb, .int 0, .int 0, .int 0]))]) [0, 1] rfl
  have hDc := hD.sub (ws' := [(h0, .inr (6, [.ref tp, .int 0, .ref nw, .ref dr, .ref rd, .ref sc, .ref sk, .ref fl, .ref ps, .int 0, .int 0, .ref sh])), (nw, .inr (1, [.ref nm, .ref nb, .int 0, .int 0, .int 0]))]) [0, 1] (by decide) rfl
  have hKc := hK.sub (tys' := []) [] rfl
  refine ro_i (va_runV (As := [.int p0, .int p1]) (rest := []) ⟨hx, hb, hml, hown, hts⟩ (c_X6_areTwoBodies l dC dI h0 tp nw dr rd sc sk fl ps sh nm nb H.size p0 p1 ) (cwV 2 hts (gV pq970 pq972 pq7 pq74 pq973) rfl rfl rfl (by decide +kernel) ⟨(Nat.le_of_ble_eq_true rfl), (Nat.le_of_ble_eq_true rfl)⟩) (pc_V hPc hDc hKc hN (va_recv hK hP (ci := 6) (q0 := 0) rfl rfl)) rfl rfl hl.1 rfl (lv_room (Nat.le_of_ble_eq_true rfl)) dX6_first_3 ⟨(Nat.le_of_ble_eq_true rfl), (Nat.le_of_ble_eq_true rfl)⟩) hS hP (fun r1 H locs hr1 hP hS => ?_)
  subst hr1
  refine lv_if_eq (tgt := 19) hx hb dX6_first_6 (by decide) (fun c2 => ?_) (fun c2 => absurd (by decide +kernel) c2)
  refine lv_iconst (v := (-1)) hx hb dX6_first_19 (by decide +kernel) ?_
  exact W.iret (v := (-1)) hx hb hr (fun t ht hW => ⟨⟨(-1), (), rfl, rfl, trivial⟩, hS.F ht⟩) hS.2.2 dX6_first_20

set_option maxHeartbeats 4000000 in
set_option maxRecDepth 100000 in
theorem c_X6_reach (l : Launch) (dC : Nat → ClassId) (dI : Nat → Nat → Nat) (h0 tp nw dr rd sc sk fl ps sh nm nb : Nat) (sz : Nat) (p0 : Int32) (p1 : Int32) (p2 : Int32) (p3 : Int32) : Met l yX6_reach (.code yX6_reach cX6_reach 5 (some .int) :: pw) ({ frames := 1, cells := 0, slots := 0, locals := 21 }) (pc (dC, dI) [.ref h0, .int p0, .int p1, .int p2, .int p3] sz [(h0, .inr (6, [.ref tp, .int 0, .ref nw, .ref dr, .ref rd, .ref sc, .ref sk, .ref fl, .ref ps, .int 0, .int 0, .ref sh])), (nw, .inr (1, [.ref nm, .ref nb, .int 0, .int 0, .int 0]))] []) (va_Qi (fun (r : Int32) (_ : Unit) => r = (-1)) (fun _ _ => True) (fun _ => False)) 0 0 (fun _ => False) := by
  refine Met.ofW (cc := cX6_reach) (maxL := 5) (ret := (some .int)) (by decide +kernel) rfl ?_
  intro p e s m args below meth c s₁ B hml hv
  obtain ⟨rfl, hsz, hP, hK, hD0, hN⟩ := hv
  have hx := B.exec
  have hb := B.bytes
  have hr := B.returns
  have hts := fun w (h : w ∈ pw) => atoms_spec (ws := Cond.code yX6_reach cX6_reach 5 (some .int) :: pw) B.pre w (List.mem_cons_of_mem _ h)
  have hown : s.vm.findClass RX6 = some m.cls := findClass_of_methodNamed B.named
  have hlocks := B.notSynchronized
  subst hsz
  have hD := hD0
  obtain ⟨H, hHe⟩ : ∃ H : Heap, H = s.heap := ⟨_, rfl⟩
  have hS : va_S (fun _ => False) s.heap H [] := by rw [hHe]; exact va_S.rf
  rw [← hHe] at hP
  have hl := lv_entry ([.ref h0, .int p0, .int p1, .int p2, .int p3]) (n := 5) (Nat.le_of_ble_eq_true rfl)
  rw [lg_entry_eq]
  generalize (lg_sl ([.ref h0, .int p0, .int p1, .int p2, .int p3]) ++ List.replicate (5 - (lg_sl ([.ref h0, .int p0, .int p1, .int p2, .int p3])).length) Slot.unset).toArray = ls at hl ⊢
  have hl : lv_has ls 5 [(0, .ref h0), (1, .int p0), (2, .int p1), (3, .int p2), (4, .int p3)] := hl
  rw [← hHe]
  refine lv_aload_n hx hb dX6_reach_0 rfl (lv_at hl 0 rfl) ?_
  refine lv_iload_n hx hb dX6_reach_1 rfl (lv_at hl 1 rfl) ?_
  have hPc := hP.sub (ws' := [(h0, .inr (6, [.ref tp, .int 0, .ref nw, .ref dr, .ref rd, .ref sc, .ref sk, .ref fl, .ref ps, .int 0, .int 0, .ref sh])), (nw, .inr (1, [.ref nm, .ref nb, .int 0, .int 0, .int 0]))]) [0, 1] rfl
  have hDc := hD.sub (ws' := [(h0, .inr (6, [.ref tp, .int 0, .ref nw, .ref dr, .ref rd, .ref sc, .ref sk, .ref fl, .ref ps, .int 0, .int 0, .ref sh])), (nw, .inr (1, [.ref nm, .ref nb, .int 0, .int 0, .int 0]))]) [0, 1] (by decide) rfl
  have hKc := hK.sub (tys' := []) [] rfl
  refine ro_i (va_runV (As := [.int p0]) (rest := []) ⟨hx, hb, hml, hown, hts⟩ (c_X6_isBody l dC dI h0 tp nw dr rd sc sk fl ps sh nm nb H.size p0 ) (cwV 1 hts (gV pq636 pq638 pq2 pq74 pq639) rfl rfl rfl (by decide +kernel) ⟨(Nat.le_of_ble_eq_true rfl), (Nat.le_of_ble_eq_true rfl)⟩) (pc_V hPc hDc hKc hN (va_recv hK hP (ci := 6) (q0 := 0) rfl rfl)) rfl rfl hl.1 rfl (lv_room (Nat.le_of_ble_eq_true rfl)) dX6_reach_2 ⟨(Nat.le_of_ble_eq_true rfl), (Nat.le_of_ble_eq_true rfl)⟩) hS hP (fun r1 H locs hr1 hP hS => ?_)
  subst hr1
  refine lv_if_eq (tgt := 37) hx hb dX6_reach_5 (by decide) (fun c2 => ?_) (fun c2 => absurd (by decide +kernel) c2)
  refine lv_iconst (v := (-1)) hx hb dX6_reach_37 (by decide +kernel) ?_
  exact W.iret (v := (-1)) hx hb hr (fun t ht hW => ⟨⟨(-1), (), rfl, rfl, trivial⟩, hS.F ht⟩) hS.2.2 dX6_reach_38

set_option maxHeartbeats 4000000 in
set_option maxRecDepth 100000 in
theorem c_X6_gap (l : Launch) (dC : Nat → ClassId) (dI : Nat → Nat → Nat) (h0 tp nw dr rd sc sk fl ps sh nm nb : Nat) (sz : Nat) (p0 : Int32) (p1 : Int32) (p2 : Int32) : Met l yX6_gap (.code yX6_gap cX6_gap 4 (some .int) :: pw) ({ frames := 2, cells := 0, slots := 0, locals := 43 }) (pc (dC, dI) [.ref h0, .int p0, .int p1, .int p2] sz [(h0, .inr (6, [.ref tp, .int 0, .ref nw, .ref dr, .ref rd, .ref sc, .ref sk, .ref fl, .ref ps, .int 0, .int 0, .ref sh])), (nw, .inr (1, [.ref nm, .ref nb, .int 0, .int 0, .int 0]))] []) (va_Qi (fun (r : Int32) (_ : Unit) => r = (-1)) (fun _ _ => True) (fun _ => False)) 0 0 (fun _ => False) := by
  refine Met.ofW (cc := cX6_gap) (maxL := 4) (ret := (some .int)) (by decide +kernel) rfl ?_
  intro p e s m args below meth c s₁ B hml hv
  obtain ⟨rfl, hsz, hP, hK, hD0, hN⟩ := hv
  have hx := B.exec
  have hb := B.bytes
  have hr := B.returns
  have hts := fun w (h : w ∈ pw) => atoms_spec (ws := Cond.code yX6_gap cX6_gap 4 (some .int) :: pw) B.pre w (List.mem_cons_of_mem _ h)
  have hown : s.vm.findClass RX6 = some m.cls := findClass_of_methodNamed B.named
  have hlocks := B.notSynchronized
  subst hsz
  have hD := hD0
  obtain ⟨H, hHe⟩ : ∃ H : Heap, H = s.heap := ⟨_, rfl⟩
  have hS : va_S (fun _ => False) s.heap H [] := by rw [hHe]; exact va_S.rf
  rw [← hHe] at hP
  have hl := lv_entry ([.ref h0, .int p0, .int p1, .int p2]) (n := 4) (Nat.le_of_ble_eq_true rfl)
  rw [lg_entry_eq]
  generalize (lg_sl ([.ref h0, .int p0, .int p1, .int p2]) ++ List.replicate (4 - (lg_sl ([.ref h0, .int p0, .int p1, .int p2])).length) Slot.unset).toArray = ls at hl ⊢
  have hl : lv_has ls 4 [(0, .ref h0), (1, .int p0), (2, .int p1), (3, .int p2)] := hl
  rw [← hHe]
  refine lv_aload_n hx hb dX6_gap_0 rfl (lv_at hl 0 rfl) ?_
  refine lv_iload_n hx hb dX6_gap_1 rfl (lv_at hl 1 rfl) ?_
  refine lv_iload_n hx hb dX6_gap_2 rfl (lv_at hl 2 rfl) ?_
  have hPc := hP.sub (ws' := [(h0, .inr (6, [.ref tp, .int 0, .ref nw, .ref dr, .ref rd, .ref sc, .ref sk, .ref fl, .ref ps, .int 0, .int 0, .ref sh])), (nw, .inr (1, [.ref nm, .ref nb, .int 0, .int 0, .int 0]))]) [0, 1] rfl
  have hDc := hD.sub (ws' := [(h0, .inr (6, [.ref tp, .int 0, .ref nw, .ref dr, .ref rd, .ref sc, .ref sk, .ref fl, .ref ps, .int 0, .int 0, .ref sh])), (nw, .inr (1, [.ref nm, .ref nb, .int 0, .int 0, .int 0]))]) [0, 1] (by decide) rfl
  have hKc := hK.sub (tys' := []) [] rfl
  refine ro_i (va_runV (As := [.int p0, .int p1]) (rest := []) ⟨hx, hb, hml, hown, hts⟩ (c_X6_areTwoBodies l dC dI h0 tp nw dr rd sc sk fl ps sh nm nb H.size p0 p1 ) (cwV 2 hts (gV pq970 pq972 pq7 pq74 pq973) rfl rfl rfl (by decide +kernel) ⟨(Nat.le_of_ble_eq_true rfl), (Nat.le_of_ble_eq_true rfl)⟩) (pc_V hPc hDc hKc hN (va_recv hK hP (ci := 6) (q0 := 0) rfl rfl)) rfl rfl hl.1 rfl (lv_room (Nat.le_of_ble_eq_true rfl)) dX6_gap_3 ⟨(Nat.le_of_ble_eq_true rfl), (Nat.le_of_ble_eq_true rfl)⟩) hS hP (fun r1 H locs hr1 hP hS => ?_)
  subst hr1
  refine lv_if_ne (tgt := 11) hx hb dX6_gap_6 (by decide) (fun c2 => absurd (by decide +kernel) c2) (fun c2 => ?_)
  refine lv_iconst (v := (-1)) hx hb dX6_gap_9 (by decide +kernel) ?_
  exact W.iret (v := (-1)) hx hb hr (fun t ht hW => ⟨⟨(-1), (), rfl, rfl, trivial⟩, hS.F ht⟩) hS.2.2 dX6_gap_10

set_option maxHeartbeats 4000000 in
set_option maxRecDepth 100000 in
theorem c_X6_apart (l : Launch) (dC : Nat → ClassId) (dI : Nat → Nat → Nat) (h0 tp nw dr rd sc sk fl ps sh nm nb : Nat) (sz : Nat) (p0 : Int32) (p1 : Int32) (p2 : Int32) : Met l yX6_apart (.code yX6_apart cX6_apart 4 (some .int) :: pw) ({ frames := 2, cells := 0, slots := 0, locals := 43 }) (pc (dC, dI) [.ref h0, .int p0, .int p1, .int p2] sz [(h0, .inr (6, [.ref tp, .int 0, .ref nw, .ref dr, .ref rd, .ref sc, .ref sk, .ref fl, .ref ps, .int 0, .int 0, .ref sh])), (nw, .inr (1, [.ref nm, .ref nb, .int 0, .int 0, .int 0]))] []) (va_Qi (fun (r : Int32) (_ : Unit) => r = (-2000)) (fun _ _ => True) (fun _ => False)) 0 0 (fun _ => False) := by
  refine Met.ofW (cc := cX6_apart) (maxL := 4) (ret := (some .int)) (by decide +kernel) rfl ?_
  intro p e s m args below meth c s₁ B hml hv
  obtain ⟨rfl, hsz, hP, hK, hD0, hN⟩ := hv
  have hx := B.exec
  have hb := B.bytes
  have hr := B.returns
  have hts := fun w (h : w ∈ pw) => atoms_spec (ws := Cond.code yX6_apart cX6_apart 4 (some .int) :: pw) B.pre w (List.mem_cons_of_mem _ h)
  have hown : s.vm.findClass RX6 = some m.cls := findClass_of_methodNamed B.named
  have hlocks := B.notSynchronized
  subst hsz
  have hD := hD0
  obtain ⟨H, hHe⟩ : ∃ H : Heap, H = s.heap := ⟨_, rfl⟩
  have hS : va_S (fun _ => False) s.heap H [] := by rw [hHe]; exact va_S.rf
  rw [← hHe] at hP
  have hl := lv_entry ([.ref h0, .int p0, .int p1, .int p2]) (n := 4) (Nat.le_of_ble_eq_true rfl)
  rw [lg_entry_eq]
  generalize (lg_sl ([.ref h0, .int p0, .int p1, .int p2]) ++ List.replicate (4 - (lg_sl ([.ref h0, .int p0, .int p1, .int p2])).length) Slot.unset).toArray = ls at hl ⊢
  have hl : lv_has ls 4 [(0, .ref h0), (1, .int p0), (2, .int p1), (3, .int p2)] := hl
  rw [← hHe]
  refine lv_aload_n hx hb dX6_apart_0 rfl (lv_at hl 0 rfl) ?_
  refine lv_iload_n hx hb dX6_apart_1 rfl (lv_at hl 1 rfl) ?_
  refine lv_iload_n hx hb dX6_apart_2 rfl (lv_at hl 2 rfl) ?_
  have hPc := hP.sub (ws' := [(h0, .inr (6, [.ref tp, .int 0, .ref nw, .ref dr, .ref rd, .ref sc, .ref sk, .ref fl, .ref ps, .int 0, .int 0, .ref sh])), (nw, .inr (1, [.ref nm, .ref nb, .int 0, .int 0, .int 0]))]) [0, 1] rfl
  have hDc := hD.sub (ws' := [(h0, .inr (6, [.ref tp, .int 0, .ref nw, .ref dr, .ref rd, .ref sc, .ref sk, .ref fl, .ref ps, .int 0, .int 0, .ref sh])), (nw, .inr (1, [.ref nm, .ref nb, .int 0, .int 0, .int 0]))]) [0, 1] (by decide) rfl
  have hKc := hK.sub (tys' := []) [] rfl
  refine ro_i (va_runV (As := [.int p0, .int p1]) (rest := []) ⟨hx, hb, hml, hown, hts⟩ (c_X6_areTwoBodies l dC dI h0 tp nw dr rd sc sk fl ps sh nm nb H.size p0 p1 ) (cwV 2 hts (gV pq970 pq972 pq7 pq74 pq973) rfl rfl rfl (by decide +kernel) ⟨(Nat.le_of_ble_eq_true rfl), (Nat.le_of_ble_eq_true rfl)⟩) (pc_V hPc hDc hKc hN (va_recv hK hP (ci := 6) (q0 := 0) rfl rfl)) rfl rfl hl.1 rfl (lv_room (Nat.le_of_ble_eq_true rfl)) dX6_apart_3 ⟨(Nat.le_of_ble_eq_true rfl), (Nat.le_of_ble_eq_true rfl)⟩) hS hP (fun r1 H locs hr1 hP hS => ?_)
  subst hr1
  refine lv_if_eq (tgt := 17) hx hb dX6_apart_6 (by decide) (fun c2 => ?_) (fun c2 => absurd (by decide +kernel) c2)
  refine lv_sipush (v := (-2000)) hx hb dX6_apart_17 (by decide +kernel) ?_
  exact W.iret (v := (-2000)) hx hb hr (fun t ht hW => ⟨⟨(-2000), (), rfl, rfl, trivial⟩, hS.F ht⟩) hS.2.2 dX6_apart_20

set_option maxHeartbeats 4000000 in
set_option maxRecDepth 100000 in
theorem c_X6_best (l : Launch) (dC : Nat → ClassId) (dI : Nat → Nat → Nat) (h0 tp nw dr rd sc sk fl ps sh nm nb : Nat) (sz : Nat) (p0 : Int32) (p1 : Int32) (p2 : Int32) : Met l yX6_best (.code yX6_best cX6_best 4 (some .int) :: pw) ({ frames := 2, cells := 0, slots := 0, locals := 43 }) (pc (dC, dI) [.ref h0, .int p0, .int p1, .int p2] sz [(h0, .inr (6, [.ref tp, .int 0, .ref nw, .ref dr, .ref rd, .ref sc, .ref sk, .ref fl, .ref ps, .int 0, .int 0, .ref sh])), (nw, .inr (1, [.ref nm, .ref nb, .int 0, .int 0, .int 0]))] []) (va_Qi (fun (r : Int32) (_ : Unit) => r = (-2000)) (fun _ _ => True) (fun _ => False)) 0 0 (fun _ => False) := by
  refine Met.ofW (cc := cX6_best) (maxL := 4) (ret := (some .int)) (by decide +kernel) rfl ?_
  intro p e s m args below meth c s₁ B hml hv
  obtain ⟨rfl, hsz, hP, hK, hD0, hN⟩ := hv
  have hx := B.exec
  have hb := B.bytes
  have hr := B.returns
  have hts := fun w (h : w ∈ pw) => atoms_spec (ws := Cond.code yX6_best cX6_best 4 (some .int) :: pw) B.pre w (List.mem_cons_of_mem _ h)
  have hown : s.vm.findClass RX6 = some m.cls := findClass_of_methodNamed B.named
  have hlocks := B.notSynchronized
  subst hsz
  have hD := hD0
  obtain ⟨H, hHe⟩ : ∃ H : Heap, H = s.heap := ⟨_, rfl⟩
  have hS : va_S (fun _ => False) s.heap H [] := by rw [hHe]; exact va_S.rf
  rw [← hHe] at hP
  have hl := lv_entry ([.ref h0, .int p0, .int p1, .int p2]) (n := 4) (Nat.le_of_ble_eq_true rfl)
  rw [lg_entry_eq]
  generalize (lg_sl ([.ref h0, .int p0, .int p1, .int p2]) ++ List.replicate (4 - (lg_sl ([.ref h0, .int p0, .int p1, .int p2])).length) Slot.unset).toArray = ls at hl ⊢
  have hl : lv_has ls 4 [(0, .ref h0), (1, .int p0), (2, .int p1), (3, .int p2)] := hl
  rw [← hHe]
  refine lv_aload_n hx hb dX6_best_0 rfl (lv_at hl 0 rfl) ?_
  refine lv_iload_n hx hb dX6_best_1 rfl (lv_at hl 1 rfl) ?_
  refine lv_iload_n hx hb dX6_best_2 rfl (lv_at hl 2 rfl) ?_
  have hPc := hP.sub (ws' := [(h0, .inr (6, [.ref tp, .int 0, .ref nw, .ref dr, .ref rd, .ref sc, .ref sk, .ref fl, .ref ps, .int 0, .int 0, .ref sh])), (nw, .inr (1, [.ref nm, .ref nb, .int 0, .int 0, .int 0]))]) [0, 1] rfl
  have hDc := hD.sub (ws' := [(h0, .inr (6, [.ref tp, .int 0, .ref nw, .ref dr, .ref rd, .ref sc, .ref sk, .ref fl, .ref ps, .int 0, .int 0, .ref sh])), (nw, .inr (1, [.ref nm, .ref nb, .int 0, .int 0, .int 0]))]) [0, 1] (by decide) rfl
  have hKc := hK.sub (tys' := []) [] rfl
  refine ro_i (va_runV (As := [.int p0, .int p1]) (rest := []) ⟨hx, hb, hml, hown, hts⟩ (c_X6_areTwoBodies l dC dI h0 tp nw dr rd sc sk fl ps sh nm nb H.size p0 p1 ) (cwV 2 hts (gV pq970 pq972 pq7 pq74 pq973) rfl rfl rfl (by decide +kernel) ⟨(Nat.le_of_ble_eq_true rfl), (Nat.le_of_ble_eq_true rfl)⟩) (pc_V hPc hDc hKc hN (va_recv hK hP (ci := 6) (q0 := 0) rfl rfl)) rfl rfl hl.1 rfl (lv_room (Nat.le_of_ble_eq_true rfl)) dX6_best_3 ⟨(Nat.le_of_ble_eq_true rfl), (Nat.le_of_ble_eq_true rfl)⟩) hS hP (fun r1 H locs hr1 hP hS => ?_)
  subst hr1
  refine lv_if_eq (tgt := 17) hx hb dX6_best_6 (by decide) (fun c2 => ?_) (fun c2 => absurd (by decide +kernel) c2)
  refine lv_sipush (v := (-2000)) hx hb dX6_best_17 (by decide +kernel) ?_
  exact W.iret (v := (-2000)) hx hb hr (fun t ht hW => ⟨⟨(-2000), (), rfl, rfl, trivial⟩, hS.F ht⟩) hS.2.2 dX6_best_20

set_option maxHeartbeats 4000000 in
set_option maxRecDepth 100000 in
theorem c_X6_slope (l : Launch) (dC : Nat → ClassId) (dI : Nat → Nat → Nat) (h0 tp nw dr rd sc sk fl ps sh nm nb : Nat) (sz : Nat) (p0 : Int32) (p1 : Int32) (p2 : Int32) : Met l yX6_slope (.code yX6_slope cX6_slope 6 (some .int) :: pw) ({ frames := 2, cells := 0, slots := 0, locals := 43 }) (pc (dC, dI) [.ref h0, .int p0, .int p1, .int p2] sz [(h0, .inr (6, [.ref tp, .int 0, .ref nw, .ref dr, .ref rd, .ref sc, .ref sk, .ref fl, .ref ps, .int 0, .int 0, .ref sh])), (nw, .inr (1, [.ref nm, .ref nb, .int 0, .int 0, .int 0]))] []) (va_Qi (fun (r : Int32) (_ : Unit) => r = (-2000000)) (fun _ _ => True) (fun _ => False)) 0 0 (fun _ => False) := by
  refine Met.ofW (cc := cX6_slope) (maxL := 6) (ret := (some .int)) (by decide +kernel) rfl ?_
  intro p e s m args below meth c s₁ B hml hv
  obtain ⟨rfl, hsz, hP, hK, hD0, hN⟩ := hv
  have hx := B.exec
  have hb := B.bytes
  have hr := B.returns
  have hts := fun w (h : w ∈ pw) => atoms_spec (ws := Cond.code yX6_slope cX6_slope 6 (some .int) :: pw) B.pre w (List.mem_cons_of_mem _ h)
  have hown : s.vm.findClass RX6 = some m.cls := findClass_of_methodNamed B.named
  have hlocks := B.notSynchronized
  subst hsz
  have hD := hD0
  obtain ⟨H, hHe⟩ : ∃ H : Heap, H = s.heap := ⟨_, rfl⟩
  have hS : va_S (fun _ => False) s.heap H [] := by rw [hHe]; exact va_S.rf
  rw [← hHe] at hP
  have hl := lv_entry ([.ref h0, .int p0, .int p1, .int p2]) (n := 6) (Nat.le_of_ble_eq_true rfl)
  rw [lg_entry_eq]
  generalize (lg_sl ([.ref h0, .int p0, .int p1, .int p2]) ++ List.replicate (6 - (lg_sl ([.ref h0, .int p0, .int p1, .int p2])).length) Slot.unset).toArray = ls at hl ⊢
  have hl : lv_has ls 6 [(0, .ref h0), (1, .int p0), (2, .int p1), (3, .int p2)] := hl
  rw [← hHe]
  refine lv_aload_n hx hb dX6_slope_0 rfl (lv_at hl 0 rfl) ?_
  refine lv_iload_n hx hb dX6_slope_1 rfl (lv_at hl 1 rfl) ?_
  refine lv_iload_n hx hb dX6_slope_2 rfl (lv_at hl 2 rfl) ?_
  have hPc := hP.sub (ws' := [(h0, .inr (6, [.ref tp, .int 0, .ref nw, .ref dr, .ref rd, .ref sc, .ref sk, .ref fl, .ref ps, .int 0, .int 0, .ref sh])), (nw, .inr (1, [.ref nm, .ref nb, .int 0, .int 0, .int 0]))]) [0, 1] rfl
  have hDc := hD.sub (ws' := [(h0, .inr (6, [.ref tp, .int 0, .ref nw, .ref dr, .ref rd, .ref sc, .ref sk, .ref fl, .ref ps, .int 0, .int 0, .ref sh])), (nw, .inr (1, [.ref nm, .ref nb, .int 0, .int 0, .int 0]))]) [0, 1] (by decide) rfl
  have hKc := hK.sub (tys' := []) [] rfl
  refine ro_i (va_runV (As := [.int p0, .int p1]) (rest := []) ⟨hx, hb, hml, hown, hts⟩ (c_X6_areTwoBodies l dC dI h0 tp nw dr rd sc sk fl ps sh nm nb H.size p0 p1 ) (cwV 2 hts (gV pq970 pq972 pq7 pq74 pq973) rfl rfl rfl (by decide +kernel) ⟨(Nat.le_of_ble_eq_true rfl), (Nat.le_of_ble_eq_true rfl)⟩) (pc_V hPc hDc hKc hN (va_recv hK hP (ci := 6) (q0 := 0) rfl rfl)) rfl rfl hl.1 rfl (lv_room (Nat.le_of_ble_eq_true rfl)) dX6_slope_3 ⟨(Nat.le_of_ble_eq_true rfl), (Nat.le_of_ble_eq_true rfl)⟩) hS hP (fun r1 H locs hr1 hP hS => ?_)
  subst hr1
  refine lv_if_eq (tgt := 17) hx hb dX6_slope_6 (by decide) (fun c2 => ?_) (fun c2 => absurd (by decide +kernel) c2)
  refine lv_ldcw hx hb hown (hts _ pq1068) dX6_slope_17 ?_
  exact W.iret (v := (-2000000)) hx hb hr (fun t ht hW => ⟨⟨(-2000000), (), rfl, rfl, trivial⟩, hS.F ht⟩) hS.2.2 dX6_slope_20

set_option maxHeartbeats 4000000 in
set_option maxRecDepth 100000 in
theorem c_X6_seen (l : Launch) (dC : Nat → ClassId) (dI : Nat → Nat → Nat) (h0 tp nw dr rd sc sk fl ps sh nm nb : Nat) (sz : Nat) (p0 : Int32) (p1 : Int32) : Met l yX6_seen (.code yX6_seen cX6_seen 10 (some .int) :: pw) ({ frames := 2, cells := 0, slots := 0, locals := 43 }) (pc (dC, dI) [.ref h0, .int p0, .int p1] sz [(h0, .inr (6, [.ref tp, .int 0, .ref nw, .ref dr, .ref rd, .ref sc, .ref sk, .ref fl, .ref ps, .int 0, .int 0, .ref sh])), (nw, .inr (1, [.ref nm, .ref nb, .int 0, .int 0, .int 0]))] []) (va_Qi (fun (r : Int32) (_ : Unit) => r = (-1)) (fun _ _ => True) (fun _ => False)) 0 0 (fun _ => False) := by
  refine Met.ofW (cc := cX6_seen) (maxL := 10) (ret := (some .int)) (by decide +kernel) rfl ?_
  intro p e s m args below meth c s₁ B hml hv
  obtain ⟨rfl, hsz, hP, hK, hD0, hN⟩ := hv
  have hx := B.exec
  have hb := B.bytes
  have hr := B.returns
  have hts := fun w (h : w ∈ pw) => atoms_spec (ws := Cond.code yX6_seen cX6_seen 10 (some .int) :: pw) B.pre w (List.mem_cons_of_mem _ h)
  have hown : s.vm.findClass RX6 = some m.cls := findClass_of_methodNamed B.named
  have hlocks := B.notSynchronized
  subst hsz
  have hD := hD0
  obtain ⟨H, hHe⟩ : ∃ H : Heap, H = s.heap := ⟨_, rfl⟩
  have hS : va_S (fun _ => False) s.heap H [] := by rw [hHe]; exact va_S.rf
  rw [← hHe] at hP
  have hl := lv_entry ([.ref h0, .int p0, .int p1]) (n := 10) (Nat.le_of_ble_eq_true rfl)
  rw [lg_entry_eq]
  generalize (lg_sl ([.ref h0, .int p0, .int p1]) ++ List.replicate (10 - (lg_sl ([.ref h0, .int p0, .int p1])).length) Slot.unset).toArray = ls at hl ⊢
  have hl : lv_has ls 10 [(0, .ref h0), (1, .int p0), (2, .int p1)] := hl
  rw [← hHe]
  refine lv_aload_n hx hb dX6_seen_0 rfl (lv_at hl 0 rfl) ?_
  refine lv_iload_n hx hb dX6_seen_1 rfl (lv_at hl 1 rfl) ?_
  refine lv_iload_n hx hb dX6_seen_2 rfl (lv_at hl 2 rfl) ?_
  have hPc := hP.sub (ws' := [(h0, .inr (6, [.ref tp, .int 0, .ref nw, .ref dr, .ref rd, .ref sc, .ref sk, .ref fl, .ref ps, .int 0, .int 0, .ref sh])), (nw, .inr (1, [.ref nm, .ref nb, .int 0, .int 0, .int 0]))]) [0, 1] rfl
  have hDc := hD.sub (ws' := [(h0, .inr (6, [.ref tp, .int 0, .ref nw, .ref dr, .ref rd, .ref sc, .ref sk, .ref fl, .ref ps, .int 0, .int 0, .ref sh])), (nw, .inr (1, [.ref nm, .ref nb, .int 0, .int 0, .int 0]))]) [0, 1] (by decide) rfl
  have hKc := hK.sub (tys' := []) [] rfl
  refine ro_i (va_runV (As := [.int p0, .int p1]) (rest := []) ⟨hx, hb, hml, hown, hts⟩ (c_X6_areTwoBodies l dC dI h0 tp nw dr rd sc sk fl ps sh nm nb H.size p0 p1 ) (cwV 2 hts (gV pq970 pq972 pq7 pq74 pq973) rfl rfl rfl (by decide +kernel) ⟨(Nat.le_of_ble_eq_true rfl), (Nat.le_of_ble_eq_true rfl)⟩) (pc_V hPc hDc hKc hN (va_recv hK hP (ci := 6) (q0 := 0) rfl rfl)) rfl rfl hl.1 rfl (lv_room (Nat.le_of_ble_eq_true rfl)) dX6_seen_3 ⟨(Nat.le_of_ble_eq_true rfl), (Nat.le_of_ble_eq_true rfl)⟩) hS hP (fun r1 H locs hr1 hP hS => ?_)
  subst hr1
  refine lv_if_eq (tgt := 31) hx hb dX6_seen_6 (by decide) (fun c2 => ?_) (fun c2 => absurd (by decide +kernel) c2)
  refine lv_iconst (v := (-1)) hx hb dX6_seen_31 (by decide +kernel) ?_
  exact W.iret (v := (-1)) hx hb hr (fun t ht hW => ⟨⟨(-1), (), rfl, rfl, trivial⟩, hS.F ht⟩) hS.2.2 dX6_seen_32

set_option maxHeartbeats 4000000 in
set_option maxRecDepth 100000 in
theorem c_X6_island (l : Launch) (dC : Nat → ClassId) (dI : Nat → Nat → Nat) (h0 tp nw dr rd sc sk fl ps sh nm nb : Nat) (sz : Nat) (p0 : Int32) (p1 : Int32) (p2 : Int32) : Met l yX6_island (.code yX6_island cX6_island 5 (some .int) :: pw) ({ frames := 1, cells := 0, slots := 0, locals := 21 }) (pc (dC, dI) [.ref h0, .int p0, .int p1, .int p2] sz [(h0, .inr (6, [.ref tp, .int 0, .ref nw, .ref dr, .ref rd, .ref sc, .ref sk, .ref fl, .ref ps, .int 0, .int 0, .ref sh])), (nw, .inr (1, [.ref nm, .ref nb, .int 0, .int 0, .int 0]))] []) (va_Qi (fun (r : Int32) (_ : Unit) => r = (-1)) (fun _ _ => True) (fun _ => False)) 0 0 (fun _ => False) := by
  refine Met.ofW (cc := cX6_island) (maxL := 5) (ret := (some .int)) (by decide +kernel) rfl ?_
  intro p e s m args below meth c s₁ B hml hv
  obtain ⟨rfl, hsz, hP, hK, hD0, hN⟩ := hv
  have hx := B.exec
  have hb := B.bytes
  have hr := B.returns
  have hts := fun w (h : w ∈ pw) => atoms_spec (ws := Cond.code yX6_island cX6_island 5 (some .int) :: pw) B.pre w (List.mem_cons_of_mem _ h)
  have hown : s.vm.findClass RX6 = some m.cls := findClass_of_methodNamed B.named
  have hlocks := B.notSynchronized
  subst hsz
  have hD := hD0
  obtain ⟨H, hHe⟩ : ∃ H : Heap, H = s.heap := ⟨_, rfl⟩
  have hS : va_S (fun _ => False) s.heap H [] := by rw [hHe]; exact va_S.rf
  rw [← hHe] at hP
  have hl := lv_entry ([.ref h0, .int p0, .int p1, .int p2]) (n := 5) (Nat.le_of_ble_eq_true rfl)
  rw [lg_entry_eq]
  generalize (lg_sl ([.ref h0, .int p0, .int p1, .int p2]) ++ List.replicate (5 - (lg_sl ([.ref h0, .int p0, .int p1, .int p2])).length) Slot.unset).toArray = ls at hl ⊢
  have hl : lv_has ls 5 [(0, .ref h0), (1, .int p0), (2, .int p1), (3, .int p2)] := hl
  rw [← hHe]
  refine lv_aload_n hx hb dX6_island_0 rfl (lv_at hl 0 rfl) ?_
  refine lv_iload_n hx hb dX6_island_1 rfl (lv_at hl 1 rfl) ?_
  have hPc := hP.sub (ws' := [(h0, .inr (6, [.ref tp, .int 0, .ref nw, .ref dr, .ref rd, .ref sc, .ref sk, .ref fl, .ref ps, .int 0, .int 0, .ref sh])), (nw, .inr (1, [.ref nm, .ref nb, .int 0, .int 0, .int 0]))]) [0, 1] rfl
  have hDc := hD.sub (ws' := [(h0, .inr (6, [.ref tp, .int 0, .ref nw, .ref dr, .ref rd, .ref sc, .ref sk, .ref fl, .ref ps, .int 0, .int 0, .ref sh])), (nw, .inr (1, [.ref nm, .ref nb, .int 0, .int 0, .int 0]))]) [0, 1] (by decide) rfl
  have hKc := hK.sub (tys' := []) [] rfl
  refine ro_i (va_runV (As := [.int p0]) (rest := []) ⟨hx, hb, hml, hown, hts⟩ (c_X6_isMask l dC dI h0 tp nw dr rd sc sk fl ps sh nm nb H.size p0 ) (cwV 1 hts (gV pq666 pq668 pq4 pq74 pq669) rfl rfl rfl (by decide +kernel) ⟨(Nat.le_of_ble_eq_true rfl), (Nat.le_of_ble_eq_true rfl)⟩) (pc_V hPc hDc hKc hN (va_recv hK hP (ci := 6) (q0 := 0) rfl rfl)) rfl rfl hl.1 rfl (lv_room (Nat.le_of_ble_eq_true rfl)) dX6_island_2 ⟨(Nat.le_of_ble_eq_true rfl), (Nat.le_of_ble_eq_true rfl)⟩) hS hP (fun r1 H locs hr1 hP hS => ?_)
  subst hr1
  refine lv_if_eq (tgt := 21) hx hb dX6_island_5 (by decide) (fun c2 => ?_) (fun c2 => absurd (by decide +kernel) c2)
  refine lv_iconst (v := (-1)) hx hb dX6_island_21 (by decide +kernel) ?_
  exact W.iret (v := (-1)) hx hb hr (fun t ht hW => ⟨⟨(-1), (), rfl, rfl, trivial⟩, hS.F ht⟩) hS.2.2 dX6_island_22

set_option maxHeartbeats 4000000 in
set_option maxRecDepth 100000 in
theorem c_X6_shifts (l : Launch) (dC : Nat → ClassId) (dI : Nat → Nat → Nat) (h0 tp nw dr rd sc sk fl ps sh nm nb : Nat) (sz : Nat) (p0 : Int32) (p1 : Int32) : Met l yX6_shifts (.code yX6_shifts cX6_shifts 8 (some .int) :: pw) ({ frames := 1, cells := 0, slots := 0, locals := 21 }) (pc (dC, dI) [.ref h0, .int p0, .int p1] sz [(h0, .inr (6, [.ref tp, .int 0, .ref nw, .ref dr, .ref rd, .ref sc, .ref sk, .ref fl, .ref ps, .int 0, .int 0, .ref sh])), (nw, .inr (1, [.ref nm, .ref nb, .int 0, .int 0, .int 0]))] []) (va_Qi (fun (r : Int32) (_ : Unit) => r = (-1)) (fun _ _ => True) (fun _ => False)) 0 0 (fun _ => False) := by
  refine Met.ofW (cc := cX6_shifts) (maxL := 8) (ret := (some .int)) (by decide +kernel) rfl ?_
  intro p e s m args below meth c s₁ B hml hv
  obtain ⟨rfl, hsz, hP, hK, hD0, hN⟩ := hv
  have hx := B.exec
  have hb := B.bytes
  have hr := B.returns
  have hts := fun w (h : w ∈ pw) => atoms_spec (ws := Cond.code yX6_shifts cX6_shifts 8 (some .int) :: pw) B.pre w (List.mem_cons_of_mem _ h)
  have hown : s.vm.findClass RX6 = some m.cls := findClass_of_methodNamed B.named
  have hlocks := B.notSynchronized
  subst hsz
  have hD := hD0
  obtain ⟨H, hHe⟩ : ∃ H : Heap, H = s.heap := ⟨_, rfl⟩
  have hS : va_S (fun _ => False) s.heap H [] := by rw [hHe]; exact va_S.rf
  rw [← hHe] at hP
  have hl := lv_entry ([.ref h0, .int p0, .int p1]) (n := 8) (Nat.le_of_ble_eq_true rfl)
  rw [lg_entry_eq]
  generalize (lg_sl ([.ref h0, .int p0, .int p1]) ++ List.replicate (8 - (lg_sl ([.ref h0, .int p0, .int p1])).length) Slot.unset).toArray = ls at hl ⊢
  have hl : lv_has ls 8 [(0, .ref h0), (1, .int p0), (2, .int p1)] := hl
  rw [← hHe]
  refine lv_aload_n hx hb dX6_shifts_0 rfl (lv_at hl 0 rfl) ?_
  refine lv_iload_n hx hb dX6_shifts_1 rfl (lv_at hl 1 rfl) ?_
  have hPc := hP.sub (ws' := [(h0, .inr (6, [.ref tp, .int 0, .ref nw, .ref dr, .ref rd, .ref sc, .ref sk, .ref fl, .ref ps, .int 0, .int 0, .ref sh])), (nw, .inr (1, [.ref nm, .ref nb, .int 0, .int 0, .int 0]))]) [0, 1] rfl
  have hDc := hD.sub (ws' := [(h0, .inr (6, [.ref tp, .int 0, .ref nw, .ref dr, .ref rd, .ref sc, .ref sk, .ref fl, .ref ps, .int 0, .int 0, .ref sh])), (nw, .inr (1, [.ref nm, .ref nb, .int 0, .int 0, .int 0]))]) [0, 1] (by decide) rfl
  have hKc := hK.sub (tys' := []) [] rfl
  refine ro_i (va_runV (As := [.int p0]) (rest := []) ⟨hx, hb, hml, hown, hts⟩ (c_X6_isMask l dC dI h0 tp nw dr rd sc sk fl ps sh nm nb H.size p0 ) (cwV 1 hts (gV pq666 pq668 pq4 pq74 pq669) rfl rfl rfl (by decide +kernel) ⟨(Nat.le_of_ble_eq_true rfl), (Nat.le_of_ble_eq_true rfl)⟩) (pc_V hPc hDc hKc hN (va_recv hK hP (ci := 6) (q0 := 0) rfl rfl)) rfl rfl hl.1 rfl (lv_room (Nat.le_of_ble_eq_true rfl)) dX6_shifts_2 ⟨(Nat.le_of_ble_eq_true rfl), (Nat.le_of_ble_eq_true rfl)⟩) hS hP (fun r1 H locs hr1 hP hS => ?_)
  subst hr1
  refine lv_if_eq (tgt := 16) hx hb dX6_shifts_5 (by decide) (fun c2 => ?_) (fun c2 => absurd (by decide +kernel) c2)
  refine lv_iconst (v := (-1)) hx hb dX6_shifts_16 (by decide +kernel) ?_
  exact W.iret (v := (-1)) hx hb hr (fun t ht hW => ⟨⟨(-1), (), rfl, rfl, trivial⟩, hS.F ht⟩) hS.2.2 dX6_shifts_17

set_option maxHeartbeats 4000000 in
set_option maxRecDepth 100000 in
theorem c_X6_like (l : Launch) (dC : Nat → ClassId) (dI : Nat → Nat → Nat) (h0 tp nw dr rd sc sk fl ps sh nm nb : Nat) (sz : Nat) (p0 : Int32) : Met l yX6_like (.code yX6_like cX6_like 4 (some .int) :: pw) ({ frames := 1, cells := 0, slots := 0, locals := 21 }) (pc (dC, dI) [.ref h0, .int p0] sz [(h0, .inr (6, [.ref tp, .int 0, .ref nw, .ref dr, .ref rd, .ref sc, .ref sk, .ref fl, .ref ps, .int 0, .int 0, .ref sh])), (nw, .inr (1, [.ref nm, .ref nb, .int 0, .int 0, .int 0]))] []) (va_Qi (fun (r : Int32) (_ : Unit) => r = (-1)) (fun _ _ => True) (fun _ => False)) 0 0 (fun _ => False) := by
  refine Met.ofW (cc := cX6_like) (maxL := 4) (ret := (some .int)) (by decide +kernel) rfl ?_
  intro p e s m args below meth c s₁ B hml hv
  obtain ⟨rfl, hsz, hP, hK, hD0, hN⟩ := hv
  have hx := B.exec
  have hb := B.bytes
  have hr := B.returns
  have hts := fun w (h : w ∈ pw) => atoms_spec (ws := Cond.code yX6_like cX6_like 4 (some .int) :: pw) B.pre w (List.mem_cons_of_mem _ h)
  have hown : s.vm.findClass RX6 = some m.cls := findClass_of_methodNamed B.named
  have hlocks := B.notSynchronized
  subst hsz
  have hD := hD0
  obtain ⟨H, hHe⟩ : ∃ H : Heap, H = s.heap := ⟨_, rfl⟩
  have hS : va_S (fun _ => False) s.heap H [] := by rw [hHe]; exact va_S.rf
  rw [← hHe] at hP
  have hl := lv_entry ([.ref h0, .int p0]) (n := 4) (Nat.le_of_ble_eq_true rfl)
  rw [lg_entry_eq]
  generalize (lg_sl ([.ref h0, .int p0]) ++ List.replicate (4 - (lg_sl ([.ref h0, .int p0])).length) Slot.unset).toArray = ls at hl ⊢
  have hl : lv_has ls 4 [(0, .ref h0), (1, .int p0)] := hl
  rw [← hHe]
  refine lv_aload_n hx hb dX6_like_0 rfl (lv_at hl 0 rfl) ?_
  refine lv_iload_n hx hb dX6_like_1 rfl (lv_at hl 1 rfl) ?_
  have hPc := hP.sub (ws' := [(h0, .inr (6, [.ref tp, .int 0, .ref nw, .ref dr, .ref rd, .ref sc, .ref sk, .ref fl, .ref ps, .int 0, .int 0, .ref sh])), (nw, .inr (1, [.ref nm, .ref nb, .int 0, .int 0, .int 0]))]) [0, 1] rfl
  have hDc := hD.sub (ws' := [(h0, .inr (6, [.ref tp, .int 0, .ref nw, .ref dr, .ref rd, .ref sc, .ref sk, .ref fl, .ref ps, .int 0, .int 0, .ref sh])), (nw, .inr (1, [.ref nm, .ref nb, .int 0, .int 0, .int 0]))]) [0, 1] (by decide) rfl
  have hKc := hK.sub (tys' := []) [] rfl
  refine ro_i (va_runV (As := [.int p0]) (rest := []) ⟨hx, hb, hml, hown, hts⟩ (c_X6_isMask l dC dI h0 tp nw dr rd sc sk fl ps sh nm nb H.size p0 ) (cwV 1 hts (gV pq666 pq668 pq4 pq74 pq669) rfl rfl rfl (by decide +kernel) ⟨(Nat.le_of_ble_eq_true rfl), (Nat.le_of_ble_eq_true rfl)⟩) (pc_V hPc hDc hKc hN (va_recv hK hP (ci := 6) (q0 := 0) rfl rfl)) rfl rfl hl.1 rfl (lv_room (Nat.le_of_ble_eq_true rfl)) dX6_like_2 ⟨(Nat.le_of_ble_eq_true rfl), (Nat.le_of_ble_eq_true rfl)⟩) hS hP (fun r1 H locs hr1 hP hS => ?_)
  subst hr1
  refine lv_if_ne (tgt := 10) hx hb dX6_like_5 (by decide) (fun c2 => absurd (by decide +kernel) c2) (fun c2 => ?_)
  refine lv_iconst (v := (-1)) hx hb dX6_like_8 (by decide +kernel) ?_
  exact W.iret (v := (-1)) hx hb hr (fun t ht hW => ⟨⟨(-1), (), rfl, rfl, trivial⟩, hS.F ht⟩) hS.2.2 dX6_like_9

set_option maxHeartbeats 4000000 in
set_option maxRecDepth 100000 in
theorem c_X6_letter (l : Launch) (dC : Nat → ClassId) (dI : Nat → Nat → Nat) (h0 tp nw dr rd sc sk fl ps sh nm nb : Nat) (sz : Nat) (p0 : Int32) (p1 : Int32) : Met l yX6_letter (.code yX6_letter cX6_letter 7 (some .int) :: pw) ({ frames := 1, cells := 0, slots := 0, locals := 21 }) (pc (dC, dI) [.ref h0, .int p0, .int p1] sz [(h0, .inr (6, [.ref tp, .int 0, .ref nw, .ref dr, .ref rd, .ref sc, .ref sk, .ref fl, .ref ps, .int 0, .int 0, .ref sh])), (nw, .inr (1, [.ref nm, .ref nb, .int 0, .int 0, .int 0]))] []) (va_Qi (fun (r : Int32) (_ : Unit) => r = (-1)) (fun _ _ => True) (fun _ => False)) 0 0 (fun _ => False) := by
  refine Met.ofW (cc := cX6_letter) (maxL := 7) (ret := (some .int)) (by decide +kernel) rfl ?_
  intro p e s m args below meth c s₁ B hml hv
  obtain ⟨rfl, hsz, hP, hK, hD0, hN⟩ := hv
  have hx := B.exec
  have hb := B.bytes
  have hr := B.returns
  have hts := fun w (h : w ∈ pw) => atoms_spec (ws := Cond.code yX6_letter cX6_letter 7 (some .int) :: pw) B.pre w (List.mem_cons_of_mem _ h)
  have hown : s.vm.findClass RX6 = some m.cls := findClass_of_methodNamed B.named
  have hlocks := B.notSynchronized
  subst hsz
  have hD := hD0
  obtain ⟨H, hHe⟩ : ∃ H : Heap, H = s.heap := ⟨_, rfl⟩
  have hS : va_S (fun _ => False) s.heap H [] := by rw [hHe]; exact va_S.rf
  rw [← hHe] at hP
  have hl := lv_entry ([.ref h0, .int p0, .int p1]) (n := 7) (Nat.le_of_ble_eq_true rfl)
  rw [lg_entry_eq]
  generalize (lg_sl ([.ref h0, .int p0, .int p1]) ++ List.replicate (7 - (lg_sl ([.ref h0, .int p0, .int p1])).length) Slot.unset).toArray = ls at hl ⊢
  have hl : lv_has ls 7 [(0, .ref h0), (1, .int p0), (2, .int p1)] := hl
  rw [← hHe]
  refine lv_aload_n hx hb dX6_letter_0 rfl (lv_at hl 0 rfl) ?_
  refine lv_iload_n hx hb dX6_letter_1 rfl (lv_at hl 1 rfl) ?_
  have hPc := hP.sub (ws' := [(h0, .inr (6, [.ref tp, .int 0, .ref nw, .ref dr, .ref rd, .ref sc, .ref sk, .ref fl, .ref ps, .int 0, .int 0, .ref sh])), (nw, .inr (1, [.ref nm, .ref nb, .int 0, .int 0, .int 0]))]) [0, 1] rfl
  have hDc := hD.sub (ws' := [(h0, .inr (6, [.ref tp, .int 0, .ref nw, .ref dr, .ref rd, .ref sc, .ref sk, .ref fl, .ref ps, .int 0, .int 0, .ref sh])), (nw, .inr (1, [.ref nm, .ref nb, .int 0, .int 0, .int 0]))]) [0, 1] (by decide) rfl
  have hKc := hK.sub (tys' := []) [] rfl
  refine ro_i (va_runV (As := [.int p0]) (rest := []) ⟨hx, hb, hml, hown, hts⟩ (c_X6_isMask l dC dI h0 tp nw dr rd sc sk fl ps sh nm nb H.size p0 ) (cwV 1 hts (gV pq666 pq668 pq4 pq74 pq669) rfl rfl rfl (by decide +kernel) ⟨(Nat.le_of_ble_eq_true rfl), (Nat.le_of_ble_eq_true rfl)⟩) (pc_V hPc hDc hKc hN (va_recv hK hP (ci := 6) (q0 := 0) rfl rfl)) rfl rfl hl.1 rfl (lv_room (Nat.le_of_ble_eq_true rfl)) dX6_letter_2 ⟨(Nat.le_of_ble_eq_true rfl), (Nat.le_of_ble_eq_true rfl)⟩) hS hP (fun r1 H locs hr1 hP hS => ?_)
  subst hr1
  refine lv_if_eq (tgt := 13) hx hb dX6_letter_5 (by decide) (fun c2 => ?_) (fun c2 => absurd (by decide +kernel) c2)
  refine lv_iconst (v := (-1)) hx hb dX6_letter_13 (by decide +kernel) ?_
  exact W.iret (v := (-1)) hx hb hr (fun t ht hW => ⟨⟨(-1), (), rfl, rfl, trivial⟩, hS.F ht⟩) hS.2.2 dX6_letter_14

set_option maxHeartbeats 4000000 in
set_option maxRecDepth 100000 in
theorem c_X6_dense (l : Launch) (dC : Nat → ClassId) (dI : Nat → Nat → Nat) (h0 tp nw dr rd sc sk fl ps sh nm nb : Nat) (sz : Nat) (p0 : Int32) (p1 : Int32) (p2 : Int32) (p3 : Int32) : Met l yX6_dense (.code yX6_dense cX6_dense 12 (some .int) :: pw) ({ frames := 1, cells := 0, slots := 0, locals := 21 }) (pc (dC, dI) [.ref h0, .int p0, .int p1, .int p2, .int p3] sz [(h0, .inr (6, [.ref tp, .int 0, .ref nw, .ref dr, .ref rd, .ref sc, .ref sk, .ref fl, .ref ps, .int 0, .int 0, .ref sh])), (nw, .inr (1, [.ref nm, .ref nb, .int 0, .int 0, .int 0]))] []) (va_Qi (fun (r : Int32) (_ : Unit) => r = (-1)) (fun _ _ => True) (fun _ => False)) 0 0 (fun _ => False) := by
  refine Met.ofW (cc := cX6_dense) (maxL := 12) (ret := (some .int)) (by decide +kernel) rfl ?_
  intro p e s m args below meth c s₁ B hml hv
  obtain ⟨rfl, hsz, hP, hK, hD0, hN⟩ := hv
  have hx := B.exec
  have hb := B.bytes
  have hr := B.returns
  have hts := fun w (h : w ∈ pw) => atoms_spec (ws := Cond.code yX6_dense cX6_dense 12 (some .int) :: pw) B.pre w (List.mem_cons_of_mem _ h)
  have hown : s.vm.findClass RX6 = some m.cls := findClass_of_methodNamed B.named
  have hlocks := B.notSynchronized
  subst hsz
  have hD := hD0
  obtain ⟨H, hHe⟩ : ∃ H : Heap, H = s.heap := ⟨_, rfl⟩
  have hS : va_S (fun _ => False) s.heap H [] := by rw [hHe]; exact va_S.rf
  rw [← hHe] at hP
  have hl := lv_entry ([.ref h0, .int p0, .int p1, .int p2, .int p3]) (n := 12) (Nat.le_of_ble_eq_true rfl)
  rw [lg_entry_eq]
  generalize (lg_sl ([.ref h0, .int p0, .int p1, .int p2, .int p3]) ++ List.replicate (12 - (lg_sl ([.ref h0, .int p0, .int p1, .int p2, .int p3])).length) Slot.unset).toArray = ls at hl ⊢
  have hl : lv_has ls 12 [(0, .ref h0), (1, .int p0), (2, .int p1), (3, .int p2), (4, .int p3)] := hl
  rw [← hHe]
  refine lv_aload_n hx hb dX6_dense_0 rfl (lv_at hl 0 rfl) ?_
  refine lv_iload_n hx hb dX6_dense_1 rfl (lv_at hl 1 rfl) ?_
  have hPc := hP.sub (ws' := [(h0, .inr (6, [.ref tp, .int 0, .ref nw, .ref dr, .ref rd, .ref sc, .ref sk, .ref fl, .ref ps, .int 0, .int 0, .ref sh])), (nw, .inr (1, [.ref nm, .ref nb, .int 0, .int 0, .int 0]))]) [0, 1] rfl
  have hDc := hD.sub (ws' := [(h0, .inr (6, [.ref tp, .int 0, .ref nw, .ref dr, .ref rd, .ref sc, .ref sk, .ref fl, .ref ps, .int 0, .int 0, .ref sh])), (nw, .inr (1, [.ref nm, .ref nb, .int 0, .int 0, .int 0]))]) [0, 1] (by decide) rfl
  have hKc := hK.sub (tys' := []) [] rfl
  refine ro_i (va_runV (As := [.int p0]) (rest := []) ⟨hx, hb, hml, hown, hts⟩ (c_X6_isMask l dC dI h0 tp nw dr rd sc sk fl ps sh nm nb H.size p0 ) (cwV 1 hts (gV pq666 pq668 pq4 pq74 pq669) rfl rfl rfl (by decide +kernel) ⟨(Nat.le_of_ble_eq_true rfl), (Nat.le_of_ble_eq_true rfl)⟩) (pc_V hPc hDc hKc hN (va_recv hK hP (ci := 6) (q0 := 0) rfl rfl)) rfl rfl hl.1 rfl (lv_room (Nat.le_of_ble_eq_true rfl)) dX6_dense_2 ⟨(Nat.le_of_ble_eq_true rfl), (Nat.le_of_ble_eq_true rfl)⟩) hS hP (fun r1 H locs hr1 hP hS => ?_)
  subst hr1
  refine lv_if_eq (tgt := 17) hx hb dX6_dense_5 (by decide) (fun c2 => ?_) (fun c2 => absurd (by decide +kernel) c2)
  refine lv_iconst (v := (-1)) hx hb dX6_dense_17 (by decide +kernel) ?_
  exact W.iret (v := (-1)) hx hb hr (fun t ht hW => ⟨⟨(-1), (), rfl, rfl, trivial⟩, hS.F ht⟩) hS.2.2 dX6_dense_18

set_option maxHeartbeats 4000000 in
set_option maxRecDepth 100000 in
theorem c_X6_dots (l : Launch) (dC : Nat → ClassId) (dI : Nat → Nat → Nat) (h0 tp nw dr rd sc sk fl ps sh nm nb : Nat) (sz : Nat) (p0 : Int32) (p1 : Int32) (p2 : Int32) : Met l yX6_dots (.code yX6_dots cX6_dots 5 (some .int) :: pw) ({ frames := 1, cells := 0, slots := 0, locals := 21 }) (pc (dC, dI) [.ref h0, .int p0, .int p1, .int p2] sz [(h0, .inr (6, [.ref tp, .int 0, .ref nw, .ref dr, .ref rd, .ref sc, .ref sk, .ref fl, .ref ps, .int 0, .int 0, .ref sh])), (nw, .inr (1, [.ref nm, .ref nb, .int 0, .int 0, .int 0]))] []) (va_Qi (fun (r : Int32) (_ : Unit) => r = (-1)) (fun _ _ => True) (fun _ => False)) 0 0 (fun _ => False) := by
  refine Met.ofW (cc := cX6_dots) (maxL := 5) (ret := (some .int)) (by decide +kernel) rfl ?_
  intro p e s m args below meth c s₁ B hml hv
  obtain ⟨rfl, hsz, hP, hK, hD0, hN⟩ := hv
  have hx := B.exec
  have hb := B.bytes
  have hr := B.returns
  have hts := fun w (h : w ∈ pw) => atoms_spec (ws := Cond.code yX6_dots cX6_dots 5 (some .int) :: pw) B.pre w (List.mem_cons_of_mem _ h)
  have hown : s.vm.findClass RX6 = some m.cls := findClass_of_methodNamed B.named
  have hlocks := B.notSynchronized
  subst hsz
  have hD := hD0
  obtain ⟨H, hHe⟩ : ∃ H : Heap, H = s.heap := ⟨_, rfl⟩
  have hS : va_S (fun _ => False) s.heap H [] := by rw [hHe]; exact va_S.rf
  rw [← hHe] at hP
  have hl := lv_entry ([.ref h0, .int p0, .int p1, .int p2]) (n := 5) (Nat.le_of_ble_eq_true rfl)
  rw [lg_entry_eq]
  generalize (lg_sl ([.ref h0, .int p0, .int p1, .int p2]) ++ List.replicate (5 - (lg_sl ([.ref h0, .int p0, .int p1, .int p2])).length) Slot.unset).toArray = ls at hl ⊢
  have hl : lv_has ls 5 [(0, .ref h0), (1, .int p0), (2, .int p1), (3, .int p2)] := hl
  rw [← hHe]
  refine lv_aload_n hx hb dX6_dots_0 rfl (lv_at hl 0 rfl) ?_
  refine lv_iload_n hx hb dX6_dots_1 rfl (lv_at hl 1 rfl) ?_
  have hPc := hP.sub (ws' := [(h0, .inr (6, [.ref tp, .int 0, .ref nw, .ref dr, .ref rd, .ref sc, .ref sk, .ref fl, .ref ps, .int 0, .int 0, .ref sh])), (nw, .inr (1, [.ref nm, .ref nb, .int 0, .int 0, .int 0]))]) [0, 1] rfl
  have hDc := hD.sub (ws' := [(h0, .inr (6, [.ref tp, .int 0, .ref nw, .ref dr, .ref rd, .ref sc, .ref sk, .ref fl, .ref ps, .int 0, .int 0, .ref sh])), (nw, .inr (1, [.ref nm, .ref nb, .int 0, .int 0, .int 0]))]) [0, 1] (by decide) rfl
  have hKc := hK.sub (tys' := []) [] rfl
  refine ro_i (va_runV (As := [.int p0]) (rest := []) ⟨hx, hb, hml, hown, hts⟩ (c_X6_isMask l dC dI h0 tp nw dr rd sc sk fl ps sh nm nb H.size p0 ) (cwV 1 hts (gV pq666 pq668 pq4 pq74 pq669) rfl rfl rfl (by decide +kernel) ⟨(Nat.le_of_ble_eq_true rfl), (Nat.le_of_ble_eq_true rfl)⟩) (pc_V hPc hDc hKc hN (va_recv hK hP (ci := 6) (q0 := 0) rfl rfl)) rfl rfl hl.1 rfl (lv_room (Nat.le_of_ble_eq_true rfl)) dX6_dots_2 ⟨(Nat.le_of_ble_eq_true rfl), (Nat.le_of_ble_eq_true rfl)⟩) hS hP (fun r1 H locs hr1 hP hS => ?_)
  subst hr1
  refine lv_if_eq (tgt := 12) hx hb dX6_dots_5 (by decide) (fun c2 => ?_) (fun c2 => absurd (by decide +kernel) c2)
  refine lv_iconst (v := (-1)) hx hb dX6_dots_12 (by decide +kernel) ?_
  exact W.iret (v := (-1)) hx hb hr (fun t ht hW => ⟨⟨(-1), (), rfl, rfl, trivial⟩, hS.F ht⟩) hS.2.2 dX6_dots_13

set_option maxHeartbeats 4000000 in
set_option maxRecDepth 100000 in
theorem c_X6_spread (l : Launch) (dC : Nat → ClassId) (dI : Nat → Nat → Nat) (h0 tp nw dr rd sc sk fl ps sh nm nb : Nat) (sz : Nat) (p0 : Int32) (p1 : Int32) : Met l yX6_spread (.code yX6_spread cX6_spread 3 (some .int) :: pw) ({ frames := 1, cells := 0, slots := 0, locals := 21 }) (pc (dC, dI) [.ref h0, .int p0, .int p1] sz [(h0, .inr (6, [.ref tp, .int 0, .ref nw, .ref dr, .ref rd, .ref sc, .ref sk, .ref fl, .ref ps, .int 0, .int 0, .ref sh])), (nw, .inr (1, [.ref nm, .ref nb, .int 0, .int 0, .int 0]))] []) (va_Qi (fun (r : Int32) (_ : Unit) => r = (-1)) (fun _ _ => True) (fun _ => False)) 0 0 (fun _ => False) := by
  refine Met.ofW (cc := cX6_spread) (maxL := 3) (ret := (some .int)) (by decide +kernel) rfl ?_
  intro p e s m args below meth c s₁ B hml hv
  obtain ⟨rfl, hsz, hP, hK, hD0, hN⟩ := hv
  have hx := B.exec
  have hb := B.bytes
  have hr := B.returns
  have hts := fun w (h : w ∈ pw) => atoms_spec (ws := Cond.code yX6_spread cX6_spread 3 (some .int) :: pw) B.pre w (List.mem_cons_of_mem _ h)
  have hown : s.vm.findClass RX6 = some m.cls := findClass_of_methodNamed B.named
  have hlocks := B.notSynchronized
  subst hsz
  have hD := hD0
  obtain ⟨H, hHe⟩ : ∃ H : Heap, H = s.heap := ⟨_, rfl⟩
  have hS : va_S (fun _ => False) s.heap H [] := by rw [hHe]; exact va_S.rf
  rw [← hHe] at hP
  have hl := lv_entry ([.ref h0, .int p0, .int p1]) (n := 3) (Nat.le_of_ble_eq_true rfl)
  rw [lg_entry_eq]
  generalize (lg_sl ([.ref h0, .int p0, .int p1]) ++ List.replicate (3 - (lg_sl ([.ref h0, .int p0, .int p1])).length) Slot.unset).toArray = ls at hl ⊢
  have hl : lv_has ls 3 [(0, .ref h0), (1, .int p0), (2, .int p1)] := hl
  rw [← hHe]
  refine lv_aload_n hx hb dX6_spread_0 rfl (lv_at hl 0 rfl) ?_
  refine lv_iload_n hx hb dX6_spread_1 rfl (lv_at hl 1 rfl) ?_
  have hPc := hP.sub (ws' := [(h0, .inr (6, [.ref tp, .int 0, .ref nw, .ref dr, .ref rd, .ref sc, .ref sk, .ref fl, .ref ps, .int 0, .int 0, .ref sh])), (nw, .inr (1, [.ref nm, .ref nb, .int 0, .int 0, .int 0]))]) [0, 1] rfl
  have hDc := hD.sub (ws' := [(h0, .inr (6, [.ref tp, .int 0, .ref nw, .ref dr, .ref rd, .ref sc, .ref sk, .ref fl, .ref ps, .int 0, .int 0, .ref sh])), (nw, .inr (1, [.ref nm, .ref nb, .int 0, .int 0, .int 0]))]) [0, 1] (by decide) rfl
  have hKc := hK.sub (tys' := []) [] rfl
  refine ro_i (va_runV (As := [.int p0]) (rest := []) ⟨hx, hb, hml, hown, hts⟩ (c_X6_isMask l dC dI h0 tp nw dr rd sc sk fl ps sh nm nb H.size p0 ) (cwV 1 hts (gV pq666 pq668 pq4 pq74 pq669) rfl rfl rfl (by decide +kernel) ⟨(Nat.le_of_ble_eq_true rfl), (Nat.le_of_ble_eq_true rfl)⟩) (pc_V hPc hDc hKc hN (va_recv hK hP (ci := 6) (q0 := 0) rfl rfl)) rfl rfl hl.1 rfl (lv_room (Nat.le_of_ble_eq_true rfl)) dX6_spread_2 ⟨(Nat.le_of_ble_eq_true rfl), (Nat.le_of_ble_eq_true rfl)⟩) hS hP (fun r1 H locs hr1 hP hS => ?_)
  subst hr1
  refine lv_if_ne (tgt := 10) hx hb dX6_spread_5 (by decide) (fun c2 => absurd (by decide +kernel) c2) (fun c2 => ?_)
  refine lv_iconst (v := (-1)) hx hb dX6_spread_8 (by decide +kernel) ?_
  exact W.iret (v := (-1)) hx hb hr (fun t ht hW => ⟨⟨(-1), (), rfl, rfl, trivial⟩, hS.F ht⟩) hS.2.2 dX6_spread_9

set_option maxHeartbeats 4000000 in
set_option maxRecDepth 100000 in
theorem c_X6_share (l : Launch) (dC : Nat → ClassId) (dI : Nat → Nat → Nat) (h0 tp nw dr rd sc sk fl ps sh nm nb : Nat) (sz : Nat) (p0 : Int32) : Met l yX6_share (.code yX6_share cX6_share 3 (some .long) :: pw) ({ frames := 1, cells := 0, slots := 0, locals := 21 }) (pc (dC, dI) [.ref h0, .int p0] sz [(h0, .inr (6, [.ref tp, .int 0, .ref nw, .ref dr, .ref rd, .ref sc, .ref sk, .ref fl, .ref ps, .int 0, .int 0, .ref sh])), (nw, .inr (1, [.ref nm, .ref nb, .int 0, .int 0, .int 0]))] []) (va_Ql (fun (r : Int64) (_ : Unit) => r = (-1)) (fun _ _ => True) (fun _ => False)) 0 0 (fun _ => False) := by
  refine Met.ofW (cc := cX6_share) (maxL := 3) (ret := (some .long)) (by decide +kernel) rfl ?_
  intro p e s m args below meth c s₁ B hml hv
  obtain ⟨rfl, hsz, hP, hK, hD0, hN⟩ := hv
  have hx := B.exec
  have hb := B.bytes
  have hr := B.returns
  have hts := fun w (h : w ∈ pw) => atoms_spec (ws := Cond.code yX6_share cX6_share 3 (some .long) :: pw) B.pre w (List.mem_cons_of_mem _ h)
  have hown : s.vm.findClass RX6 = some m.cls := findClass_of_methodNamed B.named
  have hlocks := B.notSynchronized
  subst hsz
  have hD := hD0
  obtain ⟨H, hHe⟩ : ∃ H : Heap, H = s.heap := ⟨_, rfl⟩
  have hS : va_S (fun _ => False) s.heap H [] := by rw [hHe]; exact va_S.rf
  rw [← hHe] at hP
  have hl := lv_entry ([.ref h0, .int p0]) (n := 3) (Nat.le_of_ble_eq_true rfl)
  rw [lg_entry_eq]
  generalize (lg_sl ([.ref h0, .int p0]) ++ List.replicate (3 - (lg_sl ([.ref h0, .int p0])).length) Slot.unset).toArray = ls at hl ⊢
  have hl : lv_has ls 3 [(0, .ref h0), (1, .int p0)] := hl
  rw [← hHe]
  refine lv_aload_n hx hb dX6_share_0 rfl (lv_at hl 0 rfl) ?_
  refine lv_iload_n hx hb dX6_share_1 rfl (lv_at hl 1 rfl) ?_
  have hPc := hP.sub (ws' := [(h0, .inr (6, [.ref tp, .int 0, .ref nw, .ref dr, .ref rd, .ref sc, .ref sk, .ref fl, .ref ps, .int 0, .int 0, .ref sh])), (nw, .inr (1, [.ref nm, .ref nb, .int 0, .int 0, .int 0]))]) [0, 1] rfl
  have hDc := hD.sub (ws' := [(h0, .inr (6, [.ref tp, .int 0, .ref nw, .ref dr, .ref rd, .ref sc, .ref sk, .ref fl, .ref ps, .int 0, .int 0, .ref sh])), (nw, .inr (1, [.ref nm, .ref nb, .int 0, .int 0, .int 0]))]) [0, 1] (by decide) rfl
  have hKc := hK.sub (tys' := []) [] rfl
  refine ro_i (va_runV (As := [.int p0]) (rest := []) ⟨hx, hb, hml, hown, hts⟩ (c_X6_isMask l dC dI h0 tp nw dr rd sc sk fl ps sh nm nb H.size p0 ) (cwV 1 hts (gV pq666 pq668 pq4 pq74 pq669) rfl rfl rfl (by decide +kernel) ⟨(Nat.le_of_ble_eq_true rfl), (Nat.le_of_ble_eq_true rfl)⟩) (pc_V hPc hDc hKc hN (va_recv hK hP (ci := 6) (q0 := 0) rfl rfl)) rfl rfl hl.1 rfl (lv_room (Nat.le_of_ble_eq_true rfl)) dX6_share_2 ⟨(Nat.le_of_ble_eq_true rfl), (Nat.le_of_ble_eq_true rfl)⟩) hS hP (fun r1 H locs hr1 hP hS => ?_)
  subst hr1
  refine lv_if_ne (tgt := 12) hx hb dX6_share_5 (by decide) (fun c2 => absurd (by decide +kernel) c2) (fun c2 => ?_)
  refine lv_ldc2 hx hb hown (hts _ pq949) dX6_share_8 ?_
  exact W.lret (v := (-1)) hx hb hr (fun t ht hW => ⟨⟨(-1), (), rfl, rfl, trivial⟩, hS.F ht⟩) hS.2.2 dX6_share_11

set_option maxHeartbeats 4000000 in
set_option maxRecDepth 100000 in
theorem c_X6_alike (l : Launch) (dC : Nat → ClassId) (dI : Nat → Nat → Nat) (h0 tp nw dr rd sc sk fl ps sh nm nb : Nat) (sz : Nat) (p0 : Int32) (p1 : Int32) (p2 : Int32) : Met l yX6_alike (.code yX6_alike cX6_alike 4 (some .int) :: pw) ({ frames := 1, cells := 0, slots := 0, locals := 21 }) (pc (dC, dI) [.ref h0, .int p0, .int p1, .int p2] sz [(h0, .inr (6, [.ref tp, .int 0, .ref nw, .ref dr, .ref rd, .ref sc, .ref sk, .ref fl, .ref ps, .int 0, .int 0, .ref sh])), (nw, .inr (1, [.ref nm, .ref nb, .int 0, .int 0, .int 0]))] []) (va_Qi (fun (r : Int32) (_ : Unit) => r = (-1)) (fun _ _ => True) (fun _ => False)) 0 0 (fun _ => False) := by
  refine Met.ofW (cc := cX6_alike) (maxL := 4) (ret := (some .int)) (by decide +kernel) rfl ?_
  intro p e s m args below meth c s₁ B hml hv
  obtain ⟨rfl, hsz, hP, hK, hD0, hN⟩ := hv
  have hx := B.exec
  have hb := B.bytes
  have hr := B.returns
  have hts := fun w (h : w ∈ pw) => atoms_spec (ws := Cond.code yX6_alike cX6_alike 4 (some .int) :: pw) B.pre w (List.mem_cons_of_mem _ h)
  have hown : s.vm.findClass RX6 = some m.cls := findClass_of_methodNamed B.named
  have hlocks := B.notSynchronized
  subst hsz
  have hD := hD0
  obtain ⟨H, hHe⟩ : ∃ H : Heap, H = s.heap := ⟨_, rfl⟩
  have hS : va_S (fun _ => False) s.heap H [] := by rw [hHe]; exact va_S.rf
  rw [← hHe] at hP
  have hl := lv_entry ([.ref h0, .int p0, .int p1, .int p2]) (n := 4) (Nat.le_of_ble_eq_true rfl)
  rw [lg_entry_eq]
  generalize (lg_sl ([.ref h0, .int p0, .int p1, .int p2]) ++ List.replicate (4 - (lg_sl ([.ref h0, .int p0, .int p1, .int p2])).length) Slot.unset).toArray = ls at hl ⊢
  have hl : lv_has ls 4 [(0, .ref h0), (1, .int p0), (2, .int p1), (3, .int p2)] := hl
  rw [← hHe]
  refine lv_aload_n hx hb dX6_alike_0 rfl (lv_at hl 0 rfl) ?_
  refine lv_iload_n hx hb dX6_alike_1 rfl (lv_at hl 1 rfl) ?_
  have hPc := hP.sub (ws' := [(h0, .inr (6, [.ref tp, .int 0, .ref nw, .ref dr, .ref rd, .ref sc, .ref sk, .ref fl, .ref ps, .int 0, .int 0, .ref sh])), (nw, .inr (1, [.ref nm, .ref nb, .int 0, .int 0, .int 0]))]) [0, 1] rfl
  have hDc := hD.sub (ws' := [(h0, .inr (6, [.ref tp, .int 0, .ref nw, .ref dr, .ref rd, .ref sc, .ref sk, .ref fl, .ref ps, .int 0, .int 0, .ref sh])), (nw, .inr (1, [.ref nm, .ref nb, .int 0, .int 0, .int 0]))]) [0, 1] (by decide) rfl
  have hKc := hK.sub (tys' := []) [] rfl
  refine ro_i (va_runV (As := [.int p0]) (rest := []) ⟨hx, hb, hml, hown, hts⟩ (c_X6_isMask l dC dI h0 tp nw dr rd sc sk fl ps sh nm nb H.size p0 ) (cwV 1 hts (gV pq666 pq668 pq4 pq74 pq669) rfl rfl rfl (by decide +kernel) ⟨(Nat.le_of_ble_eq_true rfl), (Nat.le_of_ble_eq_true rfl)⟩) (pc_V hPc hDc hKc hN (va_recv hK hP (ci := 6) (q0 := 0) rfl rfl)) rfl rfl hl.1 rfl (lv_room (Nat.le_of_ble_eq_true rfl)) dX6_alike_2 ⟨(Nat.le_of_ble_eq_true rfl), (Nat.le_of_ble_eq_true rfl)⟩) hS hP (fun r1 H locs hr1 hP hS => ?_)
  subst hr1
  refine lv_if_eq (tgt := 24) hx hb dX6_alike_5 (by decide) (fun c2 => ?_) (fun c2 => absurd (by decide +kernel) c2)
  refine lv_iconst (v := (-1)) hx hb dX6_alike_24 (by decide +kernel) ?_
  exact W.iret (v := (-1)) hx hb hr (fun t ht hW => ⟨⟨(-1), (), rfl, rfl, trivial⟩, hS.F ht⟩) hS.2.2 dX6_alike_25
