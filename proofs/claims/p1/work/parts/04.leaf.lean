def yX6_isBody : MethodName := ⟨RX6, "isBody", "(I)Z"⟩
abbrev cX6_isBody : ByteArray := prog_1_method_61_code
abbrev cX6_areTwoBodies : ByteArray := prog_1_method_62_code
abbrev cX6_isFrom0To : ByteArray := prog_1_method_63_code
abbrev cX6_isMask : ByteArray := prog_1_method_60_code
def yX6_areTwoBodies : MethodName := ⟨RX6, "areTwoBodies", "(II)Z"⟩
def yX6_isFrom0To : MethodName := ⟨RX6, "isFrom0To", "(II)Z"⟩
def yX6_isMask : MethodName := ⟨RX6, "isMask", "(I)Z"⟩
theorem dX6_areTwoBodies_0 : decode cX6_areTwoBodies 0 = .ok (.aload_n 0, 1) := by decide +kernel
theorem dX6_areTwoBodies_1 : decode cX6_areTwoBodies 1 = .ok (.iload_n 1, 1) := by decide +kernel
theorem dX6_areTwoBodies_2 : decode cX6_areTwoBodies 2 = .ok (.invokevirtual 86, 3) := by decide +kernel
theorem dX6_areTwoBodies_5 : decode cX6_areTwoBodies 5 = .ok (.ifCond .eq 20, 3) := by decide +kernel
theorem dX6_areTwoBodies_25 : decode cX6_areTwoBodies 25 = .ok (.iconst 0, 1) := by decide +kernel
theorem dX6_areTwoBodies_26 : decode cX6_areTwoBodies 26 = .ok (.ireturn, 1) := by decide +kernel
theorem dX6_isBody_0 : decode cX6_isBody 0 = .ok (.iload_n 1, 1) := by decide +kernel
theorem dX6_isBody_1 : decode cX6_isBody 1 = .ok (.ifCond .lt 18, 3) := by decide +kernel
theorem dX6_isBody_4 : decode cX6_isBody 4 = .ok (.iload_n 1, 1) := by decide +kernel
theorem dX6_isBody_5 : decode cX6_isBody 5 = .ok (.aload_n 0, 1) := by decide +kernel
theorem dX6_isBody_6 : decode cX6_isBody 6 = .ok (.getfield 20, 3) := by decide +kernel
theorem dX6_isBody_9 : decode cX6_isBody 9 = .ok (.getfield 83, 3) := by decide +kernel
theorem dX6_isBody_12 : decode cX6_isBody 12 = .ok (.if_icmp .ge 7, 3) := by decide +kernel
theorem dX6_isBody_19 : decode cX6_isBody 19 = .ok (.iconst 0, 1) := by decide +kernel
theorem dX6_isBody_20 : decode cX6_isBody 20 = .ok (.ireturn, 1) := by decide +kernel
theorem dX6_isFrom0To_0 : decode cX6_isFrom0To 0 = .ok (.iload_n 0, 1) := by decide +kernel
theorem dX6_isFrom0To_1 : decode cX6_isFrom0To 1 = .ok (.ifCond .lt 12, 3) := by decide +kernel
theorem dX6_isFrom0To_4 : decode cX6_isFrom0To 4 = .ok (.iload_n 0, 1) := by decide +kernel
theorem dX6_isFrom0To_5 : decode cX6_isFrom0To 5 = .ok (.iload_n 1, 1) := by decide +kernel
theorem dX6_isFrom0To_6 : decode cX6_isFrom0To 6 = .ok (.if_icmp .gt 7, 3) := by decide +kernel
theorem dX6_isFrom0To_9 : decode cX6_isFrom0To 9 = .ok (.iconst 1, 1) := by decide +kernel
theorem dX6_isFrom0To_10 : decode cX6_isFrom0To 10 = .ok (.goto 4, 3) := by decide +kernel
theorem dX6_isFrom0To_13 : decode cX6_isFrom0To 13 = .ok (.iconst 0, 1) := by decide +kernel
theorem dX6_isFrom0To_14 : decode cX6_isFrom0To 14 = .ok (.ireturn, 1) := by decide +kernel
theorem dX6_isMask_0 : decode cX6_isMask 0 = .ok (.iload_n 1, 1) := by decide +kernel
theorem dX6_isMask_1 : decode cX6_isMask 1 = .ok (.ifCond .lt 18, 3) := by decide +kernel
theorem dX6_isMask_4 : decode cX6_isMask 4 = .ok (.iload_n 1, 1) := by decide +kernel
theorem dX6_isMask_5 : decode cX6_isMask 5 = .ok (.aload_n 0, 1) := by decide +kernel
theorem dX6_isMask_6 : decode cX6_isMask 6 = .ok (.getfield 20, 3) := by decide +kernel
theorem dX6_isMask_9 : decode cX6_isMask 9 = .ok (.getfield 367, 3) := by decide +kernel
theorem dX6_isMask_12 : decode cX6_isMask 12 = .ok (.if_icmp .ge 7, 3) := by decide +kernel
theorem dX6_isMask_19 : decode cX6_isMask 19 = .ok (.iconst 0, 1) := by decide +kernel
theorem dX6_isMask_20 : decode cX6_isMask 20 = .ok (.ireturn, 1) := by decide +kernel
set_option maxRecDepth 100000 in
theorem pq2 : Cond.selects RX6 yX6_isBody yX6_isBody ∈ pw := pw_mem (i := 2) (by decide +kernel) rfl
set_option maxRecDepth 100000 in
theorem pq74 : Cond.initialized RX6 ∈ pw := pw_mem (i := 74) (by decide +kernel) rfl
set_option maxRecDepth 100000 in
theorem pq223 : Cond.fieldLink RX6 367 "MaskTouch$Field" "maskCount" "I" ∈ pw := pw_mem (i := 223) (by decide +kernel) rfl
set_option maxRecDepth 100000 in
theorem pq226 : Cond.fieldLink RX6 83 "MaskTouch$Field" "bodyCount" "I" ∈ pw := pw_mem (i := 226) (by decide +kernel) rfl
set_option maxRecDepth 100000 in
theorem pq351 : Cond.fieldLink RX6 20 "MaskTouch" "now" "LMaskTouch$Field;" ∈ pw := pw_mem (i := 351) (by decide +kernel) rfl
set_option maxRecDepth 100000 in
theorem pq636 : Cond.methodLink RX6 86 yX6_isBody ∈ pw := pw_mem (i := 636) (by decide +kernel) rfl
set_option maxRecDepth 100000 in
theorem pq638 : Cond.instanceMethod yX6_isBody ∈ pw := pw_mem (i := 638) (by decide +kernel) rfl
set_option maxRecDepth 100000 in
theorem pq639 : Cond.code yX6_isBody cX6_isBody 2 (some .boolean) ∈ pw := pw_mem (i := 639) (by rfl) rfl
set_option maxHeartbeats 4000000 in
set_option maxRecDepth 100000 in
theorem c_X6_isMask (l : Launch) (dC : Nat → ClassId) (dI : Nat → Nat → Nat) (h0 tp nw dr rd sc sk fl ps sh nm nb : Nat) (sz : Nat) (p0 : Int32) : Met l yX6_isMask (.code yX6_isMask cX6_isMask 2 (some .boolean) :: pw) ({ frames := 0, cells := 0, slots := 0, locals := 0 }) (pc (dC, dI) [.ref h0, .int p0] sz [(h0, .inr (6, [.ref tp, .int 0, .ref nw, .ref dr, .ref rd, .ref sc, .ref sk, .ref fl, .ref ps, .int 0, .int 0, .ref sh])), (nw, .inr (1, [.ref nm, .ref nb, .int 0, .int 0, .int 0]))] []) (va_Qi (fun (r : Int32) (_ : Unit) => r = 0) (fun _ _ => True) (fun _ => False)) 0 0 (fun _ => False) := by
  refine Met.ofW (cc := cX6_isMask) (maxL := 2) (ret := (some .boolean)) (by decide +kernel) rfl ?_
  intro p e s m args below meth c s₁ B hml hv
  obtain ⟨rfl, hsz, hP, hK, hD0, hN⟩ := hv
  have hx := B.exec
  have hb := B.bytes
  have hr := B.returns
  have hts := fun w (h : w ∈ pw) => atoms_spec (ws := Cond.code yX6_isMask cX6_isMask 2 (some .boolean) :: pw) B.pre w (List.mem_cons_of_mem _ h)
  have hown : s.vm.findClass RX6 = some m.cls := findClass_of_methodNamed B.named
  have hlocks := B.notSynchronized
  subst hsz
  have hD := hD0
  obtain ⟨H, hHe⟩ : ∃ H : Heap, H = s.heap := ⟨_, rfl⟩
  have hS : va_S (fun _ => False) s.heap H [] := by rw [hHe]; exact va_S.rf
  rw [← hHe] at hP
  have hl := lv_entry ([.ref h0, .int p0]) (n := 2) (Nat.le_of_ble_eq_true rfl)
  rw [lg_entry_eq]
  generalize (lg_sl ([.ref h0, .int p0]) ++ List.replicate (2 - (lg_sl ([.ref h0, .int p0])).length) Slot.unset).toArray = ls at hl ⊢
  have hl : lv_has ls 2 [(0, .ref h0), (1, .int p0)] := hl
  rw [← hHe]
  refine lv_iload_n hx hb dX6_isMask_0 rfl (lv_at hl 1 rfl) ?_
  refine lv_if_lt (tgt := 19) hx hb dX6_isMask_1 (by decide) (fun c1 => ?_) (fun c1 => ?_)
  · refine lv_iconst (v := 0) hx hb dX6_isMask_19 (by decide +kernel) ?_
    exact W.zret (v := 0) hx hb hr (by decide +kernel) (fun t ht hW => ⟨⟨0, (), rfl, rfl, trivial⟩, hS.F ht⟩) hS.2.2 dX6_isMask_20
  · refine lv_iload_n hx hb dX6_isMask_4 rfl (lv_at hl 1 rfl) ?_
    refine lv_aload_n hx hb dX6_isMask_5 rfl (lv_at hl 0 rfl) ?_
    refine va_get (D := (dC, dI)) (ci := 6) (v := .ref nw) (C := RX6) (T := TX6) (N := 12) hx hb hts inX6 hown hK hP 0 rfl rfl 2 (by decide) (hts _ pq351) (fun _ h9 => h9) rfl dX6_isMask_6 ?_
    refine va_get (D := (dC, dI)) (ci := 1) (v := .int 0) (C := RX1) (T := TX1) (N := 5) hx hb hts inX1 hown hK hP 1 rfl rfl 2 (by decide) (hts _ pq223) (fun _ h9 => h9) rfl dX6_isMask_9 ?_
    refine lv_icmp_ge (tgt := 19) hx hb dX6_isMask_12 (by decide) (fun c2 => ?_) (fun c2 => absurd (Int32.not_lt.mp c1) c2)
    refine lv_iconst (v := 0) hx hb dX6_isMask_19 (by decide +kernel) ?_
    exact W.zret (v := 0) hx hb hr (by decide +kernel) (fun t ht hW => ⟨⟨0, (), rfl, rfl, trivial⟩, hS.F ht⟩) hS.2.2 dX6_isMask_20

set_option maxHeartbeats 4000000 in
set_option maxRecDepth 100000 in
theorem c_X6_isBody (l : Launch) (dC : Nat → ClassId) (dI : Nat → Nat → Nat) (h0 tp nw dr rd sc sk fl ps sh nm nb : Nat) (sz : Nat) (p0 : Int32) : Met l yX6_isBody (.code yX6_isBody cX6_isBody 2 (some .boolean) :: pw) ({ frames := 0, cells := 0, slots := 0, locals := 0 }) (pc (dC, dI) [.ref h0, .int p0] sz [(h0, .inr (6, [.ref tp, .int 0, .ref nw, .ref dr, .ref rd, .ref sc, .ref sk, .ref fl, .ref ps, .int 0, .int 0, .ref sh])), (nw, .inr (1, [.ref nm, .ref nb, .int 0, .int 0, .int 0]))] []) (va_Qi (fun (r : Int32) (_ : Unit) => r = 0) (fun _ _ => True) (fun _ => False)) 0 0 (fun _ => False) := by
  refine Met.ofW (cc := cX6_isBody) (maxL := 2) (ret := (some .boolean)) (by decide +kernel) rfl ?_
  intro p e s m args below meth c s₁ B hml hv
  obtain ⟨rfl, hsz, hP, hK, hD0, hN⟩ := hv
  have hx := B.exec
  have hb := B.bytes
  have hr := B.returns
  have hts := fun w (h : w ∈ pw) => atoms_spec (ws := Cond.code yX6_isBody cX6_isBody 2 (some .boolean) :: pw) B.pre w (List.mem_cons_of_mem _ h)
  have hown : s.vm.findClass RX6 = some m.cls := findClass_of_methodNamed B.named
  have hlocks := B.notSynchronized
  subst hsz
  have hD := hD0
  obtain ⟨H, hHe⟩ : ∃ H : Heap, H = s.heap := ⟨_, rfl⟩
  have hS : va_S (fun _ => False) s.heap H [] := by rw [hHe]; exact va_S.rf
  rw [← hHe] at hP
  have hl := lv_entry ([.ref h0, .int p0]) (n := 2) (Nat.le_of_ble_eq_true rfl)
  rw [lg_entry_eq]
  generalize (lg_sl ([.ref h0, .int p0]) ++ List.replicate (2 - (lg_sl ([.ref h0, .int p0])).length) Slot.unset).toArray = ls at hl ⊢
  have hl : lv_has ls 2 [(0, .ref h0), (1, .int p0)] := hl
  rw [← hHe]
  refine lv_iload_n hx hb dX6_isBody_0 rfl (lv_at hl 1 rfl) ?_
  refine lv_if_lt (tgt := 19) hx hb dX6_isBody_1 (by decide) (fun c1 => ?_) (fun c1 => ?_)
  · refine lv_iconst (v := 0) hx hb dX6_isBody_19 (by decide +kernel) ?_
    exact W.zret (v := 0) hx hb hr (by decide +kernel) (fun t ht hW => ⟨⟨0, (), rfl, rfl, trivial⟩, hS.F ht⟩) hS.2.2 dX6_isBody_20
  · refine lv_iload_n hx hb dX6_isBody_4 rfl (lv_at hl 1 rfl) ?_
    refine lv_aload_n hx hb dX6_isBody_5 rfl (lv_at hl 0 rfl) ?_
    refine va_get (D := (dC, dI)) (ci := 6) (v := .ref nw) (C := RX6) (T := TX6) (N := 12) hx hb hts inX6 hown hK hP 0 rfl rfl 2 (by decide) (hts _ pq351) (fun _ h9 => h9) rfl dX6_isBody_6 ?_
    refine va_get (D := (dC, dI)) (ci := 1) (v := .int 0) (C := RX1) (T := TX1) (N := 5) hx hb hts inX1 hown hK hP 1 rfl rfl 3 (by decide) (hts _ pq226) (fun _ h9 => h9) rfl dX6_isBody_9 ?_
    refine lv_icmp_ge (tgt := 19) hx hb dX6_isBody_12 (by decide) (fun c2 => ?_) (fun c2 => absurd (Int32.not_lt.mp c1) c2)
    refine lv_iconst (v := 0) hx hb dX6_isBody_19 (by decide +kernel) ?_
    exact W.zret (v := 0) hx hb hr (by decide +kernel) (fun t ht hW => ⟨⟨0, (), rfl, rfl, trivial⟩, hS.F ht⟩) hS.2.2 dX6_isBody_20

set_option maxHeartbeats 4000000 in
set_option maxRecDepth 100000 in
theorem c_X6_areTwoBodies (l : Launch) (dC : Nat → ClassId) (dI : Nat → Nat → Nat) (h0 tp nw dr rd sc sk fl ps sh nm nb : Nat) (sz : Nat) (p0 : Int32) (p1 : Int32) : Met l yX6_areTwoBodies (.code yX6_areTwoBodies cX6_areTwoBodies 3 (some .boolean) :: pw) ({ frames := 1, cells := 0, slots := 0, locals := 21 }) (pc (dC, dI) [.ref h0, .int p0, .int p1] sz [(h0, .inr (6, [.ref tp, .int 0, .ref nw, .ref dr, .ref rd, .ref sc, .ref sk, .ref fl, .ref ps, .int 0, .int 0, .ref sh])), (nw, .inr (1, [.ref nm, .ref nb, .int 0, .int 0, .int 0]))] []) (va_Qi (fun (r : Int32) (_ : Unit) => r = 0) (fun _ _ => True) (fun _ => False)) 0 0 (fun _ => False) := by
  refine Met.ofW (cc := cX6_areTwoBodies) (maxL := 3) (ret := (some .boolean)) (by decide +kernel) rfl ?_
  intro p e s m args below meth c s₁ B hml hv
  obtain ⟨rfl, hsz, hP, hK, hD0, hN⟩ := hv
  have hx := B.exec
  have hb := B.bytes
  have hr := B.returns
  have hts := fun w (h : w ∈ pw) => atoms_spec (ws := Cond.code yX6_areTwoBodies cX6_areTwoBodies 3 (some .boolean) :: pw) B.pre w (List.mem_cons_of_mem _ h)
  have hown : s.vm.findClass RX6 = some m.cls := findClass_of_methodNamed B.named
  have hlocks := B.notSynchronized
  subst hsz
  have hD := hD0
  obtain ⟨H, hHe⟩ : ∃ H : Heap, H = s.heap := ⟨_, rfl⟩
  have hS : va_S (fun _ => False) s.heap H [] := by rw [hHe]; exact va_S.rf
  rw [← hHe] at hP
  have hl := lv_entry ([.ref h0, .int p0, .int p1]) (n := 3) (Nat.le_of_ble_eq_true rfl)
  rw [lg_entry_eq]
  generalize (lg_sl ([.ref h0, .int p0, .int p1]) ++ List.replicate (3 - (lg_sl ([.ref h0, .int p0, .int p1])).length) Slot.unset).toArray = ls at hl ⊢
  have hl : lv_has ls 3 [(0, .ref h0), (1, .int p0), (2, .int p1)] := hl
  rw [← hHe]
  refine lv_aload_n hx hb dX6_areTwoBodies_0 rfl (lv_at hl 0 rfl) ?_
  refine lv_iload_n hx hb dX6_areTwoBodies_1 rfl (lv_at hl 1 rfl) ?_
  have hPc := hP.sub (ws' := [(h0, .inr (6, [.ref tp, .int 0, .ref nw, .ref dr, .ref rd, .ref sc, .ref sk, .ref fl, .ref ps, .int 0, .int 0, .ref sh])), (nw, .inr (1, [.ref nm, .ref nb, .int 0, .int 0, .int 0]))]) [0, 1] rfl
  have hDc := hD.sub (ws' := [(h0, .inr (6, [.ref tp, .int 0, .ref nw, .ref dr, .ref rd, .ref sc, .ref sk, .ref fl, .ref ps, .int 0, .int 0, .ref sh])), (nw, .inr (1, [.ref nm, .ref nb, .int 0, .int 0, .int 0]))]) [0, 1] (by decide) rfl
  have hKc := hK.sub (tys' := []) [] rfl
  refine ro_i (va_runV (As := [.int p0]) (rest := []) ⟨hx, hb, hml, hown, hts⟩ (c_X6_isBody l dC dI h0 tp nw dr rd sc sk fl ps sh nm nb H.size p0 ) (cwV 1 hts (gV pq636 pq638 pq2 pq74 pq639) rfl rfl rfl (by decide +kernel) ⟨(Nat.le_of_ble_eq_true rfl), (Nat.le_of_ble_eq_true rfl)⟩) (pc_V hPc hDc hKc hN (va_recv hK hP (ci := 6) (q0 := 0) rfl rfl)) rfl rfl hl.1 rfl (lv_room (Nat.le_of_ble_eq_true rfl)) dX6_areTwoBodies_2 ⟨(Nat.le_of_ble_eq_true rfl), (Nat.le_of_ble_eq_true rfl)⟩) hS hP (fun r1 H locs hr1 hP hS => ?_)
  subst hr1
  refine lv_if_eq (tgt := 25) hx hb dX6_areTwoBodies_5 (by decide) (fun c2 => ?_) (fun c2 => absurd (by decide +kernel) c2)
  refine lv_iconst (v := 0) hx hb dX6_areTwoBodies_25 (by decide +kernel) ?_
  exact W.zret (v := 0) hx hb hr (by decide +kernel) (fun t ht hW => ⟨⟨0, (), rfl, rfl, trivial⟩, hS.F ht⟩) hS.2.2 dX6_areTwoBodies_26

set_option maxHeartbeats 4000000 in
set_option maxRecDepth 100000 in
theorem c_X6_isFrom0To (l : Launch) (dC : Nat → ClassId) (dI : Nat → Nat → Nat) (sz : Nat) (p0 : Int32) (p1 : Int32) : Met l yX6_isFrom0To (.code yX6_isFrom0To cX6_isFrom0To 2 (some .boolean) :: pw) ({ frames := 0, cells := 0, slots := 0, locals := 0 }) (pc (dC, dI) [.int p0, .int p1] sz [] []) (va_Qi (fun (r : Int32) (_ : Unit) => r = if p0 < 0 ∨ p1 < p0 then 0 else 1) (fun _ _ => True) (fun _ => False)) 0 0 (fun _ => False) := by
  refine Met.ofW (cc := cX6_isFrom0To) (maxL := 2) (ret := (some .boolean)) (by decide +kernel) rfl ?_
  intro p e s m args below meth c s₁ B hml hv
  obtain ⟨rfl, hsz, hP, hK, hD0, hN⟩ := hv
  have hx := B.exec
  have hb := B.bytes
  have hr := B.returns
  have hts := fun w (h : w ∈ pw) => atoms_spec (ws := Cond.code yX6_isFrom0To cX6_isFrom0To 2 (some .boolean) :: pw) B.pre w (List.mem_cons_of_mem _ h)
  have hown : s.vm.findClass RX6 = some m.cls := findClass_of_methodNamed B.named
  have hlocks := B.notSynchronized
  subst hsz
  have hD := hD0
  obtain ⟨H, hHe⟩ : ∃ H : Heap, H = s.heap := ⟨_, rfl⟩
  have hS : va_S (fun _ => False) s.heap H [] := by rw [hHe]; exact va_S.rf
  rw [← hHe] at hP
  have hl := lv_entry ([.int p0, .int p1]) (n := 2) (Nat.le_of_ble_eq_true rfl)
  rw [lg_entry_eq]
  generalize (lg_sl ([.int p0, .int p1]) ++ List.replicate (2 - (lg_sl ([.int p0, .int p1])).length) Slot.unset).toArray = ls at hl ⊢
  have hl : lv_has ls 2 [(0, .int p0), (1, .int p1)] := hl
  rw [← hHe]
  refine lv_iload_n hx hb dX6_isFrom0To_0 rfl (lv_at hl 0 rfl) ?_
  refine lv_if_lt (tgt := 13) hx hb dX6_isFrom0To_1 (by decide) (fun c1 => ?_) (fun c1 => ?_)
  · refine lv_iconst (v := 0) hx hb dX6_isFrom0To_13 (by decide +kernel) ?_
    exact W.zret (v := 0) hx hb hr (by decide +kernel) (fun t ht hW => ⟨⟨0, (), rfl, by simp [c1], trivial⟩, hS.F ht⟩) hS.2.2 dX6_isFrom0To_14
  · refine lv_iload_n hx hb dX6_isFrom0To_4 rfl (lv_at hl 0 rfl) ?_
    refine lv_iload_n hx hb dX6_isFrom0To_5 rfl (lv_at hl 1 rfl) ?_
    refine lv_icmp_gt (tgt := 13) hx hb dX6_isFrom0To_6 (by decide) (fun c2 => ?_) (fun c2 => ?_)
    · refine lv_iconst (v := 0) hx hb dX6_isFrom0To_13 (by decide +kernel) ?_
      exact W.zret (v := 0) hx hb hr (by decide +kernel) (fun t ht hW => ⟨⟨0, (), rfl, by simp [c1, c2], trivial⟩, hS.F ht⟩) hS.2.2 dX6_isFrom0To_14
    · refine lv_iconst (v := 1) hx hb dX6_isFrom0To_9 (by decide +kernel) ?_
      refine lv_goto (tgt := 14) hx hb dX6_isFrom0To_10 (by decide) ?_
      exact W.zret (v := 1) hx hb hr (by decide +kernel) (fun t ht hW => ⟨⟨1, (), rfl, by simp [c1, c2], trivial⟩, hS.F ht⟩) hS.2.2 dX6_isFrom0To_14
