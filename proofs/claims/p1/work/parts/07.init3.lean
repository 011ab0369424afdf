abbrev cX6_init : ByteArray := prog_1_method_1_code
def yX6_init : MethodName := ⟨RX6, "<init>", "()V"⟩
theorem dX6_init_0 : decode cX6_init 0 = .ok (.aload_n 0, 1) := by decide +kernel
theorem dX6_init_1 : decode cX6_init 1 = .ok (.invokespecial 1, 3) := by decide +kernel
theorem dX6_init_4 : decode cX6_init 4 = .ok (.aload_n 0, 1) := by decide +kernel
theorem dX6_init_5 : decode cX6_init 5 = .ok (.sipush 400, 3) := by decide +kernel
theorem dX6_init_8 : decode cX6_init 8 = .ok (.newarray .byte, 2) := by decide +kernel
theorem dX6_init_10 : decode cX6_init 10 = .ok (.putfield 9, 3) := by decide +kernel
theorem dX6_init_13 : decode cX6_init 13 = .ok (.aload_n 0, 1) := by decide +kernel
theorem dX6_init_14 : decode cX6_init 14 = .ok (.iconst 0, 1) := by decide +kernel
theorem dX6_init_15 : decode cX6_init 15 = .ok (.putfield 13, 3) := by decide +kernel
theorem dX6_init_18 : decode cX6_init 18 = .ok (.aload_n 0, 1) := by decide +kernel
theorem dX6_init_19 : decode cX6_init 19 = .ok (.new 17, 3) := by decide +kernel
theorem dX6_init_22 : decode cX6_init 22 = .ok (.dup, 1) := by decide +kernel
theorem dX6_init_23 : decode cX6_init 23 = .ok (.invokespecial 19, 3) := by decide +kernel
theorem dX6_init_26 : decode cX6_init 26 = .ok (.putfield 20, 3) := by decide +kernel
theorem dX6_init_29 : decode cX6_init 29 = .ok (.aload_n 0, 1) := by decide +kernel
theorem dX6_init_30 : decode cX6_init 30 = .ok (.new 17, 3) := by decide +kernel
theorem dX6_init_33 : decode cX6_init 33 = .ok (.dup, 1) := by decide +kernel
theorem dX6_init_34 : decode cX6_init 34 = .ok (.invokespecial 19, 3) := by decide +kernel
theorem dX6_init_37 : decode cX6_init 37 = .ok (.putfield 24, 3) := by decide +kernel
theorem dX6_init_40 : decode cX6_init 40 = .ok (.aload_n 0, 1) := by decide +kernel
theorem dX6_init_41 : decode cX6_init 41 = .ok (.new 27, 3) := by decide +kernel
theorem dX6_init_44 : decode cX6_init 44 = .ok (.dup, 1) := by decide +kernel
theorem dX6_init_45 : decode cX6_init 45 = .ok (.aload_n 0, 1) := by decide +kernel
theorem dX6_init_46 : decode cX6_init 46 = .ok (.getfield 9, 3) := by decide +kernel
theorem dX6_init_49 : decode cX6_init 49 = .ok (.invokespecial 29, 3) := by decide +kernel
theorem dX6_init_52 : decode cX6_init 52 = .ok (.putfield 32, 3) := by decide +kernel
theorem dX6_init_55 : decode cX6_init 55 = .ok (.aload_n 0, 1) := by decide +kernel
theorem dX6_init_56 : decode cX6_init 56 = .ok (.new 36, 3) := by decide +kernel
theorem dX6_init_59 : decode cX6_init 59 = .ok (.dup, 1) := by decide +kernel
theorem dX6_init_60 : decode cX6_init 60 = .ok (.aload_n 0, 1) := by decide +kernel
theorem dX6_init_61 : decode cX6_init 61 = .ok (.getfield 20, 3) := by decide +kernel
theorem dX6_init_64 : decode cX6_init 64 = .ok (.invokespecial 38, 3) := by decide +kernel
theorem dX6_init_67 : decode cX6_init 67 = .ok (.putfield 41, 3) := by decide +kernel
theorem dX6_init_70 : decode cX6_init 70 = .ok (.aload_n 0, 1) := by decide +kernel
theorem dX6_init_71 : decode cX6_init 71 = .ok (.new 45, 3) := by decide +kernel
theorem dX6_init_74 : decode cX6_init 74 = .ok (.dup, 1) := by decide +kernel
theorem dX6_init_75 : decode cX6_init 75 = .ok (.invokespecial 47, 3) := by decide +kernel
theorem dX6_init_78 : decode cX6_init 78 = .ok (.putfield 48, 3) := by decide +kernel
theorem dX6_init_81 : decode cX6_init 81 = .ok (.aload_n 0, 1) := by decide +kernel
theorem dX6_init_82 : decode cX6_init 82 = .ok (.new 52, 3) := by decide +kernel
theorem dX6_init_85 : decode cX6_init 85 = .ok (.dup, 1) := by decide +kernel
theorem dX6_init_86 : decode cX6_init 86 = .ok (.invokespecial 54, 3) := by decide +kernel
theorem dX6_init_89 : decode cX6_init 89 = .ok (.putfield 55, 3) := by decide +kernel
theorem dX6_init_92 : decode cX6_init 92 = .ok (.aload_n 0, 1) := by decide +kernel
theorem dX6_init_93 : decode cX6_init 93 = .ok (.bipush 10, 2) := by decide +kernel
theorem dX6_init_95 : decode cX6_init 95 = .ok (.anewarray 17, 3) := by decide +kernel
theorem dX6_init_98 : decode cX6_init 98 = .ok (.putfield 59, 3) := by decide +kernel
theorem dX6_init_101 : decode cX6_init 101 = .ok (.aload_n 0, 1) := by decide +kernel
theorem dX6_init_102 : decode cX6_init 102 = .ok (.iconst 0, 1) := by decide +kernel
theorem dX6_init_103 : decode cX6_init 103 = .ok (.putfield 63, 3) := by decide +kernel
theorem dX6_init_106 : decode cX6_init 106 = .ok (.aload_n 0, 1) := by decide +kernel
theorem dX6_init_107 : decode cX6_init 107 = .ok (.iconst 0, 1) := by decide +kernel
theorem dX6_init_108 : decode cX6_init 108 = .ok (.putfield 66, 3) := by decide +kernel
theorem dX6_init_111 : decode cX6_init 111 = .ok (.aload_n 0, 1) := by decide +kernel
theorem dX6_init_112 : decode cX6_init 112 = .ok (.iconst 2, 1) := by decide +kernel
theorem dX6_init_113 : decode cX6_init 113 = .ok (.anewarray 17, 3) := by decide +kernel
theorem dX6_init_116 : decode cX6_init 116 = .ok (.putfield 69, 3) := by decide +kernel
theorem dX6_init_119 : decode cX6_init 119 = .ok (.return_, 1) := by decide +kernel
set_option maxRecDepth 100000 in
theorem pq75 : Cond.initialized RX1 ∈ pw := pw_mem (i := 75) (by decide +kernel) rfl
set_option maxRecDepth 100000 in
theorem pq78 : Cond.initialized RX4 ∈ pw := pw_mem (i := 78) (by decide +kernel) rfl
set_option maxRecDepth 100000 in
theorem pq79 : Cond.initialized RX5 ∈ pw := pw_mem (i := 79) (by decide +kernel) rfl
set_option maxRecDepth 100000 in
theorem pq80 : Cond.initialized RX2 ∈ pw := pw_mem (i := 80) (by decide +kernel) rfl
set_option maxRecDepth 100000 in
theorem pq98 : Cond.methodLink RX6 1 objectInit ∈ pw := pw_mem (i := 98) (by decide +kernel) rfl
set_option maxRecDepth 100000 in
theorem pq101 : Cond.classLink RX6 17 RX1 ∈ pw := pw_mem (i := 101) (by decide +kernel) rfl
set_option maxRecDepth 100000 in
theorem pq102 : Cond.instantiable RX1 5 ∈ pw := pw_mem (i := 102) (by decide +kernel) rfl
set_option maxRecDepth 100000 in
theorem pq103 : Cond.methodLink RX6 19 yX1_init ∈ pw := pw_mem (i := 103) (by decide +kernel) rfl
set_option maxRecDepth 100000 in
theorem pq104 : Cond.instanceMethod yX1_init ∈ pw := pw_mem (i := 104) (by decide +kernel) rfl
set_option maxRecDepth 100000 in
theorem pq105 : Cond.code yX1_init cX1_init 2 none ∈ pw := pw_mem (i := 105) (by rfl) rfl
set_option maxRecDepth 100000 in
theorem pq162 : Cond.arrayClass .byte ∈ pw := pw_mem (i := 162) (by decide +kernel) rfl
set_option maxRecDepth 100000 in
theorem pq241 : Cond.classLink RX6 27 RX4 ∈ pw := pw_mem (i := 241) (by decide +kernel) rfl
set_option maxRecDepth 100000 in
theorem pq242 : Cond.instantiable RX4 6 ∈ pw := pw_mem (i := 242) (by decide +kernel) rfl
set_option maxRecDepth 100000 in
theorem pq243 : Cond.methodLink RX6 29 yX4_init ∈ pw := pw_mem (i := 243) (by decide +kernel) rfl
set_option maxRecDepth 100000 in
theorem pq244 : Cond.instanceMethod yX4_init ∈ pw := pw_mem (i := 244) (by decide +kernel) rfl
set_option maxRecDepth 100000 in
theorem pq245 : Cond.code yX4_init cX4_init 2 none ∈ pw := pw_mem (i := 245) (by rfl) rfl
set_option maxRecDepth 100000 in
theorem pq266 : Cond.classLink RX6 36 RX5 ∈ pw := pw_mem (i := 266) (by decide +kernel) rfl
set_option maxRecDepth 100000 in
theorem pq267 : Cond.instantiable RX5 9 ∈ pw := pw_mem (i := 267) (by decide +kernel) rfl
set_option maxRecDepth 100000 in
theorem pq268 : Cond.methodLink RX6 38 yX5_init ∈ pw := pw_mem (i := 268) (by decide +kernel) rfl
set_option maxRecDepth 100000 in
theorem pq269 : Cond.instanceMethod yX5_init ∈ pw := pw_mem (i := 269) (by decide +kernel) rfl
set_option maxRecDepth 100000 in
theorem pq270 : Cond.code yX5_init cX5_init 3 none ∈ pw := pw_mem (i := 270) (by rfl) rfl
set_option maxRecDepth 100000 in
theorem pq307 : Cond.classLink RX6 45 RX3 ∈ pw := pw_mem (i := 307) (by decide +kernel) rfl
set_option maxRecDepth 100000 in
theorem pq309 : Cond.classLink RX6 52 RX2 ∈ pw := pw_mem (i := 309) (by decide +kernel) rfl
set_option maxRecDepth 100000 in
theorem pq310 : Cond.instantiable RX2 8 ∈ pw := pw_mem (i := 310) (by decide +kernel) rfl
set_option maxRecDepth 100000 in
theorem pq312 : Cond.instanceMethod yX2_init ∈ pw := pw_mem (i := 312) (by decide +kernel) rfl
set_option maxRecDepth 100000 in
theorem pq313 : Cond.code yX2_init cX2_init 1 none ∈ pw := pw_mem (i := 313) (by rfl) rfl
set_option maxRecDepth 100000 in
theorem pq349 : Cond.fieldLink RX6 9 "MaskTouch" "tape" "[B" ∈ pw := pw_mem (i := 349) (by decide +kernel) rfl
set_option maxRecDepth 100000 in
theorem pq350 : Cond.fieldLink RX6 13 "MaskTouch" "taped" "I" ∈ pw := pw_mem (i := 350) (by decide +kernel) rfl
set_option maxRecDepth 100000 in
theorem pq352 : Cond.fieldLink RX6 24 "MaskTouch" "draft" "LMaskTouch$Field;" ∈ pw := pw_mem (i := 352) (by decide +kernel) rfl
set_option maxRecDepth 100000 in
theorem pq353 : Cond.fieldLink RX6 32 "MaskTouch" "reader" "LMaskTouch$Reader;" ∈ pw := pw_mem (i := 353) (by decide +kernel) rfl
set_option maxRecDepth 100000 in
theorem pq354 : Cond.fieldLink RX6 41 "MaskTouch" "scene" "LMaskTouch$Scene;" ∈ pw := pw_mem (i := 354) (by decide +kernel) rfl
set_option maxRecDepth 100000 in
theorem pq355 : Cond.fieldLink RX6 48 "MaskTouch" "sketch" "LMaskTouch$Mask;" ∈ pw := pw_mem (i := 355) (by decide +kernel) rfl
set_option maxRecDepth 100000 in
theorem pq356 : Cond.fieldLink RX6 55 "MaskTouch" "flood" "LMaskTouch$Flood;" ∈ pw := pw_mem (i := 356) (by decide +kernel) rfl
set_option maxRecDepth 100000 in
theorem pq357 : Cond.fieldLink RX6 59 "MaskTouch" "past" "[LMaskTouch$Field;" ∈ pw := pw_mem (i := 357) (by decide +kernel) rfl
set_option maxRecDepth 100000 in
theorem pq358 : Cond.fieldLink RX6 63 "MaskTouch" "oldest" "I" ∈ pw := pw_mem (i := 358) (by decide +kernel) rfl
set_option maxRecDepth 100000 in
theorem pq359 : Cond.fieldLink RX6 66 "MaskTouch" "undoable" "I" ∈ pw := pw_mem (i := 359) (by decide +kernel) rfl
set_option maxRecDepth 100000 in
theorem pq360 : Cond.fieldLink RX6 69 "MaskTouch" "shelves" "[LMaskTouch$Field;" ∈ pw := pw_mem (i := 360) (by decide +kernel) rfl
set_option maxHeartbeats 4000000 in
set_option maxRecDepth 100000 in
theorem c_X6_init (l : Launch) (dC : Nat → ClassId) (dI : Nat → Nat → Nat) (h0 : Nat) (sz : Nat) : Met l yX6_init (.code yX6_init cX6_init 1 none :: pw) ({ frames := 3, cells := 90, slots := 7115, locals := 54 }) (pc (dC, dI) [.ref h0] sz [(h0, .inr (6, [.null, .int 0, .null, .null, .null, .null, .null, .null, .null, .int 0, .int 0, .null]))] []) (va_Qv (fun (_ : Unit) => True) (fun _ t => ∃ (tp : Nat), ∃ (nw : Nat), ∃ (dr : Nat), ∃ (rd : Nat), ∃ (sc : Nat), ∃ (sk : Nat), ∃ (fl : Nat), ∃ (ps : Nat), ∃ (sh : Nat), ∃ (nm : Nat), ∃ (nb : Nat), ∃ (dm : Nat), ∃ (db : Nat), ∃ (ss : Nat), ∃ (kB : ClassId), ∃ (kF : ClassId), ∃ (kG : ClassId), wB (dC, dI) [(h0, .inr (6, [.ref tp, .int 0, .ref nw, .ref dr, .ref rd, .ref sc, .ref sk, .ref fl, .ref ps, .int 0, .int 0, .ref sh])), (tp, .inl (kB, 400, .inl (fun _ => 0))), (nw, .inr (1, [.ref nm, .ref nb, .int 0, .int 0, .int 0])), (dr, .inr (1, [.ref dm, .ref db, .int 0, .int 0, .int 0])), (rd, .inr (4, [.ref tp, .int 0, .int 0, .int 0, .int 0, .int 0])), (sc, .inr (5, [.ref nw, .ref ss, .int 0, .int (-1), .int 0, .int 0, .int 0, .int 0, .int 0])), (ps, .inl (kF, 10, .inr (.inr (.inr (.inr (fun _ => none)))))), (sh, .inl (kG, 2, .inr (.inr (.inr (.inr (fun _ => none))))))] [(kB, .byte), (kF, .object RX1), (kG, .object RX1)] (va_A [(h0, .inr (6, [.null, .int 0, .null, .null, .null, .null, .null, .null, .null, .int 0, .int 0, .null]))] sz) t) (va_A [(h0, .inr (6, [.null, .int 0, .null, .null, .null, .null, .null, .null, .null, .int 0, .int 0, .null]))] sz)) 90 7115 (va_A [(h0, .inr (6, [.null, .int 0, .null, .null, .null, .null, .null, .null, .null, .int 0, .int 0, .null]))] sz) := by
  refine Met.ofW (cc := cX6_init) (maxL := 1) (ret := none) (by decide +kernel) rfl ?_
  intro p e s m args below meth c s₁ B hml hv
  obtain ⟨rfl, hsz, hP, hK, hD0, hN⟩ := hv
  have hx := B.exec
  have hb := B.bytes
  have hr := B.returns
  have hts := fun w (h : w ∈ pw) => atoms_spec (ws := Cond.code yX6_init cX6_init 1 none :: pw) B.pre w (List.mem_cons_of_mem _ h)
  have hown : s.vm.findClass RX6 = some m.cls := findClass_of_methodNamed B.named
  have hlocks := B.notSynchronized
  have hin : meth.name = "<init>" := (name_of_methodNamed B.named B.method).1
  subst hsz
  have hD := hD0.self (sz := s.heap.size)
  generalize hAe : va_A [(h0, .inr (6, [.null, .int 0, .null, .null, .null, .null, .null, .null, .null, .int 0, .int 0, .null]))] s.heap.size = A at hD ⊢
  have hA : ∀ q : Nat, s.heap.size ≤ q → A q := fun q h => by rw [← hAe]; exact Or.inr h
  obtain ⟨H, hHe⟩ : ∃ H : Heap, H = s.heap := ⟨_, rfl⟩
  have hS : va_S A s.heap H [] := by rw [hHe]; exact va_S.rf
  rw [← hHe] at hP
  have hl := lv_entry ([.ref h0]) (n := 1) (Nat.le_of_ble_eq_true rfl)
  rw [lg_entry_eq]
  generalize (lg_sl ([.ref h0]) ++ List.replicate (1 - (lg_sl ([.ref h0])).length) Slot.unset).toArray = ls at hl ⊢
  have hl : lv_has ls 1 [(0, .ref h0)] := hl
  rw [← hHe]
  refine lv_aload_n hx hb dX6_init_0 rfl (lv_at hl 0 rfl) ?_
  refine W.objInit hx hb hown (hts _ pq98) (hts _ pq99) (hts _ pq100) rfl (by rw [hml]; exact hl.1) rfl dX6_init_1 (Nat.le_of_ble_eq_true rfl) (Nat.le_of_ble_eq_true rfl) ?_
  refine W.eq (g2 := F0 m 4 ls []) rfl ?_
  refine lv_aload_n hx hb dX6_init_4 rfl (lv_at hl 0 rfl) ?_
  refine lv_sipush (v := 400) hx hb dX6_init_5 (by decide +kernel) ?_
  refine va_newa (atype := .byte) (ty := .byte) (a0 := (400, .inl (fun _ => 0))) hx hb (hts _ pq162) rfl hK hP hD hS hA (fun _ => rfl) (by decide +kernel) (by decide +kernel) (Nat.le_of_ble_eq_true rfl) (Nat.le_of_ble_eq_true rfl) (Nat.le_of_ble_eq_true rfl) dX6_init_8 (fun q1 k2 H hK hP hD hS => ?_)
  have hP : va_P (dC, dI) vwCl [(h0, .inr (6, [.null, .int 0, .null, .null, .null, .null, .null, .null, .null, .int 0, .int 0, .null])), (q1, .inl (k2, 400, .inl (fun _ => 0)))] H := hP
  have hD : va_D A [(h0, .inr (6, [.null, .int 0, .null, .null, .null, .null, .null, .null, .null, .int 0, .int 0, .null])), (q1, .inl (k2, 400, .inl (fun _ => 0)))] := hD
  have hK : va_K (dC, dI) vwCl [(k2, .byte)] s := hK
  refine W.widen (k := 1) (n := 400) (Nat.le_of_ble_eq_true rfl) (Nat.le_of_ble_eq_true rfl) ?_
  refine va_putF (D := (dC, dI)) (ci := 6) (v := .ref q1) (ty := tyX6 0) (C := RX6) (T := TX6) (N := 12) hx hb hts inX6 tyX6 tyX6_ok nmX6 hown hK hP hD hS 0 rfl rfl 0 (by decide) (hts _ pq349) (fun _ h9 => h9) rfl hin rfl (by decide +kernel) rfl rfl (Nat.le_of_ble_eq_true rfl) dX6_init_10 (fun H locs hP hD hS => ?_)
  have hP : va_P (dC, dI) vwCl [(h0, .inr (6, [.ref q1, .int 0, .null, .null, .null, .null, .null, .null, .null, .int 0, .int 0, .null])), (q1, .inl (k2, 400, .inl (fun _ => 0)))] H := hP
  have hD : va_D A [(h0, .inr (6, [.ref q1, .int 0, .null, .null, .null, .null, .null, .null, .null, .int 0, .int 0, .null])), (q1, .inl (k2, 400, .inl (fun _ => 0)))] := hD
  refine lv_aload_n hx hb dX6_init_13 rfl (lv_at hl 0 rfl) ?_
  refine lv_iconst (v := 0) hx hb dX6_init_14 (by decide +kernel) ?_
  refine va_put (D := (dC, dI)) (ci := 6) (v := .int 0) (ty := tyX6 1) (C := RX6) (T := TX6) (N := 12) hx hb hts inX6 tyX6 tyX6_ok nmX6 hown hK hP hD hS 0 rfl rfl 1 (by decide) (hts _ pq350) (fun _ h9 => h9) rfl (by decide +kernel) rfl rfl (Nat.le_of_ble_eq_true rfl) dX6_init_15 (fun H locs hP hD hS => ?_)
  have hP : va_P (dC, dI) vwCl [(h0, .inr (6, [.ref q1, .int 0, .null, .null, .null, .null, .null, .null, .null, .int 0, .int 0, .null])), (q1, .inl (k2, 400, .inl (fun _ => 0)))] H := hP
  have hD : va_D A [(h0, .inr (6, [.ref q1, .int 0, .null, .null, .null, .null, .null, .null, .null, .int 0, .int 0, .null])), (q1, .inl (k2, 400, .inl (fun _ => 0)))] := hD
  refine lv_aload_n hx hb dX6_init_18 rfl (lv_at hl 0 rfl) ?_
  refine va_new (ci := 1) (fs := [.null, .null, .int 0, .int 0, .int 0]) (C := RX1) (T := TX1) (N := 5) hx hb hts inX1 tyX1 tyX1_ok hown (hts _ pq101) (hts _ pq102) (hts _ pq75) hK hP hD hS hA rfl dfX1 (Nat.le_of_ble_eq_true rfl) (Nat.le_of_ble_eq_true rfl) dX6_init_19 (fun q3 H hP hD hS => ?_)
  have hP : va_P (dC, dI) vwCl [(h0, .inr (6, [.ref q1, .int 0, .null, .null, .null, .null, .null, .null, .null, .int 0, .int 0, .null])), (q1, .inl (k2, 400, .inl (fun _ => 0))), (q3, .inr (1, [.null, .null, .int 0, .int 0, .int 0]))] H := hP
  have hD : va_D A [(h0, .inr (6, [.ref q1, .int 0, .null, .null, .null, .null, .null, .null, .null, .int 0, .int 0, .null])), (q1, .inl (k2, 400, .inl (fun _ => 0))), (q3, .inr (1, [.null, .null, .int 0, .int 0, .int 0]))] := hD
  refine W.widen (k := 2) (n := 405) (Nat.le_of_ble_eq_true rfl) (Nat.le_of_ble_eq_true rfl) ?_
  refine lv_dup hx hb dX6_init_22 rfl ?_
  have hPc := hP.sub (ws' := [(q3, .inr (1, [.null, .null, .int 0, .int 0, .int 0]))]) [2] rfl
  have hDc := hD.sub (ws' := [(q3, .inr (1, [.null, .null, .int 0, .int 0, .int 0]))]) [2] (by decide) rfl
  have hKc := hK.sub (tys' := []) [] rfl
  have hFc := va_free (wc := [(q3, .inr (1, [.null, .null, .int 0, .int 0, .int 0]))]) hD hS hA [2] rfl
  refine va_callv (va_runI (As := []) (rest := [.ref q3, .ref h0]) ⟨hx, hb, hml, hown, hts⟩ (c_X1_init l dC dI q3 H.size  ) (cwI 0 hts (gI pq105) rfl rfl rfl (hts _ pq75) (hts _ pq103) (hts _ pq104) rfl (by decide +kernel) ⟨(Nat.le_of_ble_eq_true rfl), (Nat.le_of_ble_eq_true rfl)⟩) (pc_S hPc hDc hKc hN) rfl rfl hl.1 rfl (lv_room (Nat.le_of_ble_eq_true rfl)) dX6_init_23 ⟨(Nat.le_of_ble_eq_true rfl), (Nat.le_of_ble_eq_true rfl)⟩) hS (fun q _ h => hFc q h) hFc (fun u t H1 locs ht hvm hw hB hz1 hk1 hS => ?_)
  obtain ⟨q4, q5, hP1, hK1, hD1⟩ := hB
  rw [ht] at hP1
  have hK1 := va_K.moved hvm.symm hK1
  obtain ⟨hP, hD⟩ := va_join (wr := [(h0, .inr (6, [.ref q1, .int 0, .null, .null, .null, .null, .null, .null, .null, .int 0, .int 0, .null])), (q1, .inl (k2, 400, .inl (fun _ => 0)))]) (w1 := [(q3, .inr (1, [.ref q4, .ref q5, .int 0, .int 0, .int 0]))]) hP hD [2] [0, 1] rfl rfl (by decide) (by decide) hk1 hFc hP1 hD1
  generalize H1 = H at hP hS ⊢
  have hP : va_P (dC, dI) vwCl [(h0, .inr (6, [.ref q1, .int 0, .null, .null, .null, .null, .null, .null, .null, .int 0, .int 0, .null])), (q1, .inl (k2, 400, .inl (fun _ => 0))), (q3, .inr (1, [.ref q4, .ref q5, .int 0, .int 0, .int 0]))] H := hP
  have hD : va_D A [(h0, .inr (6, [.ref q1, .int 0, .null, .null, .null, .null, .null, .null, .null, .int 0, .int 0, .null])), (q1, .inl (k2, 400, .inl (fun _ => 0))), (q3, .inr (1, [.ref q4, .ref q5, .int 0, .int 0, .int 0]))] := hD
  refine W.widen (k := 30) (n := 1207) (Nat.le_of_ble_eq_true rfl) (Nat.le_of_ble_eq_true rfl) ?_
  refine va_putF (D := (dC, dI)) (ci := 6) (v := .ref q3) (ty := tyX6 2) (C := RX6) (T := TX6) (N := 12) hx hb hts inX6 tyX6 tyX6_ok nmX6 hown hK hP hD hS 0 rfl rfl 2 (by decide) (hts _ pq351) (fun _ h9 => h9) rfl hin rfl (by decide +kernel) rfl rfl (Nat.le_of_ble_eq_true rfl) dX6_init_26 (fun H locs hP hD hS => ?_)
  have hP : va_P (dC, dI) vwCl [(h0, .inr (6, [.ref q1, .int 0, .ref q3, .null, .null, .null, .null, .null, .null, .int 0, .int 0, .null])), (q1, .inl (k2, 400, .inl (fun _ => 0))), (q3, .inr (1, [.ref q4, .ref q5, .int 0, .int 0, .int 0]))] H := hP
  have hD : va_D A [(h0, .inr (6, [.ref q1, .int 0, .ref q3, .null, .null, .null, .null, .null, .null, .int 0, .int 0, .null])), (q1, .inl (k2, 400, .inl (fun _ => 0))), (q3, .inr (1, [.ref q4, .ref q5, .int 0, .int 0, .int 0]))] := hD
  refine lv_aload_n hx hb dX6_init_29 rfl (lv_at hl 0 rfl) ?_
  refine va_new (ci := 1) (fs := [.null, .null, .int 0, .int 0, .int 0]) (C := RX1) (T := TX1) (N := 5) hx hb hts inX1 tyX1 tyX1_ok hown (hts _ pq101) (hts _ pq102) (hts _ pq75) hK hP hD hS hA rfl dfX1 (Nat.le_of_ble_eq_true rfl) (Nat.le_of_ble_eq_true rfl) dX6_init_30 (fun q6 H hP hD hS => ?_)
  have hP : va_P (dC, dI) vwCl [(h0, .inr (6, [.ref q1, .int 0, .ref q3, .null, .null, .null, .null, .null, .null, .int 0, .int 0, .null])), (q1, .inl (k2, 400, .inl (fun _ => 0))), (q3, .inr (1, [.ref q4, .ref q5, .int 0, .int 0, .int 0])), (q6, .inr (1, [.null, .null, .int 0, .int 0, .int 0]))] H := hP
  have hD : va_D A [(h0, .inr (6, [.ref q1, .int 0, .ref q3, .null, .null, .null, .null, .null, .null, .int 0, .int 0, .null])), (q1, .inl (k2, 400, .inl (fun _ => 0))), (q3, .inr (1, [.ref q4, .ref q5, .int 0, .int 0, .int 0])), (q6, .inr (1, [.null, .null, .int 0, .int 0, .int 0]))] := hD
  refine W.widen (k := 31) (n := 1212) (Nat.le_of_ble_eq_true rfl) (Nat.le_of_ble_eq_true rfl) ?_
  refine lv_dup hx hb dX6_init_33 rfl ?_
  have hPc := hP.sub (ws' := [(q6, .inr (1, [.null, .null, .int 0, .int 0, .int 0]))]) [3] rfl
  have hDc := hD.sub (ws' := [(q6, .inr (1, [.null, .null, .int 0, .int 0, .int 0]))]) [3] (by decide) rfl
  have hKc := hK.sub (tys' := []) [] rfl
  have hFc := va_free (wc := [(q6, .inr (1, [.null, .null, .int 0, .int 0, .int 0]))]) hD hS hA [3] rfl
  refine va_callv (va_runI (As := []) (rest := [.ref q6, .ref h0]) ⟨hx, hb, hml, hown, hts⟩ (c_X1_init l dC dI q6 H.size  ) (cwI 0 hts (gI pq105) rfl rfl rfl (hts _ pq75) (hts _ pq103) (hts _ pq104) rfl (by decide +kernel) ⟨(Nat.le_of_ble_eq_true rfl), (Nat.le_of_ble_eq_true rfl)⟩) (pc_S hPc hDc hKc hN) rfl rfl hl.1 rfl (lv_room (Nat.le_of_ble_eq_true rfl)) dX6_init_34 ⟨(Nat.le_of_ble_eq_true rfl), (Nat.le_of_ble_eq_true rfl)⟩) hS (fun q _ h => hFc q h) hFc (fun u t H1 locs ht hvm hw hB hz1 hk1 hS => ?_)
  obtain ⟨q7, q8, hP1, hK1, hD1⟩ := hB
  rw [ht] at hP1
  have hK1 := va_K.moved hvm.symm hK1
  obtain ⟨hP, hD⟩ := va_join (wr := [(h0, .inr (6, [.ref q1, .int 0, .ref q3, .null, .null, .null, .null, .null, .null, .int 0, .int 0, .null])), (q1, .inl (k2, 400, .inl (fun _ => 0))), (q3, .inr (1, [.ref q4, .ref q5, .int 0, .int 0, .int 0]))]) (w1 := [(q6, .inr (1, [.ref q7, .ref q8, .int 0, .int 0, .int 0]))]) hP hD [3] [0, 1, 2] rfl rfl (by decide) (by decide) hk1 hFc hP1 hD1
  generalize H1 = H at hP hS ⊢
  have hP : va_P (dC, dI) vwCl [(h0, .inr (6, [.ref q1, .int 0, .ref q3, .null, .null, .null, .null, .null, .null, .int 0, .int 0, .null])), (q1, .inl (k2, 400, .inl (fun _ => 0))), (q3, .inr (1, [.ref q4, .ref q5, .int 0, .int 0, .int 0])), (q6, .inr (1, [.ref q7, .ref q8, .int 0, .int 0, .int 0]))] H := hP
  have hD : va_D A [(h0, .inr (6, [.ref q1, .int 0, .ref q3, .null, .null, .null, .null, .null, .null, .int 0, .int 0, .null])), (q1, .inl (k2, 400, .inl (fun _ => 0))), (q3, .inr (1, [.ref q4, .ref q5, .int 0, .int 0, .int 0])), (q6, .inr (1, [.ref q7, .ref q8, .int 0, .int 0, .int 0]))] := hD
  refine W.widen (k := 59) (n := 2014) (Nat.le_of_ble_eq_true rfl) (Nat.le_of_ble_eq_true rfl) ?_
  refine va_putF (D := (dC, dI)) (ci := 6) (v := .ref q6) (ty := tyX6 3) (C := RX6) (T := TX6) (N := 12) hx hb hts inX6 tyX6 tyX6_ok nmX6 hown hK hP hD hS 0 rfl rfl 3 (by decide) (hts _ pq352) (fun _ h9 => h9) rfl hin rfl (by decide +kernel) rfl rfl (Nat.le_of_ble_eq_true rfl) dX6_init_37 (fun H locs hP hD hS => ?_)
  have hP : va_P (dC, dI) vwCl [(h0, .inr (6, [.ref q1, .int 0, .ref q3, .ref q6, .null, .null, .null, .null, .null, .int 0, .int 0, .null])), (q1, .inl (k2, 400, .inl (fun _ => 0))), (q3, .inr (1, [.ref q4, .ref q5, .int 0, .int 0, .int 0])), (q6, .inr (1, [.ref q7, .ref q8, .int 0, .int 0, .int 0]))] H := hP
  have hD : va_D A [(h0, .inr (6, [.ref q1, .int 0, .ref q3, .ref q6, .null, .null, .null, .null, .null, .int 0, .int 0, .null])), (q1, .inl (k2, 400, .inl (fun _ => 0))), (q3, .inr (1, [.ref q4, .ref q5, .int 0, .int 0, .int 0])), (q6, .inr (1, [.ref q7, .ref q8, .int 0, .int 0, .int 0]))] := hD
  refine lv_aload_n hx hb dX6_init_40 rfl (lv_at hl 0 rfl) ?_
  refine va_new (ci := 4) (fs := [.null, .int 0, .int 0, .int 0, .int 0, .int 0]) (C := RX4) (T := TX4) (N := 6) hx hb hts inX4 tyX4 tyX4_ok hown (hts _ pq241) (hts _ pq242) (hts _ pq78) hK hP hD hS hA rfl dfX4 (Nat.le_of_ble_eq_true rfl) (Nat.le_of_ble_eq_true rfl) dX6_init_41 (fun q9 H hP hD hS => ?_)
  have hP : va_P (dC, dI) vwCl [(h0, .inr (6, [.ref q1, .int 0, .ref q3, .ref q6, .null, .null, .null, .null, .null, .int 0, .int 0, .null])), (q1, .inl (k2, 400, .inl (fun _ => 0))), (q3, .inr (1, [.ref q4, .ref q5, .int 0, .int 0, .int 0])), (q6, .inr (1, [.ref q7, .ref q8, .int 0, .int 0, .int 0])), (q9, .inr (4, [.null, .int 0, .int 0, .int 0, .int 0, .int 0]))] H := hP
  have hD : va_D A [(h0, .inr (6, [.ref q1, .int 0, .ref q3, .ref q6, .null, .null, .null, .null, .null, .int 0, .int 0, .null])), (q1, .inl (k2, 400, .inl (fun _ => 0))), (q3, .inr (1, [.ref q4, .ref q5, .int 0, .int 0, .int 0])), (q6, .inr (1, [.ref q7, .ref q8, .int 0, .int 0, .int 0])), (q9, .inr (4, [.null, .int 0, .int 0, .int 0, .int 0, .int 0]))] := hD
  refine W.widen (k := 60) (n := 2020) (Nat.le_of_ble_eq_true rfl) (Nat.le_of_ble_eq_true rfl) ?_
  refine lv_dup hx hb dX6_init_44 rfl ?_
  refine lv_aload_n hx hb dX6_init_45 rfl (lv_at hl 0 rfl) ?_
  refine va_get (D := (dC, dI)) (ci := 6) (v := .ref q1) (C := RX6) (T := TX6) (N := 12) hx hb hts inX6 hown hK hP 0 rfl rfl 0 (by decide) (hts _ pq349) (fun _ h9 => h9) rfl dX6_init_46 ?_
  have hPc := hP.sub (ws' := [(q9, .inr (4, [.null, .int 0, .int 0, .int 0, .int 0, .int 0]))]) [4] rfl
  have hDc := hD.sub (ws' := [(q9, .inr (4, [.null, .int 0, .int 0, .int 0, .int 0, .int 0]))]) [4] (by decide) rfl
  have hKc := hK.sub (tys' := []) [] rfl
  have hFc := va_free (wc := [(q9, .inr (4, [.null, .int 0, .int 0, .int 0, .int 0, .int 0]))]) hD hS hA [4] rfl
  refine va_callv (va_runI (As := [.ref q1]) (rest := [.ref q9, .ref h0]) ⟨hx, hb, hml, hown, hts⟩ (c_X4_init l dC dI q9 q1 H.size  ) (cwI 1 hts (gI pq245) rfl rfl rfl (hts _ pq78) (hts _ pq243) (hts _ pq244) rfl (by decide +kernel) ⟨(Nat.le_of_ble_eq_true rfl), (Nat.le_of_ble_eq_true rfl)⟩) (pc_S hPc hDc hKc hN) rfl rfl hl.1 rfl (lv_room (Nat.le_of_ble_eq_true rfl)) dX6_init_49 ⟨(Nat.le_of_ble_eq_true rfl), (Nat.le_of_ble_eq_true rfl)⟩) hS (fun q _ h => hFc q h) hFc (fun u t H1 locs ht hvm hw hB hz1 hk1 hS => ?_)
  obtain ⟨hP1, hK1, hD1⟩ := hB
  rw [ht] at hP1
  have hK1 := va_K.moved hvm.symm hK1
  obtain ⟨hP, hD⟩ := va_join (wr := [(h0, .inr (6, [.ref q1, .int 0, .ref q3, .ref q6, .null, .null, .null, .null, .null, .int 0, .int 0, .null])), (q1, .inl (k2, 400, .inl (fun _ => 0))), (q3, .inr (1, [.ref q4, .ref q5, .int 0, .int 0, .int 0])), (q6, .inr (1, [.ref q7, .ref q8, .int 0, .int 0, .int 0]))]) (w1 := [(q9, .inr (4, [.ref q1, .int 0, .int 0, .int 0, .int 0, .int 0]))]) hP hD [4] [0, 1, 2, 3] rfl rfl (by decide) (by decide) hk1 hFc hP1 hD1
  generalize H1 = H at hP hS ⊢
  have hP : va_P (dC, dI) vwCl [(h0, .inr (6, [.ref q1, .int 0, .ref q3, .ref q6, .null, .null, .null, .null, .null, .int 0, .int 0, .null])), (q1, .inl (k2, 400, .inl (fun _ => 0))), (q3, .inr (1, [.ref q4, .ref q5, .int 0, .int 0, .int 0])), (q6, .inr (1, [.ref q7, .ref q8, .int 0, .int 0, .int 0])), (q9, .inr (4, [.ref q1, .int 0, .int 0, .int 0, .int 0, .int 0]))] H := hP
  have hD : va_D A [(h0, .inr (6, [.ref q1, .int 0, .ref q3, .ref q6, .null, .null, .null, .null, .null, .int 0, .int 0, .null])), (q1, .inl (k2, 400, .inl (fun _ => 0))), (q3, .inr (1, [.ref q4, .ref q5, .int 0, .int 0, .int 0])), (q6, .inr (1, [.ref q7, .ref q8, .int 0, .int 0, .int 0])), (q9, .inr (4, [.ref q1, .int 0, .int 0, .int 0, .int 0, .int 0]))] := hD
  refine va_putF (D := (dC, dI)) (ci := 6) (v := .ref q9) (ty := tyX6 4) (C := RX6) (T := TX6) (N := 12) hx hb hts inX6 tyX6 tyX6_ok nmX6 hown hK hP hD hS 0 rfl rfl 4 (by decide) (hts _ pq353) (fun _ h9 => h9) rfl hin rfl (by decide +kernel) rfl rfl (Nat.le_of_ble_eq_true rfl) dX6_init_52 (fun H locs hP hD hS => ?_)
  have hP : va_P (dC, dI) vwCl [(h0, .inr (6, [.ref q1, .int 0, .ref q3, .ref q6, .ref q9, .null, .null, .null, .null, .int 0, .int 0, .null])), (q1, .inl (k2, 400, .inl (fun _ => 0))), (q3, .inr (1, [.ref q4, .ref q5, .int 0, .int 0, .int 0])), (q6, .inr (1, [.ref q7, .ref q8, .int 0, .int 0, .int 0])), (q9, .inr (4, [.ref q1, .int 0, .int 0, .int 0, .int 0, .int 0]))] H := hP
  have hD : va_D A [(h0, .inr (6, [.ref q1, .int 0, .ref q3, .ref q6, .ref q9, .null, .null, .null, .null, .int 0, .int 0, .null])), (q1, .inl (k2, 400, .inl (fun _ => 0))), (q3, .inr (1, [.ref q4, .ref q5, .int 0, .int 0, .int 0])), (q6, .inr (1, [.ref q7, .ref q8, .int 0, .int 0, .int 0])), (q9, .inr (4, [.ref q1, .int 0, .int 0, .int 0, .int 0, .int 0]))] := hD
  refine lv_aload_n hx hb dX6_init_55 rfl (lv_at hl 0 rfl) ?_
  refine va_new (ci := 5) (fs := [.null, .null, .int 0, .int 0, .int 0, .int 0, .int 0, .int 0, .int 0]) (C := RX5) (T := TX5) (N := 9) hx hb hts inX5 tyX5 tyX5_ok hown (hts _ pq266) (hts _ pq267) (hts _ pq79) hK hP hD hS hA rfl dfX5 (Nat.le_of_ble_eq_true rfl) (Nat.le_of_ble_eq_true rfl) dX6_init_56 (fun q10 H hP hD hS => ?_)
  have hP : va_P (dC, dI) vwCl [(h0, .inr (6, [.ref q1, .int 0, .ref q3, .ref q6, .ref q9, .null, .null, .null, .null, .int 0, .int 0, .null])), (q1, .inl (k2, 400, .inl (fun _ => 0))), (q3, .inr (1, [.ref q4, .ref q5, .int 0, .int 0, .int 0])), (q6, .inr (1, [.ref q7, .ref q8, .int 0, .int 0, .int 0])), (q9, .inr (4, [.ref q1, .int 0, .int 0, .int 0, .int 0, .int 0])), (q10, .inr (5, [.null, .null, .int 0, .int 0, .int 0, .int 0, .int 0, .int 0, .int 0]))] H := hP
  have hD : va_D A [(h0, .inr (6, [.ref q1, .int 0, .ref q3, .ref q6, .ref q9, .null, .null, .null, .null, .int 0, .int 0, .null])), (q1, .inl (k2, 400, .inl (fun _ => 0))), (q3, .inr (1, [.ref q4, .ref q5, .int 0, .int 0, .int 0])), (q6, .inr (1, [.ref q7, .ref q8, .int 0, .int 0, .int 0])), (q9, .inr (4, [.ref q1, .int 0, .int 0, .int 0, .int 0, .int 0])), (q10, .inr (5, [.null, .null, .int 0, .int 0, .int 0, .int 0, .int 0, .int 0, .int 0]))] := hD
  refine W.widen (k := 61) (n := 2029) (Nat.le_of_ble_eq_true rfl) (Nat.le_of_ble_eq_true rfl) ?_
  refine lv_dup hx hb dX6_init_59 rfl ?_
  refine lv_aload_n hx hb dX6_init_60 rfl (lv_at hl 0 rfl) ?_
  refine va_get (D := (dC, dI)) (ci := 6) (v := .ref q3) (C := RX6) (T := TX6) (N := 12) hx hb hts inX6 hown hK hP 0 rfl rfl 2 (by decide) (hts _ pq351) (fun _ h9 => h9) rfl dX6_init_61 ?_
  have hPc := hP.sub (ws' := [(q10, .inr (5, [.null, .null, .int 0, .int 0, .int 0, .int 0, .int 0, .int 0, .int 0]))]) [5] rfl
  have hDc := hD.sub (ws' := [(q10, .inr (5, [.null, .null, .int 0, .int 0, .int 0, .int 0, .int 0, .int 0, .int 0]))]) [5] (by decide) rfl
  have hKc := hK.sub (tys' := []) [] rfl
  have hFc := va_free (wc := [(q10, .inr (5, [.null, .null, .int 0, .int 0, .int 0, .int 0, .int 0, .int 0, .int 0]))]) hD hS hA [5] rfl
  refine va_callv (va_runI (As := [.ref q3]) (rest := [.ref q10, .ref h0]) ⟨hx, hb, hml, hown, hts⟩ (c_X5_init l dC dI q10 q3 H.size  ) (cwI 1 hts (gI pq270) rfl rfl rfl (hts _ pq79) (hts _ pq268) (hts _ pq269) rfl (by decide +kernel) ⟨(Nat.le_of_ble_eq_true rfl), (Nat.le_of_ble_eq_true rfl)⟩) (pc_S hPc hDc hKc hN) rfl rfl hl.1 rfl (lv_room (Nat.le_of_ble_eq_true rfl)) dX6_init_64 ⟨(Nat.le_of_ble_eq_true rfl), (Nat.le_of_ble_eq_true rfl)⟩) hS (fun q _ h => hFc q h) hFc (fun u t H1 locs ht hvm hw hB hz1 hk1 hS => ?_)
  obtain ⟨q11, hP1, hK1, hD1⟩ := hB
  rw [ht] at hP1
  have hK1 := va_K.moved hvm.symm hK1
  obtain ⟨hP, hD⟩ := va_join (wr := [(h0, .inr (6, [.ref q1, .int 0, .ref q3, .ref q6, .ref q9, .null, .null, .null, .null, .int 0, .int 0, .null])), (q1, .inl (k2, 400, .inl (fun _ => 0))), (q3, .inr (1, [.ref q4, .ref q5, .int 0, .int 0, .int 0])), (q6, .inr (1, [.ref q7, .ref q8, .int 0, .int 0, .int 0])), (q9, .inr (4, [.ref q1, .int 0, .int 0, .int 0, .int 0, .int 0]))]) (w1 := [(q10, .inr (5, [.ref q3, .ref q11, .int 0, .int (-1), .int 0, .int 0, .int 0, .int 0, .int 0]))]) hP hD [5] [0, 1, 2, 3, 4] rfl rfl (by decide) (by decide) hk1 hFc hP1 hD1
  generalize H1 = H at hP hS ⊢
  have hP : va_P (dC, dI) vwCl [(h0, .inr (6, [.ref q1, .int 0, .ref q3, .ref q6, .ref q9, .null, .null, .null, .null, .int 0, .int 0, .null])), (q1, .inl (k2, 400, .inl (fun _ => 0))), (q3, .inr (1, [.ref q4, .ref q5, .int 0, .int 0, .int 0])), (q6, .inr (1, [.ref q7, .ref q8, .int 0, .int 0, .int 0])), (q9, .inr (4, [.ref q1, .int 0, .int 0, .int 0, .int 0, .int 0])), (q10, .inr (5, [.ref q3, .ref q11, .int 0, .int (-1), .int 0, .int 0, .int 0, .int 0, .int 0]))] H := hP
  have hD : va_D A [(h0, .inr (6, [.ref q1, .int 0, .ref q3, .ref q6, .ref q9, .null, .null, .null, .null, .int 0, .int 0, .null])), (q1, .inl (k2, 400, .inl (fun _ => 0))), (q3, .inr (1, [.ref q4, .ref q5, .int 0, .int 0, .int 0])), (q6, .inr (1, [.ref q7, .ref q8, .int 0, .int 0, .int 0])), (q9, .inr (4, [.ref q1, .int 0, .int 0, .int 0, .int 0, .int 0])), (q10, .inr (5, [.ref q3, .ref q11, .int 0, .int (-1), .int 0, .int 0, .int 0, .int 0, .int 0]))] := hD
  refine W.widen (k := 82) (n := 2919) (Nat.le_of_ble_eq_true rfl) (Nat.le_of_ble_eq_true rfl) ?_
  refine va_putF (D := (dC, dI)) (ci := 6) (v := .ref q10) (ty := tyX6 5) (C := RX6) (T := TX6) (N := 12) hx hb hts inX6 tyX6 tyX6_ok nmX6 hown hK hP hD hS 0 rfl rfl 5 (by decide) (hts _ pq354) (fun _ h9 => h9) rfl hin rfl (by decide +kernel) rfl rfl (Nat.le_of_ble_eq_true rfl) dX6_init_67 (fun H locs hP hD hS => ?_)
  have hP : va_P (dC, dI) vwCl [(h0, .inr (6, [.ref q1, .int 0, .ref q3, .ref q6, .ref q9, .ref q10, .null, .null, .null, .int 0, .int 0, .null])), (q1, .inl (k2, 400, .inl (fun _ => 0))), (q3, .inr (1, [.ref q4, .ref q5, .int 0, .int 0, .int 0])), (q6, .inr (1, [.ref q7, .ref q8, .int 0, .int 0, .int 0])), (q9, .inr (4, [.ref q1, .int 0, .int 0, .int 0, .int 0, .int 0])), (q10, .inr (5, [.ref q3, .ref q11, .int 0, .int (-1), .int 0, .int 0, .int 0, .int 0, .int 0]))] H := hP
  have hD : va_D A [(h0, .inr (6, [.ref q1, .int 0, .ref q3, .ref q6, .ref q9, .ref q10, .null, .null, .null, .int 0, .int 0, .null])), (q1, .inl (k2, 400, .inl (fun _ => 0))), (q3, .inr (1, [.ref q4, .ref q5, .int 0, .int 0, .int 0])), (q6, .inr (1, [.ref q7, .ref q8, .int 0, .int 0, .int 0])), (q9, .inr (4, [.ref q1, .int 0, .int 0, .int 0, .int 0, .int 0])), (q10, .inr (5, [.ref q3, .ref q11, .int 0, .int (-1), .int 0, .int 0, .int 0, .int 0, .int 0]))] := hD
  refine lv_aload_n hx hb dX6_init_70 rfl (lv_at hl 0 rfl) ?_
  refine va_new (ci := 3) (fs := [.int 0, .int 0, .null, .int 0, .int 0, .int 0, .int 0, .int 0]) (C := RX3) (T := TX3) (N := 8) hx hb hts inX3 tyX3 tyX3_ok hown (hts _ pq307) (hts _ pq111) (hts _ pq76) hK hP hD hS hA rfl dfX3 (Nat.le_of_ble_eq_true rfl) (Nat.le_of_ble_eq_true rfl) dX6_init_71 (fun q12 H hP hD hS => ?_)
  have hP : va_P (dC, dI) vwCl [(h0, .inr (6, [.ref q1, .int 0, .ref q3, .ref q6, .ref q9, .ref q10, .null, .null, .null, .int 0, .int 0, .null])), (q1, .inl (k2, 400, .inl (fun _ => 0))), (q3, .inr (1, [.ref q4, .ref q5, .int 0, .int 0, .int 0])), (q6, .inr (1, [.ref q7, .ref q8, .int 0, .int 0, .int 0])), (q9, .inr (4, [.ref q1, .int 0, .int 0, .int 0, .int 0, .int 0])), (q10, .inr (5, [.ref q3, .ref q11, .int 0, .int (-1), .int 0, .int 0, .int 0, .int 0, .int 0])), (q12, .inr (3, [.int 0, .int 0, .null, .int 0, .int 0, .int 0, .int 0, .int 0]))] H := hP
  have hD : va_D A [(h0, .inr (6, [.ref q1, .int 0, .ref q3, .ref q6, .ref q9, .ref q10, .null, .null, .null, .int 0, .int 0, .null])), (q1, .inl (k2, 400, .inl (fun _ => 0))), (q3, .inr (1, [.ref q4, .ref q5, .int 0, .int 0, .int 0])), (q6, .inr (1, [.ref q7, .ref q8, .int 0, .int 0, .int 0])), (q9, .inr (4, [.ref q1, .int 0, .int 0, .int 0, .int 0, .int 0])), (q10, .inr (5, [.ref q3, .ref q11, .int 0, .int (-1), .int 0, .int 0, .int 0, .int 0, .int 0])), (q12, .inr (3, [.int 0, .int 0, .null, .int 0, .int 0, .int 0, .int 0, .int 0]))] := hD
  refine W.widen (k := 83) (n := 2927) (Nat.le_of_ble_eq_true rfl) (Nat.le_of_ble_eq_true rfl) ?_
  refine lv_dup hx hb dX6_init_74 rfl ?_
  have hPc := hP.sub (ws' := [(q12, .inr (3, [.int 0, .int 0, .null, .int 0, .int 0, .int 0, .int 0, .int 0]))]) [6] rfl
  have hDc := hD.sub (ws' := [(q12, .inr (3, [.int 0, .int 0, .null, .int 0, .int 0, .int 0, .int 0, .int 0]))]) [6] (by decide) rfl
  have hKc := hK.sub (tys' := []) [] rfl
  have hFc := va_free (wc := [(q12, .inr (3, [.int 0, .int 0, .null, .int 0, .int 0, .int 0, .int 0, .int 0]))]) hD hS hA [6] rfl
  refine va_callv (va_runIN (As := []) (rest := [.ref q12, .ref h0]) ⟨hx, hb, hml, hown, hts⟩ (c_X3_init l dC dI q12 H.size  ) ⟨va_cnB 0 hts (gI pq114) rfl rfl rfl (xN_X6_47 hN) (hts _ pq76) (by decide +kernel) ⟨(Nat.le_of_ble_eq_true rfl), (Nat.le_of_ble_eq_true rfl)⟩, rfl, hts _ pq113⟩ (pc_S hPc hDc hKc hN) rfl rfl hl.1 rfl (lv_room (Nat.le_of_ble_eq_true rfl)) dX6_init_75 ⟨(Nat.le_of_ble_eq_true rfl), (Nat.le_of_ble_eq_true rfl)⟩) hS (fun q _ h => hFc q h) hFc (fun u t H1 locs ht hvm hw hB hz1 hk1 hS => ?_)
  obtain ⟨q13, hP1, hK1, hD1⟩ := hB
  rw [ht] at hP1
  have hK1 := va_K.moved hvm.symm hK1
  obtain ⟨hP, hD⟩ := va_join (wr := [(h0, .inr (6, [.ref q1, .int 0, .ref q3, .ref q6, .ref q9, .ref q10, .null, .null, .null, .int 0, .int 0, .null])), (q1, .inl (k2, 400, .inl (fun _ => 0))), (q3, .inr (1, [.ref q4, .ref q5, .int 0, .int 0, .int 0])), (q6, .inr (1, [.ref q7, .ref q8, .int 0, .int 0, .int 0])), (q9, .inr (4, [.ref q1, .int 0, .int 0, .int 0, .int 0, .int 0])), (q10, .inr (5, [.ref q3, .ref q11, .int 0, .int (-1), .int 0, .int 0, .int 0, .int 0, .int 0]))]) (w1 := [(q12, .inr (3, [.int 0, .int 0, .ref q13, .int 0, .int 0, .int 0, .int 0, .int 0]))]) hP hD [6] [0, 1, 2, 3, 4, 5] rfl rfl (by decide) (by decide) hk1 hFc hP1 hD1
  generalize H1 = H at hP hS ⊢
  have hP : va_P (dC, dI) vwCl [(h0, .inr (6, [.ref q1, .int 0, .ref q3, .ref q6, .ref q9, .ref q10, .null, .null, .null, .int 0, .int 0, .null])), (q1, .inl (k2, 400, .inl (fun _ => 0))), (q3, .inr (1, [.ref q4, .ref q5, .int 0, .int 0, .int 0])), (q6, .inr (1, [.ref q7, .ref q8, .int 0, .int 0, .int 0])), (q9, .inr (4, [.ref q1, .int 0, .int 0, .int 0, .int 0, .int 0])), (q10, .inr (5, [.ref q3, .ref q11, .int 0, .int (-1), .int 0, .int 0, .int 0, .int 0, .int 0])), (q12, .inr (3, [.int 0, .int 0, .ref q13, .int 0, .int 0, .int 0, .int 0, .int 0]))] H := hP
  have hD : va_D A [(h0, .inr (6, [.ref q1, .int 0, .ref q3, .ref q6, .ref q9, .ref q10, .null, .null, .null, .int 0, .int 0, .null])), (q1, .inl (k2, 400, .inl (fun _ => 0))), (q3, .inr (1, [.ref q4, .ref q5, .int 0, .int 0, .int 0])), (q6, .inr (1, [.ref q7, .ref q8, .int 0, .int 0, .int 0])), (q9, .inr (4, [.ref q1, .int 0, .int 0, .int 0, .int 0, .int 0])), (q10, .inr (5, [.ref q3, .ref q11, .int 0, .int (-1), .int 0, .int 0, .int 0, .int 0, .int 0])), (q12, .inr (3, [.int 0, .int 0, .ref q13, .int 0, .int 0, .int 0, .int 0, .int 0]))] := hD
  refine W.widen (k := 84) (n := 3007) (Nat.le_of_ble_eq_true rfl) (Nat.le_of_ble_eq_true rfl) ?_
  refine va_putF (D := (dC, dI)) (ci := 6) (v := .ref q12) (ty := tyX6 6) (C := RX6) (T := TX6) (N := 12) hx hb hts inX6 tyX6 tyX6_ok nmX6 hown hK hP hD hS 0 rfl rfl 6 (by decide) (hts _ pq355) (fun _ h9 => h9) rfl hin rfl (by decide +kernel) rfl rfl (Nat.le_of_ble_eq_true rfl) dX6_init_78 (fun H locs hP hD hS => ?_)
  have hP : va_P (dC, dI) vwCl [(h0, .inr (6, [.ref q1, .int 0, .ref q3, .ref q6, .ref q9, .ref q10, .ref q12, .null, .null, .int 0, .int 0, .null])), (q1, .inl (k2, 400, .inl (fun _ => 0))), (q3, .inr (1, [.ref q4, .ref q5, .int 0, .int 0, .int 0])), (q6, .inr (1, [.ref q7, .ref q8, .int 0, .int 0, .int 0])), (q9, .inr (4, [.ref q1, .int 0, .int 0, .int 0, .int 0, .int 0])), (q10, .inr (5, [.ref q3, .ref q11, .int 0, .int (-1), .int 0, .int 0, .int 0, .int 0, .int 0])), (q12, .inr (3, [.int 0, .int 0, .ref q13, .int 0, .int 0, .int 0, .int 0, .int 0]))] H := hP
  have hD : va_D A [(h0, .inr (6, [.ref q1, .int 0, .ref q3, .ref q6, .ref q9, .ref q10, .ref q12, .null, .null, .int 0, .int 0, .null])), (q1, .inl (k2, 400, .inl (fun _ => 0))), (q3, .inr (1, [.ref q4, .ref q5, .int 0, .int 0, .int 0])), (q6, .inr (1, [.ref q7, .ref q8, .int 0, .int 0, .int 0])), (q9, .inr (4, [.ref q1, .int 0, .int 0, .int 0, .int 0, .int 0])), (q10, .inr (5, [.ref q3, .ref q11, .int 0, .int (-1), .int 0, .int 0, .int 0, .int 0, .int 0])), (q12, .inr (3, [.int 0, .int 0, .ref q13, .int 0, .int 0, .int 0, .int 0, .int 0]))] := hD
  refine lv_aload_n hx hb dX6_init_81 rfl (lv_at hl 0 rfl) ?_
  refine va_new (ci := 2) (fs := [.null, .null, .int 0, .int 0, .int 0, .int 0, .int 0, .int 0]) (C := RX2) (T := TX2) (N := 8) hx hb hts inX2 tyX2 tyX2_ok hown (hts _ pq309) (hts _ pq310) (hts _ pq80) hK hP hD hS hA rfl dfX2 (Nat.le_of_ble_eq_true rfl) (Nat.le_of_ble_eq_true rfl) dX6_init_82 (fun q14 H hP hD hS => ?_)
  have hP : va_P (dC, dI) vwCl [(h0, .inr (6, [.ref q1, .int 0, .ref q3, .ref q6, .ref q9, .ref q10, .ref q12, .null, .null, .int 0, .int 0, .null])), (q1, .inl (k2, 400, .inl (fun _ => 0))), (q3, .inr (1, [.ref q4, .ref q5, .int 0, .int 0, .int 0])), (q6, .inr (1, [.ref q7, .ref q8, .int 0, .int 0, .int 0])), (q9, .inr (4, [.ref q1, .int 0, .int 0, .int 0, .int 0, .int 0])), (q10, .inr (5, [.ref q3, .ref q11, .int 0, .int (-1), .int 0, .int 0, .int 0, .int 0, .int 0])), (q12, .inr (3, [.int 0, .int 0, .ref q13, .int 0, .int 0, .int 0, .int 0, .int 0])), (q14, .inr (2, [.null, .null, .int 0, .int 0, .int 0, .int 0, .int 0, .int 0]))] H := hP
  have hD : va_D A [(h0, .inr (6, [.ref q1, .int 0, .ref q3, .ref q6, .ref q9, .ref q10, .ref q12, .null, .null, .int 0, .int 0, .null])), (q1, .inl (k2, 400, .inl (fun _ => 0))), (q3, .inr (1, [.ref q4, .ref q5, .int 0, .int 0, .int 0])), (q6, .inr (1, [.ref q7, .ref q8, .int 0, .int 0, .int 0])), (q9, .inr (4, [.ref q1, .int 0, .int 0, .int 0, .int 0, .int 0])), (q10, .inr (5, [.ref q3, .ref q11, .int 0, .int (-1), .int 0, .int 0, .int 0, .int 0, .int 0])), (q12, .inr (3, [.int 0, .int 0, .ref q13, .int 0, .int 0, .int 0, .int 0, .int 0])), (q14, .inr (2, [.null, .null, .int 0, .int 0, .int 0, .int 0, .int 0, .int 0]))] := hD
  refine W.widen (k := 85) (n := 3015) (Nat.le_of_ble_eq_true rfl) (Nat.le_of_ble_eq_true rfl) ?_
  refine lv_dup hx hb dX6_init_85 rfl ?_
  have hPc := hP.sub (ws' := [(q14, .inr (2, [.null, .null, .int 0, .int 0, .int 0, .int 0, .int 0, .int 0]))]) [7] rfl
  have hDc := hD.sub (ws' := [(q14, .inr (2, [.null, .null, .int 0, .int 0, .int 0, .int 0, .int 0, .int 0]))]) [7] (by decide) rfl
  have hKc := hK.sub (tys' := []) [] rfl
  have hFc := va_free (wc := [(q14, .inr (2, [.null, .null, .int 0, .int 0, .int 0, .int 0, .int 0, .int 0]))]) hD hS hA [7] rfl
  refine va_callv (va_runIN (As := []) (rest := [.ref q14, .ref h0]) ⟨hx, hb, hml, hown, hts⟩ (c_X2_init l dC dI q14 H.size  ) ⟨va_cnB 0 hts (gI pq313) rfl rfl rfl (xN_X6_54 hN) (hts _ pq80) (by decide +kernel) ⟨(Nat.le_of_ble_eq_true rfl), (Nat.le_of_ble_eq_true rfl)⟩, rfl, hts _ pq312⟩ (pc_S hPc hDc hKc hN) rfl rfl hl.1 rfl (lv_room (Nat.le_of_ble_eq_true rfl)) dX6_init_86 ⟨(Nat.le_of_ble_eq_true rfl), (Nat.le_of_ble_eq_true rfl)⟩) hS (fun q _ h => hFc q h) hFc (fun u t H1 locs ht hvm hw hB hz1 hk1 hS => ?_)
  obtain ⟨hP, hD⟩ := va_join (wr := [(h0, .inr (6, [.ref q1, .int 0, .ref q3, .ref q6, .ref q9, .ref q10, .ref q12, .null, .null, .int 0, .int 0, .null])), (q1, .inl (k2, 400, .inl (fun _ => 0))), (q3, .inr (1, [.ref q4, .ref q5, .int 0, .int 0, .int 0])), (q6, .inr (1, [.ref q7, .ref q8, .int 0, .int 0, .int 0])), (q9, .inr (4, [.ref q1, .int 0, .int 0, .int 0, .int 0, .int 0])), (q10, .inr (5, [.ref q3, .ref q11, .int 0, .int (-1), .int 0, .int 0, .int 0, .int 0, .int 0])), (q12, .inr (3, [.int 0, .int 0, .ref q13, .int 0, .int 0, .int 0, .int 0, .int 0]))]) (w1 := []) hP hD [7] [0, 1, 2, 3, 4, 5, 6] rfl rfl (by decide) (by decide) hk1 hFc va_P0 va_D0
  generalize H1 = H at hP hS ⊢
  have hP : va_P (dC, dI) vwCl [(h0, .inr (6, [.ref q1, .int 0, .ref q3, .ref q6, .ref q9, .ref q10, .ref q12, .null, .null, .int 0, .int 0, .null])), (q1, .inl (k2, 400, .inl (fun _ => 0))), (q3, .inr (1, [.ref q4, .ref q5, .int 0, .int 0, .int 0])), (q6, .inr (1, [.ref q7, .ref q8, .int 0, .int 0, .int 0])), (q9, .inr (4, [.ref q1, .int 0, .int 0, .int 0, .int 0, .int 0])), (q10, .inr (5, [.ref q3, .ref q11, .int 0, .int (-1), .int 0, .int 0, .int 0, .int 0, .int 0])), (q12, .inr (3, [.int 0, .int 0, .ref q13, .int 0, .int 0, .int 0, .int 0, .int 0]))] H := hP
  have hD : va_D A [(h0, .inr (6, [.ref q1, .int 0, .ref q3, .ref q6, .ref q9, .ref q10, .ref q12, .null, .null, .int 0, .int 0, .null])), (q1, .inl (k2, 400, .inl (fun _ => 0))), (q3, .inr (1, [.ref q4, .ref q5, .int 0, .int 0, .int 0])), (q6, .inr (1, [.ref q7, .ref q8, .int 0, .int 0, .int 0])), (q9, .inr (4, [.ref q1, .int 0, .int 0, .int 0, .int 0, .int 0])), (q10, .inr (5, [.ref q3, .ref q11, .int 0, .int (-1), .int 0, .int 0, .int 0, .int 0, .int 0])), (q12, .inr (3, [.int 0, .int 0, .ref q13, .int 0, .int 0, .int 0, .int 0, .int 0]))] := hD
  refine W.widen (k := 88) (n := 7103) (Nat.le_of_ble_eq_true rfl) (Nat.le_of_ble_eq_true rfl) ?_
  refine va_putF (D := (dC, dI)) (ci := 6) (v := .ref q14) (ty := tyX6 7) (C := RX6) (T := TX6) (N := 12) hx hb hts inX6 tyX6 tyX6_ok nmX6 hown hK hP hD hS 0 rfl rfl 7 (by decide) (hts _ pq356) (fun _ h9 => h9) rfl hin rfl (by decide +kernel) rfl rfl (Nat.le_of_ble_eq_true rfl) dX6_init_89 (fun H locs hP hD hS => ?_)
  have hP : va_P (dC, dI) vwCl [(h0, .inr (6, [.ref q1, .int 0, .ref q3, .ref q6, .ref q9, .ref q10, .ref q12, .ref q14, .null, .int 0, .int 0, .null])), (q1, .inl (k2, 400, .inl (fun _ => 0))), (q3, .inr (1, [.ref q4, .ref q5, .int 0, .int 0, .int 0])), (q6, .inr (1, [.ref q7, .ref q8, .int 0, .int 0, .int 0])), (q9, .inr (4, [.ref q1, .int 0, .int 0, .int 0, .int 0, .int 0])), (q10, .inr (5, [.ref q3, .ref q11, .int 0, .int (-1), .int 0, .int 0, .int 0, .int 0, .int 0])), (q12, .inr (3, [.int 0, .int 0, .ref q13, .int 0, .int 0, .int 0, .int 0, .int 0]))] H := hP
  have hD : va_D A [(h0, .inr (6, [.ref q1, .int 0, .ref q3, .ref q6, .ref q9, .ref q10, .ref q12, .ref q14, .null, .int 0, .int 0, .null])), (q1, .inl (k2, 400, .inl (fun _ => 0))), (q3, .inr (1, [.ref q4, .ref q5, .int 0, .int 0, .int 0])), (q6, .inr (1, [.ref q7, .ref q8, .int 0, .int 0, .int 0])), (q9, .inr (4, [.ref q1, .int 0, .int 0, .int 0, .int 0, .int 0])), (q10, .inr (5, [.ref q3, .ref q11, .int 0, .int (-1), .int 0, .int 0, .int 0, .int 0, .int 0])), (q12, .inr (3, [.int 0, .int 0, .ref q13, .int 0, .int 0, .int 0, .int 0, .int 0]))] := hD
  have hP := hP.sub (ws' := [(h0, .inr (6, [.ref q1, .int 0, .ref q3, .ref q6, .ref q9, .ref q10, .ref q12, .ref q14, .null, .int 0, .int 0, .null])), (q1, .inl (k2, 400, .inl (fun _ => 0))), (q3, .inr (1, [.ref q4, .ref q5, .int 0, .int 0, .int 0])), (q6, .inr (1, [.ref q7, .ref q8, .int 0, .int 0, .int 0])), (q9, .inr (4, [.ref q1, .int 0, .int 0, .int 0, .int 0, .int 0])), (q10, .inr (5, [.ref q3, .ref q11, .int 0, .int (-1), .int 0, .int 0, .int 0, .int 0, .int 0]))]) [0, 1, 2, 3, 4, 5] rfl
  have hD := hD.sub (ws' := [(h0, .inr (6, [.ref q1, .int 0, .ref q3, .ref q6, .ref q9, .ref q10, .ref q12, .ref q14, .null, .int 0, .int 0, .null])), (q1, .inl (k2, 400, .inl (fun _ => 0))), (q3, .inr (1, [.ref q4, .ref q5, .int 0, .int 0, .int 0])), (q6, .inr (1, [.ref q7, .ref q8, .int 0, .int 0, .int 0])), (q9, .inr (4, [.ref q1, .int 0, .int 0, .int 0, .int 0, .int 0])), (q10, .inr (5, [.ref q3, .ref q11, .int 0, .int (-1), .int 0, .int 0, .int 0, .int 0, .int 0]))]) [0, 1, 2, 3, 4, 5] (by decide) rfl
  refine lv_aload_n hx hb dX6_init_92 rfl (lv_at hl 0 rfl) ?_
  refine lv_bipush (v := 10) hx hb dX6_init_93 (by decide +kernel) ?_
  refine va_newq (C := RX1) (n := 10) (N' := 10) hx hb hown (hts _ pq101) (xN_aoX1 hN) hK hP hD hS hA (by decide +kernel) (by decide +kernel) (Nat.le_of_ble_eq_true rfl) (Nat.le_of_ble_eq_true rfl) (Nat.le_of_ble_eq_true rfl) dX6_init_95 (fun q15 k16 H hK hP hD hS => ?_)
  have hP : va_P (dC, dI) vwCl [(h0, .inr (6, [.ref q1, .int 0, .ref q3, .ref q6, .ref q9, .ref q10, .ref q12, .ref q14, .null, .int 0, .int 0, .null])), (q1, .inl (k2, 400, .inl (fun _ => 0))), (q3, .inr (1, [.ref q4, .ref q5, .int 0, .int 0, .int 0])), (q6, .inr (1, [.ref q7, .ref q8, .int 0, .int 0, .int 0])), (q9, .inr (4, [.ref q1, .int 0, .int 0, .int 0, .int 0, .int 0])), (q10, .inr (5, [.ref q3, .ref q11, .int 0, .int (-1), .int 0, .int 0, .int 0, .int 0, .int 0])), (q15, .inl (k16, 10, .inr (.inr (.inr (.inr (fun _ => none))))))] H := hP
  have hD : va_D A [(h0, .inr (6, [.ref q1, .int 0, .ref q3, .ref q6, .ref q9, .ref q10, .ref q12, .ref q14, .null, .int 0, .int 0, .null])), (q1, .inl (k2, 400, .inl (fun _ => 0))), (q3, .inr (1, [.ref q4, .ref q5, .int 0, .int 0, .int 0])), (q6, .inr (1, [.ref q7, .ref q8, .int 0, .int 0, .int 0])), (q9, .inr (4, [.ref q1, .int 0, .int 0, .int 0, .int 0, .int 0])), (q10, .inr (5, [.ref q3, .ref q11, .int 0, .int (-1), .int 0, .int 0, .int 0, .int 0, .int 0])), (q15, .inl (k16, 10, .inr (.inr (.inr (.inr (fun _ => none))))))] := hD
  have hK : va_K (dC, dI) vwCl [(k2, .byte), (k16, .object RX1)] s := hK
  refine W.widen (k := 89) (n := 7113) (Nat.le_of_ble_eq_true rfl) (Nat.le_of_ble_eq_true rfl) ?_
  refine va_putF (D := (dC, dI)) (ci := 6) (v := .ref q15) (ty := tyX6 8) (C := RX6) (T := TX6) (N := 12) hx hb hts inX6 tyX6 tyX6_ok nmX6 hown hK hP hD hS 0 rfl rfl 8 (by decide) (hts _ pq357) (fun _ h9 => h9) rfl hin rfl (by decide +kernel) rfl rfl (Nat.le_of_ble_eq_true rfl) dX6_init_98 (fun H locs hP hD hS => ?_)
  have hP : va_P (dC, dI) vwCl [(h0, .inr (6, [.ref q1, .int 0, .ref q3, .ref q6, .ref q9, .ref q10, .ref q12, .ref q14, .ref q15, .int 0, .int 0, .null])), (q1, .inl (k2, 400, .inl (fun _ => 0))), (q3, .inr (1, [.ref q4, .ref q5, .int 0, .int 0, .int 0])), (q6, .inr (1, [.ref q7, .ref q8, .int 0, .int 0, .int 0])), (q9, .inr (4, [.ref q1, .int 0, .int 0, .int 0, .int 0, .int 0])), (q10, .inr (5, [.ref q3, .ref q11, .int 0, .int (-1), .int 0, .int 0, .int 0, .int 0, .int 0])), (q15, .inl (k16, 10, .inr (.inr (.inr (.inr (fun _ => none))))))] H := hP
  have hD : va_D A [(h0, .inr (6, [.ref q1, .int 0, .ref q3, .ref q6, .ref q9, .ref q10, .ref q12, .ref q14, .ref q15, .int 0, .int 0, .null])), (q1, .inl (k2, 400, .inl (fun _ => 0))), (q3, .inr (1, [.ref q4, .ref q5, .int 0, .int 0, .int 0])), (q6, .inr (1, [.ref q7, .ref q8, .int 0, .int 0, .int 0])), (q9, .inr (4, [.ref q1, .int 0, .int 0, .int 0, .int 0, .int 0])), (q10, .inr (5, [.ref q3, .ref q11, .int 0, .int (-1), .int 0, .int 0, .int 0, .int 0, .int 0])), (q15, .inl (k16, 10, .inr (.inr (.inr (.inr (fun _ => none))))))] := hD
  refine lv_aload_n hx hb dX6_init_101 rfl (lv_at hl 0 rfl) ?_
  refine lv_iconst (v := 0) hx hb dX6_init_102 (by decide +kernel) ?_
  refine va_put (D := (dC, dI)) (ci := 6) (v := .int 0) (ty := tyX6 9) (C := RX6) (T := TX6) (N := 12) hx hb hts inX6 tyX6 tyX6_ok nmX6 hown hK hP hD hS 0 rfl rfl 9 (by decide) (hts _ pq358) (fun _ h9 => h9) rfl (by decide +kernel) rfl rfl (Nat.le_of_ble_eq_true rfl) dX6_init_103 (fun H locs hP hD hS => ?_)
  have hP : va_P (dC, dI) vwCl [(h0, .inr (6, [.ref q1, .int 0, .ref q3, .ref q6, .ref q9, .ref q10, .ref q12, .ref q14, .ref q15, .int 0, .int 0, .null])), (q1, .inl (k2, 400, .inl (fun _ => 0))), (q3, .inr (1, [.ref q4, .ref q5, .int 0, .int 0, .int 0])), (q6, .inr (1, [.ref q7, .ref q8, .int 0, .int 0, .int 0])), (q9, .inr (4, [.ref q1, .int 0, .int 0, .int 0, .int 0, .int 0])), (q10, .inr (5, [.ref q3, .ref q11, .int 0, .int (-1), .int 0, .int 0, .int 0, .int 0, .int 0])), (q15, .inl (k16, 10, .inr (.inr (.inr (.inr (fun _ => none))))))] H := hP
  have hD : va_D A [(h0, .inr (6, [.ref q1, .int 0, .ref q3, .ref q6, .ref q9, .ref q10, .ref q12, .ref q14, .ref q15, .int 0, .int 0, .null])), (q1, .inl (k2, 400, .inl (fun _ => 0))), (q3, .inr (1, [.ref q4, .ref q5, .int 0, .int 0, .int 0])), (q6, .inr (1, [.ref q7, .ref q8, .int 0, .int 0, .int 0])), (q9, .inr (4, [.ref q1, .int 0, .int 0, .int 0, .int 0, .int 0])), (q10, .inr (5, [.ref q3, .ref q11, .int 0, .int (-1), .int 0, .int 0, .int 0, .int 0, .int 0])), (q15, .inl (k16, 10, .inr (.inr (.inr (.inr (fun _ => none))))))] := hD
  refine lv_aload_n hx hb dX6_init_106 rfl (lv_at hl 0 rfl) ?_
  refine lv_iconst (v := 0) hx hb dX6_init_107 (by decide +kernel) ?_
  refine va_put (D := (dC, dI)) (ci := 6) (v := .int 0) (ty := tyX6 10) (C := RX6) (T := TX6) (N := 12) hx hb hts inX6 tyX6 tyX6_ok nmX6 hown hK hP hD hS 0 rfl rfl 10 (by decide) (hts _ pq359) (fun _ h9 => h9) rfl (by decide +kernel) rfl rfl (Nat.le_of_ble_eq_true rfl) dX6_init_108 (fun H locs hP hD hS => ?_)
  have hP : va_P (dC, dI) vwCl [(h0, .inr (6, [.ref q1, .int 0, .ref q3, .ref q6, .ref q9, .ref q10, .ref q12, .ref q14, .ref q15, .int 0, .int 0, .null])), (q1, .inl (k2, 400, .inl (fun _ => 0))), (q3, .inr (1, [.ref q4, .ref q5, .int 0, .int 0, .int 0])), (q6, .inr (1, [.ref q7, .ref q8, .int 0, .int 0, .int 0])), (q9, .inr (4, [.ref q1, .int 0, .int 0, .int 0, .int 0, .int 0])), (q10, .inr (5, [.ref q3, .ref q11, .int 0, .int (-1), .int 0, .int 0, .int 0, .int 0, .int 0])), (q15, .inl (k16, 10, .inr (.inr (.inr (.inr (fun _ => none))))))] H := hP
  have hD : va_D A [(h0, .inr (6, [.ref q1, .int 0, .ref q3, .ref q6, .ref q9, .ref q10, .ref q12, .ref q14, .ref q15, .int 0, .int 0, .null])), (q1, .inl (k2, 400, .inl (fun _ => 0))), (q3, .inr (1, [.ref q4, .ref q5, .int 0, .int 0, .int 0])), (q6, .inr (1, [.ref q7, .ref q8, .int 0, .int 0, .int 0])), (q9, .inr (4, [.ref q1, .int 0, .int 0, .int 0, .int 0, .int 0])), (q10, .inr (5, [.ref q3, .ref q11, .int 0, .int (-1), .int 0, .int 0, .int 0, .int 0, .int 0])), (q15, .inl (k16, 10, .inr (.inr (.inr (.inr (fun _ => none))))))] := hD
  refine lv_aload_n hx hb dX6_init_111 rfl (lv_at hl 0 rfl) ?_
  refine lv_iconst (v := 2) hx hb dX6_init_112 (by decide +kernel) ?_
  refine va_newq (C := RX1) (n := 2) (N' := 2) hx hb hown (hts _ pq101) (xN_aoX1 hN) hK hP hD hS hA (by decide +kernel) (by decide +kernel) (Nat.le_of_ble_eq_true rfl) (Nat.le_of_ble_eq_true rfl) (Nat.le_of_ble_eq_true rfl) dX6_init_113 (fun q17 k18 H hK hP hD hS => ?_)
  have hP : va_P (dC, dI) vwCl [(h0, .inr (6, [.ref q1, .int 0, .ref q3, .ref q6, .ref q9, .ref q10, .ref q12, .ref q14, .ref q15, .int 0, .int 0, .null])), (q1, .inl (k2, 400, .inl (fun _ => 0))), (q3, .inr (1, [.ref q4, .ref q5, .int 0, .int 0, .int 0])), (q6, .inr (1, [.ref q7, .ref q8, .int 0, .int 0, .int 0])), (q9, .inr (4, [.ref q1, .int 0, .int 0, .int 0, .int 0, .int 0])), (q10, .inr (5, [.ref q3, .ref q11, .int 0, .int (-1), .int 0, .int 0, .int 0, .int 0, .int 0])), (q15, .inl (k16, 10, .inr (.inr (.inr (.inr (fun _ => none)))))), (q17, .inl (k18, 2, .inr (.inr (.inr (.inr (fun _ => none))))))] H := hP
  have hD : va_D A [(h0, .inr (6, [.ref q1, .int 0, .ref q3, .ref q6, .ref q9, .ref q10, .ref q12, .ref q14, .ref q15, .int 0, .int 0, .null])), (q1, .inl (k2, 400, .inl (fun _ => 0))), (q3, .inr (1, [.ref q4, .ref q5, .int 0, .int 0, .int 0])), (q6, .inr (1, [.ref q7, .ref q8, .int 0, .int 0, .int 0])), (q9, .inr (4, [.ref q1, .int 0, .int 0, .int 0, .int 0, .int 0])), (q10, .inr (5, [.ref q3, .ref q11, .int 0, .int (-1), .int 0, .int 0, .int 0, .int 0, .int 0])), (q15, .inl (k16, 10, .inr (.inr (.inr (.inr (fun _ => none)))))), (q17, .inl (k18, 2, .inr (.inr (.inr (.inr (fun _ => none))))))] := hD
  have hK : va_K (dC, dI) vwCl [(k2, .byte), (k16, .object RX1), (k18, .object RX1)] s := hK
  refine W.widen (k := 90) (n := 7115) (Nat.le_of_ble_eq_true rfl) (Nat.le_of_ble_eq_true rfl) ?_
  refine va_putF (D := (dC, dI)) (ci := 6) (v := .ref q17) (ty := tyX6 11) (C := RX6) (T := TX6) (N := 12) hx hb hts inX6 tyX6 tyX6_ok nmX6 hown hK hP hD hS 0 rfl rfl 11 (by decide) (hts _ pq360) (fun _ h9 => h9) rfl hin rfl (by decide +kernel) rfl rfl (Nat.le_of_ble_eq_true rfl) dX6_init_116 (fun H locs hP hD hS => ?_)
  have hP : va_P (dC, dI) vwCl [(h0, .inr (6, [.ref q1, .int 0, .ref q3, .ref q6, .ref q9, .ref q10, .ref q12, .ref q14, .ref q15, .int 0, .int 0, .ref q17])), (q1, .inl (k2, 400, .inl (fun _ => 0))), (q3, .inr (1, [.ref q4, .ref q5, .int 0, .int 0, .int 0])), (q6, .inr (1, [.ref q7, .ref q8, .int 0, .int 0, .int 0])), (q9, .inr (4, [.ref q1, .int 0, .int 0, .int 0, .int 0, .int 0])), (q10, .inr (5, [.ref q3, .ref q11, .int 0, .int (-1), .int 0, .int 0, .int 0, .int 0, .int 0])), (q15, .inl (k16, 10, .inr (.inr (.inr (.inr (fun _ => none)))))), (q17, .inl (k18, 2, .inr (.inr (.inr (.inr (fun _ => none))))))] H := hP
  have hD : va_D A [(h0, .inr (6, [.ref q1, .int 0, .ref q3, .ref q6, .ref q9, .ref q10, .ref q12, .ref q14, .ref q15, .int 0, .int 0, .ref q17])), (q1, .inl (k2, 400, .inl (fun _ => 0))), (q3, .inr (1, [.ref q4, .ref q5, .int 0, .int 0, .int 0])), (q6, .inr (1, [.ref q7, .ref q8, .int 0, .int 0, .int 0])), (q9, .inr (4, [.ref q1, .int 0, .int 0, .int 0, .int 0, .int 0])), (q10, .inr (5, [.ref q3, .ref q11, .int 0, .int (-1), .int 0, .int 0, .int 0, .int 0, .int 0])), (q15, .inl (k16, 10, .inr (.inr (.inr (.inr (fun _ => none)))))), (q17, .inl (k18, 2, .inr (.inr (.inr (.inr (fun _ => none))))))] := hD
  have hP9 := hP.sub (ws' := [(h0, .inr (6, [.ref q1, .int 0, .ref q3, .ref q6, .ref q9, .ref q10, .ref q12, .ref q14, .ref q15, .int 0, .int 0, .ref q17])), (q1, .inl (k2, 400, .inl (fun _ => 0))), (q3, .inr (1, [.ref q4, .ref q5, .int 0, .int 0, .int 0])), (q6, .inr (1, [.ref q7, .ref q8, .int 0, .int 0, .int 0])), (q9, .inr (4, [.ref q1, .int 0, .int 0, .int 0, .int 0, .int 0])), (q10, .inr (5, [.ref q3, .ref q11, .int 0, .int (-1), .int 0, .int 0, .int 0, .int 0, .int 0])), (q15, .inl (k16, 10, .inr (.inr (.inr (.inr (fun _ => none)))))), (q17, .inl (k18, 2, .inr (.inr (.inr (.inr (fun _ => none))))))]) [0, 1, 2, 3, 4, 5, 6, 7] rfl
  have hD9 := hD.sub (ws' := [(h0, .inr (6, [.ref q1, .int 0, .ref q3, .ref q6, .ref q9, .ref q10, .ref q12, .ref q14, .ref q15, .int 0, .int 0, .ref q17])), (q1, .inl (k2, 400, .inl (fun _ => 0))), (q3, .inr (1, [.ref q4, .ref q5, .int 0, .int 0, .int 0])), (q6, .inr (1, [.ref q7, .ref q8, .int 0, .int 0, .int 0])), (q9, .inr (4, [.ref q1, .int 0, .int 0, .int 0, .int 0, .int 0])), (q10, .inr (5, [.ref q3, .ref q11, .int 0, .int (-1), .int 0, .int 0, .int 0, .int 0, .int 0])), (q15, .inl (k16, 10, .inr (.inr (.inr (.inr (fun _ => none)))))), (q17, .inl (k18, 2, .inr (.inr (.inr (.inr (fun _ => none))))))]) [0, 1, 2, 3, 4, 5, 6, 7] (by decide) rfl
  have hK9 := hK.sub (tys' := [(k2, .byte), (k16, .object RX1), (k18, .object RX1)]) [0, 1, 2] rfl
  exact W.vret hx hb hr (fun t ht hW => ⟨⟨(), rfl, trivial, ⟨q1, q3, q6, q9, q10, q12, q14, q15, q17, q4, q5, q7, q8, q11, k2, k16, k18, by rw [ht]; exact hP9, va_K.moved hW.alike hK9, hD9⟩⟩, hS.F ht⟩) hS.2.2 dX6_init_119
