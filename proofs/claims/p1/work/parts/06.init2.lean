abbrev cX2_init : ByteArray := prog_4_method_1_code
abbrev cX4_init : ByteArray := prog_6_method_1_code
abbrev cX5_init : ByteArray := prog_7_method_1_code
def yX4_init : MethodName := ⟨RX4, "<init>", "([B)V"⟩
def yX5_init : MethodName := ⟨RX5, "<init>", "(LMaskTouch$Field;)V"⟩
theorem dX2_init_0 : decode cX2_init 0 = .ok (.aload_n 0, 1) := by decide +kernel
theorem dX2_init_1 : decode cX2_init 1 = .ok (.invokespecial 3, 3) := by decide +kernel
theorem dX2_init_4 : decode cX2_init 4 = .ok (.aload_n 0, 1) := by decide +kernel
theorem dX2_init_5 : decode cX2_init 5 = .ok (.new 9, 3) := by decide +kernel
theorem dX2_init_8 : decode cX2_init 8 = .ok (.dup, 1) := by decide +kernel
theorem dX2_init_9 : decode cX2_init 9 = .ok (.invokespecial 11, 3) := by decide +kernel
theorem dX2_init_12 : decode cX2_init 12 = .ok (.putfield 12, 3) := by decide +kernel
theorem dX2_init_15 : decode cX2_init 15 = .ok (.aload_n 0, 1) := by decide +kernel
theorem dX2_init_16 : decode cX2_init 16 = .ok (.sipush 4000, 3) := by decide +kernel
theorem dX2_init_19 : decode cX2_init 19 = .ok (.newarray .int, 2) := by decide +kernel
theorem dX2_init_21 : decode cX2_init 21 = .ok (.putfield 18, 3) := by decide +kernel
theorem dX2_init_24 : decode cX2_init 24 = .ok (.aload_n 0, 1) := by decide +kernel
theorem dX2_init_25 : decode cX2_init 25 = .ok (.iconst 0, 1) := by decide +kernel
theorem dX2_init_26 : decode cX2_init 26 = .ok (.putfield 22, 3) := by decide +kernel
theorem dX2_init_29 : decode cX2_init 29 = .ok (.aload_n 0, 1) := by decide +kernel
theorem dX2_init_30 : decode cX2_init 30 = .ok (.iconst 0, 1) := by decide +kernel
theorem dX2_init_31 : decode cX2_init 31 = .ok (.putfield 26, 3) := by decide +kernel
theorem dX2_init_34 : decode cX2_init 34 = .ok (.aload_n 0, 1) := by decide +kernel
theorem dX2_init_35 : decode cX2_init 35 = .ok (.iconst 0, 1) := by decide +kernel
theorem dX2_init_36 : decode cX2_init 36 = .ok (.putfield 29, 3) := by decide +kernel
theorem dX2_init_39 : decode cX2_init 39 = .ok (.aload_n 0, 1) := by decide +kernel
theorem dX2_init_40 : decode cX2_init 40 = .ok (.iconst 0, 1) := by decide +kernel
theorem dX2_init_41 : decode cX2_init 41 = .ok (.putfield 32, 3) := by decide +kernel
theorem dX2_init_44 : decode cX2_init 44 = .ok (.aload_n 0, 1) := by decide +kernel
theorem dX2_init_45 : decode cX2_init 45 = .ok (.iconst 0, 1) := by decide +kernel
theorem dX2_init_46 : decode cX2_init 46 = .ok (.putfield 35, 3) := by decide +kernel
theorem dX2_init_49 : decode cX2_init 49 = .ok (.aload_n 0, 1) := by decide +kernel
theorem dX2_init_50 : decode cX2_init 50 = .ok (.iconst 0, 1) := by decide +kernel
theorem dX2_init_51 : decode cX2_init 51 = .ok (.putfield 38, 3) := by decide +kernel
theorem dX2_init_54 : decode cX2_init 54 = .ok (.return_, 1) := by decide +kernel
theorem dX4_init_0 : decode cX4_init 0 = .ok (.aload_n 0, 1) := by decide +kernel
theorem dX4_init_1 : decode cX4_init 1 = .ok (.invokespecial 3, 3) := by decide +kernel
theorem dX4_init_4 : decode cX4_init 4 = .ok (.aload_n 0, 1) := by decide +kernel
theorem dX4_init_5 : decode cX4_init 5 = .ok (.iconst 0, 1) := by decide +kernel
theorem dX4_init_6 : decode cX4_init 6 = .ok (.putfield 9, 3) := by decide +kernel
theorem dX4_init_9 : decode cX4_init 9 = .ok (.aload_n 0, 1) := by decide +kernel
theorem dX4_init_10 : decode cX4_init 10 = .ok (.iconst 0, 1) := by decide +kernel
theorem dX4_init_11 : decode cX4_init 11 = .ok (.putfield 15, 3) := by decide +kernel
theorem dX4_init_14 : decode cX4_init 14 = .ok (.aload_n 0, 1) := by decide +kernel
theorem dX4_init_15 : decode cX4_init 15 = .ok (.iconst 0, 1) := by decide +kernel
theorem dX4_init_16 : decode cX4_init 16 = .ok (.putfield 18, 3) := by decide +kernel
theorem dX4_init_19 : decode cX4_init 19 = .ok (.aload_n 0, 1) := by decide +kernel
theorem dX4_init_20 : decode cX4_init 20 = .ok (.iconst 0, 1) := by decide +kernel
theorem dX4_init_21 : decode cX4_init 21 = .ok (.putfield 21, 3) := by decide +kernel
theorem dX4_init_24 : decode cX4_init 24 = .ok (.aload_n 0, 1) := by decide +kernel
theorem dX4_init_25 : decode cX4_init 25 = .ok (.iconst 0, 1) := by decide +kernel
theorem dX4_init_26 : decode cX4_init 26 = .ok (.putfield 24, 3) := by decide +kernel
theorem dX4_init_29 : decode cX4_init 29 = .ok (.aload_n 0, 1) := by decide +kernel
theorem dX4_init_30 : decode cX4_init 30 = .ok (.aload_n 1, 1) := by decide +kernel
theorem dX4_init_31 : decode cX4_init 31 = .ok (.putfield 27, 3) := by decide +kernel
theorem dX4_init_34 : decode cX4_init 34 = .ok (.return_, 1) := by decide +kernel
theorem dX5_init_0 : decode cX5_init 0 = .ok (.aload_n 0, 1) := by decide +kernel
theorem dX5_init_1 : decode cX5_init 1 = .ok (.invokespecial 3, 3) := by decide +kernel
theorem dX5_init_4 : decode cX5_init 4 = .ok (.aload_n 0, 1) := by decide +kernel
theorem dX5_init_5 : decode cX5_init 5 = .ok (.bipush 10, 2) := by decide +kernel
theorem dX5_init_7 : decode cX5_init 7 = .ok (.anewarray 9, 3) := by decide +kernel
theorem dX5_init_10 : decode cX5_init 10 = .ok (.putfield 11, 3) := by decide +kernel
theorem dX5_init_13 : decode cX5_init 13 = .ok (.aload_n 0, 1) := by decide +kernel
theorem dX5_init_14 : decode cX5_init 14 = .ok (.iconst 0, 1) := by decide +kernel
theorem dX5_init_15 : decode cX5_init 15 = .ok (.putfield 17, 3) := by decide +kernel
theorem dX5_init_18 : decode cX5_init 18 = .ok (.aload_n 0, 1) := by decide +kernel
theorem dX5_init_19 : decode cX5_init 19 = .ok (.iconst (-1), 1) := by decide +kernel
theorem dX5_init_20 : decode cX5_init 20 = .ok (.putfield 21, 3) := by decide +kernel
theorem dX5_init_23 : decode cX5_init 23 = .ok (.aload_n 0, 1) := by decide +kernel
theorem dX5_init_24 : decode cX5_init 24 = .ok (.iconst 0, 1) := by decide +kernel
theorem dX5_init_25 : decode cX5_init 25 = .ok (.putfield 24, 3) := by decide +kernel
theorem dX5_init_28 : decode cX5_init 28 = .ok (.aload_n 0, 1) := by decide +kernel
theorem dX5_init_29 : decode cX5_init 29 = .ok (.iconst 0, 1) := by decide +kernel
theorem dX5_init_30 : decode cX5_init 30 = .ok (.putfield 27, 3) := by decide +kernel
theorem dX5_init_33 : decode cX5_init 33 = .ok (.aload_n 0, 1) := by decide +kernel
theorem dX5_init_34 : decode cX5_init 34 = .ok (.iconst 0, 1) := by decide +kernel
theorem dX5_init_35 : decode cX5_init 35 = .ok (.putfield 30, 3) := by decide +kernel
theorem dX5_init_38 : decode cX5_init 38 = .ok (.aload_n 0, 1) := by decide +kernel
theorem dX5_init_39 : decode cX5_init 39 = .ok (.iconst 0, 1) := by decide +kernel
theorem dX5_init_40 : decode cX5_init 40 = .ok (.putfield 33, 3) := by decide +kernel
theorem dX5_init_43 : decode cX5_init 43 = .ok (.aload_n 0, 1) := by decide +kernel
theorem dX5_init_44 : decode cX5_init 44 = .ok (.iconst 0, 1) := by decide +kernel
theorem dX5_init_45 : decode cX5_init 45 = .ok (.putfield 36, 3) := by decide +kernel
theorem dX5_init_48 : decode cX5_init 48 = .ok (.aload_n 0, 1) := by decide +kernel
theorem dX5_init_49 : decode cX5_init 49 = .ok (.aload_n 1, 1) := by decide +kernel
theorem dX5_init_50 : decode cX5_init 50 = .ok (.putfield 39, 3) := by decide +kernel
theorem dX5_init_53 : decode cX5_init 53 = .ok (.iconst 0, 1) := by decide +kernel
theorem dX5_init_54 : decode cX5_init 54 = .ok (.istore_n 2, 1) := by decide +kernel
theorem dX5_init_55 : decode cX5_init 55 = .ok (.iload_n 2, 1) := by decide +kernel
theorem dX5_init_56 : decode cX5_init 56 = .ok (.bipush 10, 2) := by decide +kernel
theorem dX5_init_58 : decode cX5_init 58 = .ok (.if_icmp .ge 22, 3) := by decide +kernel
theorem dX5_init_61 : decode cX5_init 61 = .ok (.aload_n 0, 1) := by decide +kernel
theorem dX5_init_62 : decode cX5_init 62 = .ok (.getfield 11, 3) := by decide +kernel
theorem dX5_init_65 : decode cX5_init 65 = .ok (.iload_n 2, 1) := by decide +kernel
theorem dX5_init_66 : decode cX5_init 66 = .ok (.new 9, 3) := by decide +kernel
theorem dX5_init_69 : decode cX5_init 69 = .ok (.dup, 1) := by decide +kernel
theorem dX5_init_70 : decode cX5_init 70 = .ok (.invokespecial 43, 3) := by decide +kernel
theorem dX5_init_73 : decode cX5_init 73 = .ok (.aastore, 1) := by decide +kernel
theorem dX5_init_74 : decode cX5_init 74 = .ok (.iinc 2 1, 3) := by decide +kernel
theorem dX5_init_77 : decode cX5_init 77 = .ok (.goto (-22), 3) := by decide +kernel
theorem dX5_init_80 : decode cX5_init 80 = .ok (.return_, 1) := by decide +kernel
set_option maxRecDepth 100000 in
theorem pq246 : Cond.methodLink RX4 3 objectInit ∈ pw := pw_mem (i := 246) (by decide +kernel) rfl
set_option maxRecDepth 100000 in
theorem pq247 : Cond.fieldLink RX4 27 "MaskTouch$Reader" "text" "[B" ∈ pw := pw_mem (i := 247) (by decide +kernel) rfl
set_option maxRecDepth 100000 in
theorem pq248 : Cond.fieldLink RX4 9 "MaskTouch$Reader" "length" "I" ∈ pw := pw_mem (i := 248) (by decide +kernel) rfl
set_option maxRecDepth 100000 in
theorem pq249 : Cond.fieldLink RX4 15 "MaskTouch$Reader" "spot" "I" ∈ pw := pw_mem (i := 249) (by decide +kernel) rfl
set_option maxRecDepth 100000 in
theorem pq250 : Cond.fieldLink RX4 18 "MaskTouch$Reader" "wordStart" "I" ∈ pw := pw_mem (i := 250) (by decide +kernel) rfl
set_option maxRecDepth 100000 in
theorem pq251 : Cond.fieldLink RX4 21 "MaskTouch$Reader" "number" "I" ∈ pw := pw_mem (i := 251) (by decide +kernel) rfl
set_option maxRecDepth 100000 in
theorem pq252 : Cond.fieldLink RX4 24 "MaskTouch$Reader" "fault" "I" ∈ pw := pw_mem (i := 252) (by decide +kernel) rfl
set_option maxRecDepth 100000 in
theorem pq271 : Cond.methodLink RX5 3 objectInit ∈ pw := pw_mem (i := 271) (by decide +kernel) rfl
set_option maxRecDepth 100000 in
theorem pq272 : Cond.classLink RX5 9 RX3 ∈ pw := pw_mem (i := 272) (by decide +kernel) rfl
set_option maxRecDepth 100000 in
theorem pq274 : Cond.fieldLink RX5 39 "MaskTouch$Scene" "field" "LMaskTouch$Field;" ∈ pw := pw_mem (i := 274) (by decide +kernel) rfl
set_option maxRecDepth 100000 in
theorem pq275 : Cond.fieldLink RX5 11 "MaskTouch$Scene" "shapes" "[LMaskTouch$Mask;" ∈ pw := pw_mem (i := 275) (by decide +kernel) rfl
set_option maxRecDepth 100000 in
theorem pq276 : Cond.fieldLink RX5 17 "MaskTouch$Scene" "steps" "I" ∈ pw := pw_mem (i := 276) (by decide +kernel) rfl
set_option maxRecDepth 100000 in
theorem pq278 : Cond.fieldLink RX5 21 "MaskTouch$Scene" "stopper" "I" ∈ pw := pw_mem (i := 278) (by decide +kernel) rfl
set_option maxRecDepth 100000 in
theorem pq280 : Cond.fieldLink RX5 24 "MaskTouch$Scene" "goneX" "I" ∈ pw := pw_mem (i := 280) (by decide +kernel) rfl
set_option maxRecDepth 100000 in
theorem pq281 : Cond.fieldLink RX5 27 "MaskTouch$Scene" "goneY" "I" ∈ pw := pw_mem (i := 281) (by decide +kernel) rfl
set_option maxRecDepth 100000 in
theorem pq282 : Cond.fieldLink RX5 30 "MaskTouch$Scene" "found" "I" ∈ pw := pw_mem (i := 282) (by decide +kernel) rfl
set_option maxRecDepth 100000 in
theorem pq284 : Cond.fieldLink RX5 33 "MaskTouch$Scene" "foundX" "I" ∈ pw := pw_mem (i := 284) (by decide +kernel) rfl
set_option maxRecDepth 100000 in
theorem pq286 : Cond.fieldLink RX5 36 "MaskTouch$Scene" "foundY" "I" ∈ pw := pw_mem (i := 286) (by decide +kernel) rfl
set_option maxRecDepth 100000 in
theorem pq314 : Cond.methodLink RX2 3 objectInit ∈ pw := pw_mem (i := 314) (by decide +kernel) rfl
set_option maxRecDepth 100000 in
theorem pq315 : Cond.classLink RX2 9 RX3 ∈ pw := pw_mem (i := 315) (by decide +kernel) rfl
set_option maxRecDepth 100000 in
theorem pq317 : Cond.fieldLink RX2 12 "MaskTouch$Flood" "open" "LMaskTouch$Mask;" ∈ pw := pw_mem (i := 317) (by decide +kernel) rfl
set_option maxRecDepth 100000 in
theorem pq318 : Cond.fieldLink RX2 18 "MaskTouch$Flood" "queue" "[I" ∈ pw := pw_mem (i := 318) (by decide +kernel) rfl
set_option maxRecDepth 100000 in
theorem pq319 : Cond.fieldLink RX2 22 "MaskTouch$Flood" "queued" "I" ∈ pw := pw_mem (i := 319) (by decide +kernel) rfl
set_option maxRecDepth 100000 in
theorem pq320 : Cond.fieldLink RX2 26 "MaskTouch$Flood" "size" "I" ∈ pw := pw_mem (i := 320) (by decide +kernel) rfl
set_option maxRecDepth 100000 in
theorem pq322 : Cond.fieldLink RX2 29 "MaskTouch$Flood" "left" "I" ∈ pw := pw_mem (i := 322) (by decide +kernel) rfl
set_option maxRecDepth 100000 in
theorem pq324 : Cond.fieldLink RX2 32 "MaskTouch$Flood" "top" "I" ∈ pw := pw_mem (i := 324) (by decide +kernel) rfl
set_option maxRecDepth 100000 in
theorem pq326 : Cond.fieldLink RX2 35 "MaskTouch$Flood" "right" "I" ∈ pw := pw_mem (i := 326) (by decide +kernel) rfl
set_option maxRecDepth 100000 in
theorem pq328 : Cond.fieldLink RX2 38 "MaskTouch$Flood" "bottom" "I" ∈ pw := pw_mem (i := 328) (by decide +kernel) rfl
set_option maxRecDepth 100000 in
theorem pq347 : Cond.arrayClass .int ∈ pw := pw_mem (i := 347) (by decide +kernel) rfl
set_option maxHeartbeats 4000000 in
set_option maxRecDepth 100000 in
theorem c_X4_init (l : Launch) (dC : Nat → ClassId) (dI : Nat → Nat → Nat) (h0 p0 : Nat) (sz : Nat) : Met l yX4_init (.code yX4_init cX4_init 2 none :: pw) ({ frames := 1, cells := 0, slots := 0, locals := 12 }) (pc (dC, dI) [.ref h0, .ref p0] sz [(h0, .inr (4, [.null, .int 0, .int 0, .int 0, .int 0, .int 0]))] []) (va_Qv (fun (_ : Unit) => True) (fun _ t => wB (dC, dI) [(h0, .inr (4, [.ref p0, .int 0, .int 0, .int 0, .int 0, .int 0]))] [] (va_A [(h0, .inr (4, [.null, .int 0, .int 0, .int 0, .int 0, .int 0]))] sz) t) (va_A [(h0, .inr (4, [.null, .int 0, .int 0, .int 0, .int 0, .int 0]))] sz)) 0 0 (va_A [(h0, .inr (4, [.null, .int 0, .int 0, .int 0, .int 0, .int 0]))] sz) := by
  refine Met.ofW (cc := cX4_init) (maxL := 2) (ret := none) (by decide +kernel) rfl ?_
  intro p e s m args below meth c s₁ B hml hv
  obtain ⟨rfl, hsz, hP, hK, hD0, hN⟩ := hv
  have hx := B.exec
  have hb := B.bytes
  have hr := B.returns
  have hts := fun w (h : w ∈ pw) => atoms_spec (ws := Cond.code yX4_init cX4_init 2 none :: pw) B.pre w (List.mem_cons_of_mem _ h)
  have hown : s.vm.findClass RX4 = some m.cls := findClass_of_methodNamed B.named
  have hlocks := B.notSynchronized
  have hin : meth.name = "<init>" := (name_of_methodNamed B.named B.method).1
  subst hsz
  have hD := hD0.self (sz := s.heap.size)
  generalize hAe : va_A [(h0, .inr (4, [.null, .int 0, .int 0, .int 0, .int 0, .int 0]))] s.heap.size = A at hD ⊢
  have hA : ∀ q : Nat, s.heap.size ≤ q → A q := fun q h => by rw [← hAe]; exact Or.inr h
  obtain ⟨H, hHe⟩ : ∃ H : Heap, H = s.heap := ⟨_, rfl⟩
  have hS : va_S A s.heap H [] := by rw [hHe]; exact va_S.rf
  rw [← hHe] at hP
  have hl := lv_entry ([.ref h0, .ref p0]) (n := 2) (Nat.le_of_ble_eq_true rfl)
  rw [lg_entry_eq]
  generalize (lg_sl ([.ref h0, .ref p0]) ++ List.replicate (2 - (lg_sl ([.ref h0, .ref p0])).length) Slot.unset).toArray = ls at hl ⊢
  have hl : lv_has ls 2 [(0, .ref h0), (1, .ref p0)] := hl
  rw [← hHe]
  refine lv_aload_n hx hb dX4_init_0 rfl (lv_at hl 0 rfl) ?_
  refine W.objInit hx hb hown (hts _ pq246) (hts _ pq99) (hts _ pq100) rfl (by rw [hml]; exact hl.1) rfl dX4_init_1 (Nat.le_of_ble_eq_true rfl) (Nat.le_of_ble_eq_true rfl) ?_
  refine W.eq (g2 := F0 m 4 ls []) rfl ?_
  refine lv_aload_n hx hb dX4_init_4 rfl (lv_at hl 0 rfl) ?_
  refine lv_iconst (v := 0) hx hb dX4_init_5 (by decide +kernel) ?_
  refine va_put (D := (dC, dI)) (ci := 4) (v := .int 0) (ty := tyX4 1) (C := RX4) (T := TX4) (N := 6) hx hb hts inX4 tyX4 tyX4_ok nmX4 hown hK hP hD hS 0 rfl rfl 1 (by decide) (hts _ pq248) (fun _ h9 => h9) rfl (by decide +kernel) rfl rfl (Nat.le_of_ble_eq_true rfl) dX4_init_6 (fun H locs hP hD hS => ?_)
  have hP : va_P (dC, dI) vwCl [(h0, .inr (4, [.null, .int 0, .int 0, .int 0, .int 0, .int 0]))] H := hP
  have hD : va_D A [(h0, .inr (4, [.null, .int 0, .int 0, .int 0, .int 0, .int 0]))] := hD
  refine lv_aload_n hx hb dX4_init_9 rfl (lv_at hl 0 rfl) ?_
  refine lv_iconst (v := 0) hx hb dX4_init_10 (by decide +kernel) ?_
  refine va_put (D := (dC, dI)) (ci := 4) (v := .int 0) (ty := tyX4 2) (C := RX4) (T := TX4) (N := 6) hx hb hts inX4 tyX4 tyX4_ok nmX4 hown hK hP hD hS 0 rfl rfl 2 (by decide) (hts _ pq249) (fun _ h9 => h9) rfl (by decide +kernel) rfl rfl (Nat.le_of_ble_eq_true rfl) dX4_init_11 (fun H locs hP hD hS => ?_)
  have hP : va_P (dC, dI) vwCl [(h0, .inr (4, [.null, .int 0, .int 0, .int 0, .int 0, .int 0]))] H := hP
  have hD : va_D A [(h0, .inr (4, [.null, .int 0, .int 0, .int 0, .int 0, .int 0]))] := hD
  refine lv_aload_n hx hb dX4_init_14 rfl (lv_at hl 0 rfl) ?_
  refine lv_iconst (v := 0) hx hb dX4_init_15 (by decide +kernel) ?_
  refine va_put (D := (dC, dI)) (ci := 4) (v := .int 0) (ty := tyX4 3) (C := RX4) (T := TX4) (N := 6) hx hb hts inX4 tyX4 tyX4_ok nmX4 hown hK hP hD hS 0 rfl rfl 3 (by decide) (hts _ pq250) (fun _ h9 => h9) rfl (by decide +kernel) rfl rfl (Nat.le_of_ble_eq_true rfl) dX4_init_16 (fun H locs hP hD hS => ?_)
  have hP : va_P (dC, dI) vwCl [(h0, .inr (4, [.null, .int 0, .int 0, .int 0, .int 0, .int 0]))] H := hP
  have hD : va_D A [(h0, .inr (4, [.null, .int 0, .int 0, .int 0, .int 0, .int 0]))] := hD
  refine lv_aload_n hx hb dX4_init_19 rfl (lv_at hl 0 rfl) ?_
  refine lv_iconst (v := 0) hx hb dX4_init_20 (by decide +kernel) ?_
  refine va_put (D := (dC, dI)) (ci := 4) (v := .int 0) (ty := tyX4 4) (C := RX4) (T := TX4) (N := 6) hx hb hts inX4 tyX4 tyX4_ok nmX4 hown hK hP hD hS 0 rfl rfl 4 (by decide) (hts _ pq251) (fun _ h9 => h9) rfl (by decide +kernel) rfl rfl (Nat.le_of_ble_eq_true rfl) dX4_init_21 (fun H locs hP hD hS => ?_)
  have hP : va_P (dC, dI) vwCl [(h0, .inr (4, [.null, .int 0, .int 0, .int 0, .int 0, .int 0]))] H := hP
  have hD : va_D A [(h0, .inr (4, [.null, .int 0, .int 0, .int 0, .int 0, .int 0]))] := hD
  refine lv_aload_n hx hb dX4_init_24 rfl (lv_at hl 0 rfl) ?_
  refine lv_iconst (v := 0) hx hb dX4_init_25 (by decide +kernel) ?_
  refine va_put (D := (dC, dI)) (ci := 4) (v := .int 0) (ty := tyX4 5) (C := RX4) (T := TX4) (N := 6) hx hb hts inX4 tyX4 tyX4_ok nmX4 hown hK hP hD hS 0 rfl rfl 5 (by decide) (hts _ pq252) (fun _ h9 => h9) rfl (by decide +kernel) rfl rfl (Nat.le_of_ble_eq_true rfl) dX4_init_26 (fun H locs hP hD hS => ?_)
  have hP : va_P (dC, dI) vwCl [(h0, .inr (4, [.null, .int 0, .int 0, .int 0, .int 0, .int 0]))] H := hP
  have hD : va_D A [(h0, .inr (4, [.null, .int 0, .int 0, .int 0, .int 0, .int 0]))] := hD
  refine lv_aload_n hx hb dX4_init_29 rfl (lv_at hl 0 rfl) ?_
  refine lv_aload_n hx hb dX4_init_30 rfl (lv_at hl 1 rfl) ?_
  refine va_putF (D := (dC, dI)) (ci := 4) (v := .ref p0) (ty := tyX4 0) (C := RX4) (T := TX4) (N := 6) hx hb hts inX4 tyX4 tyX4_ok nmX4 hown hK hP hD hS 0 rfl rfl 0 (by decide) (hts _ pq247) (fun _ h9 => h9) rfl hin rfl (by decide +kernel) rfl rfl (Nat.le_of_ble_eq_true rfl) dX4_init_31 (fun H locs hP hD hS => ?_)
  have hP : va_P (dC, dI) vwCl [(h0, .inr (4, [.ref p0, .int 0, .int 0, .int 0, .int 0, .int 0]))] H := hP
  have hD : va_D A [(h0, .inr (4, [.ref p0, .int 0, .int 0, .int 0, .int 0, .int 0]))] := hD
  have hP9 := hP.sub (ws' := [(h0, .inr (4, [.ref p0, .int 0, .int 0, .int 0, .int 0, .int 0]))]) [0] rfl
  have hD9 := hD.sub (ws' := [(h0, .inr (4, [.ref p0, .int 0, .int 0, .int 0, .int 0, .int 0]))]) [0] (by decide) rfl
  have hK9 := hK.sub (tys' := []) [] rfl
  exact W.vret hx hb hr (fun t ht hW => ⟨⟨(), rfl, trivial, ⟨by rw [ht]; exact hP9, va_K.moved hW.alike hK9, hD9⟩⟩, hS.F ht⟩) hS.2.2 dX4_init_34

set_option maxHeartbeats 4000000 in
set_option maxRecDepth 100000 in
theorem c_X5_init (l : Launch) (dC : Nat → ClassId) (dI : Nat → Nat → Nat) (h0 p0 : Nat) (sz : Nat) : Met l yX5_init (.code yX5_init cX5_init 3 none :: pw) ({ frames := 2, cells := 21, slots := 890, locals := 32 }) (pc (dC, dI) [.ref h0, .ref p0] sz [(h0, .inr (5, [.null, .null, .int 0, .int 0, .int 0, .int 0, .int 0, .int 0, .int 0]))] []) (va_Qv (fun (_ : Unit) => True) (fun _ t => ∃ (ss : Nat), wB (dC, dI) [(h0, .inr (5, [.ref p0, .ref ss, .int 0, .int (-1), .int 0, .int 0, .int 0, .int 0, .int 0]))] [] (va_A [(h0, .inr (5, [.null, .null, .int 0, .int 0, .int 0, .int 0, .int 0, .int 0, .int 0]))] sz) t) (va_A [(h0, .inr (5, [.null, .null, .int 0, .int 0, .int 0, .int 0, .int 0, .int 0, .int 0]))] sz)) 21 890 (va_A [(h0, .inr (5, [.null, .null, .int 0, .int 0, .int 0, .int 0, .int 0, .int 0, .int 0]))] sz) := by
  refine Met.ofW (cc := cX5_init) (maxL := 3) (ret := none) (by decide +kernel) rfl ?_
  intro p e s m args below meth c s₁ B hml hv
  obtain ⟨rfl, hsz, hP, hK, hD0, hN⟩ := hv
  have hx := B.exec
  have hb := B.bytes
  have hr := B.returns
  have hts := fun w (h : w ∈ pw) => atoms_spec (ws := Cond.code yX5_init cX5_init 3 none :: pw) B.pre w (List.mem_cons_of_mem _ h)
  have hown : s.vm.findClass RX5 = some m.cls := findClass_of_methodNamed B.named
  have hlocks := B.notSynchronized
  have hin : meth.name = "<init>" := (name_of_methodNamed B.named B.method).1
  subst hsz
  have hD := hD0.self (sz := s.heap.size)
  generalize hAe : va_A [(h0, .inr (5, [.null, .null, .int 0, .int 0, .int 0, .int 0, .int 0, .int 0, .int 0]))] s.heap.size = A at hD ⊢
  have hA : ∀ q : Nat, s.heap.size ≤ q → A q := fun q h => by rw [← hAe]; exact Or.inr h
  obtain ⟨H, hHe⟩ : ∃ H : Heap, H = s.heap := ⟨_, rfl⟩
  have hS : va_S A s.heap H [] := by rw [hHe]; exact va_S.rf
  rw [← hHe] at hP
  have hl := lv_entry ([.ref h0, .ref p0]) (n := 3) (Nat.le_of_ble_eq_true rfl)
  rw [lg_entry_eq]
  generalize (lg_sl ([.ref h0, .ref p0]) ++ List.replicate (3 - (lg_sl ([.ref h0, .ref p0])).length) Slot.unset).toArray = ls at hl ⊢
  have hl : lv_has ls 3 [(0, .ref h0), (1, .ref p0)] := hl
  rw [← hHe]
  refine lv_aload_n hx hb dX5_init_0 rfl (lv_at hl 0 rfl) ?_
  refine W.objInit hx hb hown (hts _ pq271) (hts _ pq99) (hts _ pq100) rfl (by rw [hml]; exact hl.1) rfl dX5_init_1 (Nat.le_of_ble_eq_true rfl) (Nat.le_of_ble_eq_true rfl) ?_
  refine W.eq (g2 := F0 m 4 ls []) rfl ?_
  refine lv_aload_n hx hb dX5_init_4 rfl (lv_at hl 0 rfl) ?_
  refine lv_bipush (v := 10) hx hb dX5_init_5 (by decide +kernel) ?_
  refine va_newq (C := RX3) (n := 10) (N' := 10) hx hb hown (hts _ pq272) (xN_aoX3 hN) hK hP hD hS hA (by decide +kernel) (by decide +kernel) (Nat.le_of_ble_eq_true rfl) (Nat.le_of_ble_eq_true rfl) (Nat.le_of_ble_eq_true rfl) dX5_init_7 (fun q1 k2 H hK hP hD hS => ?_)
  have hP : va_P (dC, dI) vwCl [(h0, .inr (5, [.null, .null, .int 0, .int 0, .int 0, .int 0, .int 0, .int 0, .int 0])), (q1, .inl (k2, 10, .inr (.inr (.inr (.inr (fun _ => none))))))] H := hP
  have hD : va_D A [(h0, .inr (5, [.null, .null, .int 0, .int 0, .int 0, .int 0, .int 0, .int 0, .int 0])), (q1, .inl (k2, 10, .inr (.inr (.inr (.inr (fun _ => none))))))] := hD
  have hK : va_K (dC, dI) vwCl [(k2, .object RX3)] s := hK
  refine W.widen (k := 1) (n := 10) (Nat.le_of_ble_eq_true rfl) (Nat.le_of_ble_eq_true rfl) ?_
  refine va_putF (D := (dC, dI)) (ci := 5) (v := .ref q1) (ty := tyX5 1) (C := RX5) (T := TX5) (N := 9) hx hb hts inX5 tyX5 tyX5_ok nmX5 hown hK hP hD hS 0 rfl rfl 1 (by decide) (hts _ pq275) (fun _ h9 => h9) rfl hin rfl (by decide +kernel) rfl rfl (Nat.le_of_ble_eq_true rfl) dX5_init_10 (fun H locs hP hD hS => ?_)
  have hP : va_P (dC, dI) vwCl [(h0, .inr (5, [.null, .ref q1, .int 0, .int 0, .int 0, .int 0, .int 0, .int 0, .int 0])), (q1, .inl (k2, 10, .inr (.inr (.inr (.inr (fun _ => none))))))] H := hP
  have hD : va_D A [(h0, .inr (5, [.null, .ref q1, .int 0, .int 0, .int 0, .int 0, .int 0, .int 0, .int 0])), (q1, .inl (k2, 10, .inr (.inr (.inr (.inr (fun _ => none))))))] := hD
  refine lv_aload_n hx hb dX5_init_13 rfl (lv_at hl 0 rfl) ?_
  refine lv_iconst (v := 0) hx hb dX5_init_14 (by decide +kernel) ?_
  refine va_put (D := (dC, dI)) (ci := 5) (v := .int 0) (ty := tyX5 2) (C := RX5) (T := TX5) (N := 9) hx hb hts inX5 tyX5 tyX5_ok nmX5 hown hK hP hD hS 0 rfl rfl 2 (by decide) (hts _ pq276) (fun _ h9 => h9) rfl (by decide +kernel) rfl rfl (Nat.le_of_ble_eq_true rfl) dX5_init_15 (fun H locs hP hD hS => ?_)
  have hP : va_P (dC, dI) vwCl [(h0, .inr (5, [.null, .ref q1, .int 0, .int 0, .int 0, .int 0, .int 0, .int 0, .int 0])), (q1, .inl (k2, 10, .inr (.inr (.inr (.inr (fun _ => none))))))] H := hP
  have hD : va_D A [(h0, .inr (5, [.null, .ref q1, .int 0, .int 0, .int 0, .int 0, .int 0, .int 0, .int 0])), (q1, .inl (k2, 10, .inr (.inr (.inr (.inr (fun _ => none))))))] := hD
  refine lv_aload_n hx hb dX5_init_18 rfl (lv_at hl 0 rfl) ?_
  refine lv_iconst (v := (-1)) hx hb dX5_init_19 (by decide +kernel) ?_
  refine va_put (D := (dC, dI)) (ci := 5) (v := .int (-1)) (ty := tyX5 3) (C := RX5) (T := TX5) (N := 9) hx hb hts inX5 tyX5 tyX5_ok nmX5 hown hK hP hD hS 0 rfl rfl 3 (by decide) (hts _ pq278) (fun _ h9 => h9) rfl (by decide +kernel) rfl rfl (Nat.le_of_ble_eq_true rfl) dX5_init_20 (fun H locs hP hD hS => ?_)
  have hP : va_P (dC, dI) vwCl [(h0, .inr (5, [.null, .ref q1, .int 0, .int (-1), .int 0, .int 0, .int 0, .int 0, .int 0])), (q1, .inl (k2, 10, .inr (.inr (.inr (.inr (fun _ => none))))))] H := hP
  have hD : va_D A [(h0, .inr (5, [.null, .ref q1, .int 0, .int (-1), .int 0, .int 0, .int 0, .int 0, .int 0])), (q1, .inl (k2, 10, .inr (.inr (.inr (.inr (fun _ => none))))))] := hD
  refine lv_aload_n hx hb dX5_init_23 rfl (lv_at hl 0 rfl) ?_
  refine lv_iconst (v := 0) hx hb dX5_init_24 (by decide +kernel) ?_
  refine va_put (D := (dC, dI)) (ci := 5) (v := .int 0) (ty := tyX5 4) (C := RX5) (T := TX5) (N := 9) hx hb hts inX5 tyX5 tyX5_ok nmX5 hown hK hP hD hS 0 rfl rfl 4 (by decide) (hts _ pq280) (fun _ h9 => h9) rfl (by decide +kernel) rfl rfl (Nat.le_of_ble_eq_true rfl) dX5_init_25 (fun H locs hP hD hS => ?_)
  have hP : va_P (dC, dI) vwCl [(h0, .inr (5, [.null, .ref q1, .int 0, .int (-1), .int 0, .int 0, .int 0, .int 0, .int 0])), (q1, .inl (k2, 10, .inr (.inr (.inr (.inr (fun _ => none))))))] H := hP
  have hD : va_D A [(h0, .inr (5, [.null, .ref q1, .int 0, .int (-1), .int 0, .int 0, .int 0, .int 0, .int 0])), (q1, .inl (k2, 10, .inr (.inr (.inr (.inr (fun _ => none))))))] := hD
  refine lv_aload_n hx hb dX5_init_28 rfl (lv_at hl 0 rfl) ?_
  refine lv_iconst (v := 0) hx hb dX5_init_29 (by decide +kernel) ?_
  refine va_put (D := (dC, dI)) (ci := 5) (v := .int 0) (ty := tyX5 5) (C := RX5) (T := TX5) (N := 9) hx hb hts inX5 tyX5 tyX5_ok nmX5 hown hK hP hD hS 0 rfl rfl 5 (by decide) (hts _ pq281) (fun _ h9 => h9) rfl (by decide +kernel) rfl rfl (Nat.le_of_ble_eq_true rfl) dX5_init_30 (fun H locs hP hD hS => ?_)
  have hP : va_P (dC, dI) vwCl [(h0, .inr (5, [.null, .ref q1, .int 0, .int (-1), .int 0, .int 0, .int 0, .int 0, .int 0])), (q1, .inl (k2, 10, .inr (.inr (.inr (.inr (fun _ => none))))))] H := hP
  have hD : va_D A [(h0, .inr (5, [.null, .ref q1, .int 0, .int (-1), .int 0, .int 0, .int 0, .int 0, .int 0])), (q1, .inl (k2, 10, .inr (.inr (.inr (.inr (fun _ => none))))))] := hD
  refine lv_aload_n hx hb dX5_init_33 rfl (lv_at hl 0 rfl) ?_
  refine lv_iconst (v := 0) hx hb dX5_init_34 (by decide +kernel) ?_
  refine va_put (D := (dC, dI)) (ci := 5) (v := .int 0) (ty := tyX5 6) (C := RX5) (T := TX5) (N := 9) hx hb hts inX5 tyX5 tyX5_ok nmX5 hown hK hP hD hS 0 rfl rfl 6 (by decide) (hts _ pq282) (fun _ h9 => h9) rfl (by decide +kernel) rfl rfl (Nat.le_of_ble_eq_true rfl) dX5_init_35 (fun H locs hP hD hS => ?_)
  have hP : va_P (dC, dI) vwCl [(h0, .inr (5, [.null, .ref q1, .int 0, .int (-1), .int 0, .int 0, .int 0, .int 0, .int 0])), (q1, .inl (k2, 10, .inr (.inr (.inr (.inr (fun _ => none))))))] H := hP
  have hD : va_D A [(h0, .inr (5, [.null, .ref q1, .int 0, .int (-1), .int 0, .int 0, .int 0, .int 0, .int 0])), (q1, .inl (k2, 10, .inr (.inr (.inr (.inr (fun _ => none))))))] := hD
  refine lv_aload_n hx hb dX5_init_38 rfl (lv_at hl 0 rfl) ?_
  refine lv_iconst (v := 0) hx hb dX5_init_39 (by decide +kernel) ?_
  refine va_put (D := (dC, dI)) (ci := 5) (v := .int 0) (ty := tyX5 7) (C := RX5) (T := TX5) (N := 9) hx hb hts inX5 tyX5 tyX5_ok nmX5 hown hK hP hD hS 0 rfl rfl 7 (by decide) (hts _ pq284) (fun _ h9 => h9) rfl (by decide +kernel) rfl rfl (Nat.le_of_ble_eq_true rfl) dX5_init_40 (fun H locs hP hD hS => ?_)
  have hP : va_P (dC, dI) vwCl [(h0, .inr (5, [.null, .ref q1, .int 0, .int (-1), .int 0, .int 0, .int 0, .int 0, .int 0])), (q1, .inl (k2, 10, .inr (.inr (.inr (.inr (fun _ => none))))))] H := hP
  have hD : va_D A [(h0, .inr (5, [.null, .ref q1, .int 0, .int (-1), .int 0, .int 0, .int 0, .int 0, .int 0])), (q1, .inl (k2, 10, .inr (.inr (.inr (.inr (fun _ => none))))))] := hD
  refine lv_aload_n hx hb dX5_init_43 rfl (lv_at hl 0 rfl) ?_
  refine lv_iconst (v := 0) hx hb dX5_init_44 (by decide +kernel) ?_
  refine va_put (D := (dC, dI)) (ci := 5) (v := .int 0) (ty := tyX5 8) (C := RX5) (T := TX5) (N := 9) hx hb hts inX5 tyX5 tyX5_ok nmX5 hown hK hP hD hS 0 rfl rfl 8 (by decide) (hts _ pq286) (fun _ h9 => h9) rfl (by decide +kernel) rfl rfl (Nat.le_of_ble_eq_true rfl) dX5_init_45 (fun H locs hP hD hS => ?_)
  have hP : va_P (dC, dI) vwCl [(h0, .inr (5, [.null, .ref q1, .int 0, .int (-1), .int 0, .int 0, .int 0, .int 0, .int 0])), (q1, .inl (k2, 10, .inr (.inr (.inr (.inr (fun _ => none))))))] H := hP
  have hD : va_D A [(h0, .inr (5, [.null, .ref q1, .int 0, .int (-1), .int 0, .int 0, .int 0, .int 0, .int 0])), (q1, .inl (k2, 10, .inr (.inr (.inr (.inr (fun _ => none))))))] := hD
  refine lv_aload_n hx hb dX5_init_48 rfl (lv_at hl 0 rfl) ?_
  refine lv_aload_n hx hb dX5_init_49 rfl (lv_at hl 1 rfl) ?_
  refine va_putF (D := (dC, dI)) (ci := 5) (v := .ref p0) (ty := tyX5 0) (C := RX5) (T := TX5) (N := 9) hx hb hts inX5 tyX5 tyX5_ok nmX5 hown hK hP hD hS 0 rfl rfl 0 (by decide) (hts _ pq274) (fun _ h9 => h9) rfl hin rfl (by decide +kernel) rfl rfl (Nat.le_of_ble_eq_true rfl) dX5_init_50 (fun H locs hP hD hS => ?_)
  have hP : va_P (dC, dI) vwCl [(h0, .inr (5, [.ref p0, .ref q1, .int 0, .int (-1), .int 0, .int 0, .int 0, .int 0, .int 0])), (q1, .inl (k2, 10, .inr (.inr (.inr (.inr (fun _ => none))))))] H := hP
  have hD : va_D A [(h0, .inr (5, [.ref p0, .ref q1, .int 0, .int (-1), .int 0, .int 0, .int 0, .int 0, .int 0])), (q1, .inl (k2, 10, .inr (.inr (.inr (.inr (fun _ => none))))))] := hD
  refine lv_iconst (v := 0) hx hb dX5_init_53 (by decide +kernel) ?_
  refine lv_istore_n (lv' := [(2, .int 0), (0, .ref h0), (1, .ref p0)]) hx hb dX5_init_54 rfl hl (by decide) rfl (fun ls hl => ?_)
  refine lv_iload_n hx hb dX5_init_55 rfl (lv_at hl 0 rfl) ?_
  refine lv_bipush (v := 10) hx hb dX5_init_56 (by decide +kernel) ?_
  refine lv_icmp_ge (tgt := 80) hx hb dX5_init_58 (by decide) (fun c3 => absurd c3 (by decide +kernel)) (fun c3 => ?_)
  refine lv_aload_n hx hb dX5_init_61 rfl (lv_at hl 1 rfl) ?_
  refine va_get (D := (dC, dI)) (ci := 5) (v := .ref q1) (C := RX5) (T := TX5) (N := 9) hx hb hts inX5 hown hK hP 0 rfl rfl 1 (by decide) (hts _ pq275) (fun _ h9 => h9) rfl dX5_init_62 ?_
  refine lv_iload_n hx hb dX5_init_65 rfl (lv_at hl 0 rfl) ?_
  refine va_new (ci := 3) (fs := [.int 0, .int 0, .null, .int 0, .int 0, .int 0, .int 0, .int 0]) (C := RX3) (T := TX3) (N := 8) hx hb hts inX3 tyX3 tyX3_ok hown (hts _ pq272) (hts _ pq111) (hts _ pq76) hK hP hD hS hA rfl dfX3 (Nat.le_of_ble_eq_true rfl) (Nat.le_of_ble_eq_true rfl) dX5_init_66 (fun q4 H hP hD hS => ?_)
  have hP : va_P (dC, dI) vwCl [(h0, .inr (5, [.ref p0, .ref q1, .int 0, .int (-1), .int 0, .int 0, .int 0, .int 0, .int 0])), (q1, .inl (k2, 10, .inr (.inr (.inr (.inr (fun _ => none)))))), (q4, .inr (3, [.int 0, .int 0, .null, .int 0, .int 0, .int 0, .int 0, .int 0]))] H := hP
  have hD : va_D A [(h0, .inr (5, [.ref p0, .ref q1, .int 0, .int (-1), .int 0, .int 0, .int 0, .int 0, .int 0])), (q1, .inl (k2, 10, .inr (.inr (.inr (.inr (fun _ => none)))))), (q4, .inr (3, [.int 0, .int 0, .null, .int 0, .int 0, .int 0, .int 0, .int 0]))] := hD
  refine W.widen (k := 2) (n := 18) (Nat.le_of_ble_eq_true rfl) (Nat.le_of_ble_eq_true rfl) ?_
  refine lv_dup hx hb dX5_init_69 rfl ?_
  have hPc := hP.sub (ws' := [(q4, .inr (3, [.int 0, .int 0, .null, .int 0, .int 0, .int 0, .int 0, .int 0]))]) [2] rfl
  have hDc := hD.sub (ws' := [(q4, .inr (3, [.int 0, .int 0, .null, .int 0, .int 0, .int 0, .int 0, .int 0]))]) [2] (by decide) rfl
  have hKc := hK.sub (tys' := []) [] rfl
  have hFc := va_free (wc := [(q4, .inr (3, [.int 0, .int 0, .null, .int 0, .int 0, .int 0, .int 0, .int 0]))]) hD hS hA [2] rfl
  refine va_callv (va_runIN (As := []) (rest := [.ref q4, .int 0, .ref q1]) ⟨hx, hb, hml, hown, hts⟩ (c_X3_init l dC dI q4 H.size  ) ⟨va_cnB 0 hts (gI pq114) rfl rfl rfl (xN_X5_43 hN) (hts _ pq76) (by decide +kernel) ⟨(Nat.le_of_ble_eq_true rfl), (Nat.le_of_ble_eq_true rfl)⟩, rfl, hts _ pq113⟩ (pc_S hPc hDc hKc hN) rfl rfl hl.1 rfl (lv_room (Nat.le_of_ble_eq_true rfl)) dX5_init_70 ⟨(Nat.le_of_ble_eq_true rfl), (Nat.le_of_ble_eq_true rfl)⟩) hS (fun q _ h => hFc q h) hFc (fun u t H1 locs ht hvm hw hB hz1 hk1 hS => ?_)
  obtain ⟨q5, hP1, hK1, hD1⟩ := hB
  rw [ht] at hP1
  have hK1 := va_K.moved hvm.symm hK1
  obtain ⟨hP, hD⟩ := va_join (wr := [(h0, .inr (5, [.ref p0, .ref q1, .int 0, .int (-1), .int 0, .int 0, .int 0, .int 0, .int 0])), (q1, .inl (k2, 10, .inr (.inr (.inr (.inr (fun _ => none))))))]) (w1 := [(q4, .inr (3, [.int 0, .int 0, .ref q5, .int 0, .int 0, .int 0, .int 0, .int 0]))]) hP hD [2] [0, 1] rfl rfl (by decide) (by decide) hk1 hFc hP1 hD1
  generalize H1 = H at hP hS ⊢
  have hP : va_P (dC, dI) vwCl [(h0, .inr (5, [.ref p0, .ref q1, .int 0, .int (-1), .int 0, .int 0, .int 0, .int 0, .int 0])), (q1, .inl (k2, 10, .inr (.inr (.inr (.inr (fun _ => none)))))), (q4, .inr (3, [.int 0, .int 0, .ref q5, .int 0, .int 0, .int 0, .int 0, .int 0]))] H := hP
  have hD : va_D A [(h0, .inr (5, [.ref p0, .ref q1, .int 0, .int (-1), .int 0, .int 0, .int 0, .int 0, .int 0])), (q1, .inl (k2, 10, .inr (.inr (.inr (.inr (fun _ => none)))))), (q4, .inr (3, [.int 0, .int 0, .ref q5, .int 0, .int 0, .int 0, .int 0, .int 0]))] := hD
  refine W.widen (k := 3) (n := 98) (Nat.le_of_ble_eq_true rfl) (Nat.le_of_ble_eq_true rfl) ?_
  refine va_astq hx hb hK hP hD hS 1 0 2 3 rfl rfl rfl rfl (in_d (by decide +kernel)) dX5_init_73 (fun H locs hP hD hS => ?_)
  obtain ⟨f6, hP, hD⟩ : ∃ f6 : Nat → Option Nat, va_P (dC, dI) vwCl [(h0, .inr (5, [.ref p0, .ref q1, .int 0, .int (-1), .int 0, .int 0, .int 0, .int 0, .int 0])), (q1, .inl (k2, 10, .inr (.inr (.inr (.inr f6))))), (q4, .inr (3, [.int 0, .int 0, .ref q5, .int 0, .int 0, .int 0, .int 0, .int 0]))] H ∧ va_D A [(h0, .inr (5, [.ref p0, .ref q1, .int 0, .int (-1), .int 0, .int 0, .int 0, .int 0, .int 0])), (q1, .inl (k2, 10, .inr (.inr (.inr (.inr f6))))), (q4, .inr (3, [.int 0, .int 0, .ref q5, .int 0, .int 0, .int 0, .int 0, .int 0]))] := ⟨_, hP, hD⟩
  have hP := hP.sub (ws' := [(h0, .inr (5, [.ref p0, .ref q1, .int 0, .int (-1), .int 0, .int 0, .int 0, .int 0, .int 0])), (q1, .inl (k2, 10, .inr (.inr (.inr (.inr f6)))))]) [0, 1] rfl
  have hD := hD.sub (ws' := [(h0, .inr (5, [.ref p0, .ref q1, .int 0, .int (-1), .int 0, .int 0, .int 0, .int 0, .int 0])), (q1, .inl (k2, 10, .inr (.inr (.inr (.inr f6)))))]) [0, 1] (by decide) rfl
  refine lv_iinc (v := 1) (lv' := [(2, .int 1), (0, .ref h0), (1, .ref p0)]) hx hb dX5_init_74 hl (k := 0) rfl (by decide +kernel) (by decide) rfl (fun ls hl => ?_)
  refine lv_goto (tgt := 55) hx hb dX5_init_77 (by decide) ?_
  refine lv_iload_n hx hb dX5_init_55 rfl (lv_at hl 0 rfl) ?_
  refine lv_bipush (v := 10) hx hb dX5_init_56 (by decide +kernel) ?_
  refine lv_icmp_ge (tgt := 80) hx hb dX5_init_58 (by decide) (fun c7 => absurd c7 (by decide +kernel)) (fun c7 => ?_)
  refine lv_aload_n hx hb dX5_init_61 rfl (lv_at hl 1 rfl) ?_
  refine va_get (D := (dC, dI)) (ci := 5) (v := .ref q1) (C := RX5) (T := TX5) (N := 9) hx hb hts inX5 hown hK hP 0 rfl rfl 1 (by decide) (hts _ pq275) (fun _ h9 => h9) rfl dX5_init_62 ?_
  refine lv_iload_n hx hb dX5_init_65 rfl (lv_at hl 0 rfl) ?_
  refine va_new (ci := 3) (fs := [.int 0, .int 0, .null, .int 0, .int 0, .int 0, .int 0, .int 0]) (C := RX3) (T := TX3) (N := 8) hx hb hts inX3 tyX3 tyX3_ok hown (hts _ pq272) (hts _ pq111) (hts _ pq76) hK hP hD hS hA rfl dfX3 (Nat.le_of_ble_eq_true rfl) (Nat.le_of_ble_eq_true rfl) dX5_init_66 (fun q8 H hP hD hS => ?_)
  have hP : va_P (dC, dI) vwCl [(h0, .inr (5, [.ref p0, .ref q1, .int 0, .int (-1), .int 0, .int 0, .int 0, .int 0, .int 0])), (q1, .inl (k2, 10, .inr (.inr (.inr (.inr f6))))), (q8, .inr (3, [.int 0, .int 0, .null, .int 0, .int 0, .int 0, .int 0, .int 0]))] H := hP
  have hD : va_D A [(h0, .inr (5, [.ref p0, .ref q1, .int 0, .int (-1), .int 0, .int 0, .int 0, .int 0, .int 0])), (q1, .inl (k2, 10, .inr (.inr (.inr (.inr f6))))), (q8, .inr (3, [.int 0, .int 0, .null, .int 0, .int 0, .int 0, .int 0, .int 0]))] := hD
  refine W.widen (k := 4) (n := 106) (Nat.le_of_ble_eq_true rfl) (Nat.le_of_ble_eq_true rfl) ?_
  refine lv_dup hx hb dX5_init_69 rfl ?_
  have hPc := hP.sub (ws' := [(q8, .inr (3, [.int 0, .int 0, .null, .int 0, .int 0, .int 0, .int 0, .int 0]))]) [2] rfl
  have hDc := hD.sub (ws' := [(q8, .inr (3, [.int 0, .int 0, .null, .int 0, .int 0, .int 0, .int 0, .int 0]))]) [2] (by decide) rfl
  have hKc := hK.sub (tys' := []) [] rfl
  have hFc := va_free (wc := [(q8, .inr (3, [.int 0, .int 0, .null, .int 0, .int 0, .int 0, .int 0, .int 0]))]) hD hS hA [2] rfl
  refine va_callv (va_runIN (As := []) (rest := [.ref q8, .int 1, .ref q1]) ⟨hx, hb, hml, hown, hts⟩ (c_X3_init l dC dI q8 H.size  ) ⟨va_cnB 0 hts (gI pq114) rfl rfl rfl (xN_X5_43 hN) (hts _ pq76) (by decide +kernel) ⟨(Nat.le_of_ble_eq_true rfl), (Nat.le_of_ble_eq_true rfl)⟩, rfl, hts _ pq113⟩ (pc_S hPc hDc hKc hN) rfl rfl hl.1 rfl (lv_room (Nat.le_of_ble_eq_true rfl)) dX5_init_70 ⟨(Nat.le_of_ble_eq_true rfl), (Nat.le_of_ble_eq_true rfl)⟩) hS (fun q _ h => hFc q h) hFc (fun u t H1 locs ht hvm hw hB hz1 hk1 hS => ?_)
  obtain ⟨q9, hP1, hK1, hD1⟩ := hB
  rw [ht] at hP1
  have hK1 := va_K.moved hvm.symm hK1
  obtain ⟨hP, hD⟩ := va_join (wr := [(h0, .inr (5, [.ref p0, .ref q1, .int 0, .int (-1), .int 0, .int 0, .int 0, .int 0, .int 0])), (q1, .inl (k2, 10, .inr (.inr (.inr (.inr f6)))))]) (w1 := [(q8, .inr (3, [.int 0, .int 0, .ref q9, .int 0, .int 0, .int 0, .int 0, .int 0]))]) hP hD [2] [0, 1] rfl rfl (by decide) (by decide) hk1 hFc hP1 hD1
  generalize H1 = H at hP hS ⊢
  have hP : va_P (dC, dI) vwCl [(h0, .inr (5, [.ref p0, .ref q1, .int 0, .int (-1), .int 0, .int 0, .int 0, .int 0, .int 0])), (q1, .inl (k2, 10, .inr (.inr (.inr (.inr f6))))), (q8, .inr (3, [.int 0, .int 0, .ref q9, .int 0, .int 0, .int 0, .int 0, .int 0]))] H := hP
  have hD : va_D A [(h0, .inr (5, [.ref p0, .ref q1, .int 0, .int (-1), .int 0, .int 0, .int 0, .int 0, .int 0])), (q1, .inl (k2, 10, .inr (.inr (.inr (.inr f6))))), (q8, .inr (3, [.int 0, .int 0, .ref q9, .int 0, .int 0, .int 0, .int 0, .int 0]))] := hD
  refine W.widen (k := 5) (n := 186) (Nat.le_of_ble_eq_true rfl) (Nat.le_of_ble_eq_true rfl) ?_
  refine va_astq hx hb hK hP hD hS 1 0 2 3 rfl rfl rfl rfl (in_d (by decide +kernel)) dX5_init_73 (fun H locs hP hD hS => ?_)
  obtain ⟨f10, hP, hD⟩ : ∃ f10 : Nat → Option Nat, va_P (dC, dI) vwCl [(h0, .inr (5, [.ref p0, .ref q1, .int 0, .int (-1), .int 0, .int 0, .int 0, .int 0, .int 0])), (q1, .inl (k2, 10, .inr (.inr (.inr (.inr f10))))), (q8, .inr (3, [.int 0, .int 0, .ref q9, .int 0, .int 0, .int 0, .int 0, .int 0]))] H ∧ va_D A [(h0, .inr (5, [.ref p0, .ref q1, .int 0, .int (-1), .int 0, .int 0, .int 0, .int 0, .int 0])), (q1, .inl (k2, 10, .inr (.inr (.inr (.inr f10))))), (q8, .inr (3, [.int 0, .int 0, .ref q9, .int 0, .int 0, .int 0, .int 0, .int 0]))] := ⟨_, hP, hD⟩
  have hP := hP.sub (ws' := [(h0, .inr (5, [.ref p0, .ref q1, .int 0, .int (-1), .int 0, .int 0, .int 0, .int 0, .int 0])), (q1, .inl (k2, 10, .inr (.inr (.inr (.inr f10)))))]) [0, 1] rfl
  have hD := hD.sub (ws' := [(h0, .inr (5, [.ref p0, .ref q1, .int 0, .int (-1), .int 0, .int 0, .int 0, .int 0, .int 0])), (q1, .inl (k2, 10, .inr (.inr (.inr (.inr f10)))))]) [0, 1] (by decide) rfl
  refine lv_iinc (v := 2) (lv' := [(2, .int 2), (0, .ref h0), (1, .ref p0)]) hx hb dX5_init_74 hl (k := 0) rfl (by decide +kernel) (by decide) rfl (fun ls hl => ?_)
  refine lv_goto (tgt := 55) hx hb dX5_init_77 (by decide) ?_
  refine lv_iload_n hx hb dX5_init_55 rfl (lv_at hl 0 rfl) ?_
  refine lv_bipush (v := 10) hx hb dX5_init_56 (by decide +kernel) ?_
  refine lv_icmp_ge (tgt := 80) hx hb dX5_init_58 (by decide) (fun c11 => absurd c11 (by decide +kernel)) (fun c11 => ?_)
  refine lv_aload_n hx hb dX5_init_61 rfl (lv_at hl 1 rfl) ?_
  refine va_get (D := (dC, dI)) (ci := 5) (v := .ref q1) (C := RX5) (T := TX5) (N := 9) hx hb hts inX5 hown hK hP 0 rfl rfl 1 (by decide) (hts _ pq275) (fun _ h9 => h9) rfl dX5_init_62 ?_
  refine lv_iload_n hx hb dX5_init_65 rfl (lv_at hl 0 rfl) ?_
  refine va_new (ci := 3) (fs := [.int 0, .int 0, .null, .int 0, .int 0, .int 0, .int 0, .int 0]) (C := RX3) (T := TX3) (N := 8) hx hb hts inX3 tyX3 tyX3_ok hown (hts _ pq272) (hts _ pq111) (hts _ pq76) hK hP hD hS hA rfl dfX3 (Nat.le_of_ble_eq_true rfl) (Nat.le_of_ble_eq_true rfl) dX5_init_66 (fun q12 H hP hD hS => ?_)
  have hP : va_P (dC, dI) vwCl [(h0, .inr (5, [.ref p0, .ref q1, .int 0, .int (-1), .int 0, .int 0, .int 0, .int 0, .int 0])), (q1, .inl (k2, 10, .inr (.inr (.inr (.inr f10))))), (q12, .inr (3, [.int 0, .int 0, .null, .int 0, .int 0, .int 0, .int 0, .int 0]))] H := hP
  have hD : va_D A [(h0, .inr (5, [.ref p0, .ref q1, .int 0, .int (-1), .int 0, .int 0, .int 0, .int 0, .int 0])), (q1, .inl (k2, 10, .inr (.inr (.inr (.inr f10))))), (q12, .inr (3, [.int 0, .int 0, .null, .int 0, .int 0, .int 0, .int 0, .int 0]))] := hD
  refine W.widen (k := 6) (n := 194) (Nat.le_of_ble_eq_true rfl) (Nat.le_of_ble_eq_true rfl) ?_
  refine lv_dup hx hb dX5_init_69 rfl ?_
  have hPc := hP.sub (ws' := [(q12, .inr (3, [.int 0, .int 0, .null, .int 0, .int 0, .int 0, .int 0, .int 0]))]) [2] rfl
  have hDc := hD.sub (ws' := [(q12, .inr (3, [.int 0, .int 0, .null, .int 0, .int 0, .int 0, .int 0, .int 0]))]) [2] (by decide) rfl
  have hKc := hK.sub (tys' := []) [] rfl
  have hFc := va_free (wc := [(q12, .inr (3, [.int 0, .int 0, .null, .int 0, .int 0, .int 0, .int 0, .int 0]))]) hD hS hA [2] rfl
  refine va_callv (va_runIN (As := []) (rest := [.ref q12, .int 2, .ref q1]) ⟨hx, hb, hml, hown, hts⟩ (c_X3_init l dC dI q12 H.size  ) ⟨va_cnB 0 hts (gI pq114) rfl rfl rfl (xN_X5_43 hN) (hts _ pq76) (by decide +kernel) ⟨(Nat.le_of_ble_eq_true rfl), (Nat.le_of_ble_eq_true rfl)⟩, rfl, hts _ pq113⟩ (pc_S hPc hDc hKc hN) rfl rfl hl.1 rfl (lv_room (Nat.le_of_ble_eq_true rfl)) dX5_init_70 ⟨(Nat.le_of_ble_eq_true rfl), (Nat.le_of_ble_eq_true rfl)⟩) hS (fun q _ h => hFc q h) hFc (fun u t H1 locs ht hvm hw hB hz1 hk1 hS => ?_)
  obtain ⟨q13, hP1, hK1, hD1⟩ := hB
  rw [ht] at hP1
  have hK1 := va_K.moved hvm.symm hK1
  obtain ⟨hP, hD⟩ := va_join (wr := [(h0, .inr (5, [.ref p0, .ref q1, .int 0, .int (-1), .int 0, .int 0, .int 0, .int 0, .int 0])), (q1, .inl (k2, 10, .inr (.inr (.inr (.inr f10)))))]) (w1 := [(q12, .inr (3, [.int 0, .int 0, .ref q13, .int 0, .int 0, .int 0, .int 0, .int 0]))]) hP hD [2] [0, 1] rfl rfl (by decide) (by decide) hk1 hFc hP1 hD1
  generalize H1 = H at hP hS ⊢
  have hP : va_P (dC, dI) vwCl [(h0, .inr (5, [.ref p0, .ref q1, .int 0, .int (-1), .int 0, .int 0, .int 0, .int 0, .int 0])), (q1, .inl (k2, 10, .inr (.inr (.inr (.inr f10))))), (q12, .inr (3, [.int 0, .int 0, .ref q13, .int 0, .int 0, .int 0, .int 0, .int 0]))] H := hP
  have hD : va_D A [(h0, .inr (5, [.ref p0, .ref q1, .int 0, .int (-1), .int 0, .int 0, .int 0, .int 0, .int 0])), (q1, .inl (k2, 10, .inr (.inr (.inr (.inr f10))))), (q12, .inr (3, [.int 0, .int 0, .ref q13, .int 0, .int 0, .int 0, .int 0, .int 0]))] := hD
  refine W.widen (k := 7) (n := 274) (Nat.le_of_ble_eq_true rfl) (Nat.le_of_ble_eq_true rfl) ?_
  refine va_astq hx hb hK hP hD hS 1 0 2 3 rfl rfl rfl rfl (in_d (by decide +kernel)) dX5_init_73 (fun H locs hP hD hS => ?_)
  obtain ⟨f14, hP, hD⟩ : ∃ f14 : Nat → Option Nat, va_P (dC, dI) vwCl [(h0, .inr (5, [.ref p0, .ref q1, .int 0, .int (-1), .int 0, .int 0, .int 0, .int 0, .int 0])), (q1, .inl (k2, 10, .inr (.inr (.inr (.inr f14))))), (q12, .inr (3, [.int 0, .int 0, .ref q13, .int 0, .int 0, .int 0, .int 0, .int 0]))] H ∧ va_D A [(h0, .inr (5, [.ref p0, .ref q1, .int 0, .int (-1), .int 0, .int 0, .int 0, .int 0, .int 0])), (q1, .inl (k2, 10, .inr (.inr (.inr (.inr f14))))), (q12, .inr (3, [.int 0, .int 0, .ref q13, .int 0, .int 0, .int 0, .int 0, .int 0]))] := ⟨_, hP, hD⟩
  have hP := hP.sub (ws' := [(h0, .inr (5, [.ref p0, .ref q1, .int 0, .int (-1), .int 0, .int 0, .int 0, .int 0, .int 0])), (q1, .inl (k2, 10, .inr (.inr (.inr (.inr f14)))))]) [0, 1] rfl
  have hD := hD.sub (ws' := [(h0, .inr (5, [.ref p0, .ref q1, .int 0, .int (-1), .int 0, .int 0, .int 0, .int 0, .int 0])), (q1, .inl (k2, 10, .inr (.inr (.inr (.inr f14)))))]) [0, 1] (by decide) rfl
  refine lv_iinc (v := 3) (lv' := [(2, .int 3), (0, .ref h0), (1, .ref p0)]) hx hb dX5_init_74 hl (k := 0) rfl (by decide +kernel) (by decide) rfl (fun ls hl => ?_)
  refine lv_goto (tgt := 55) hx hb dX5_init_77 (by decide) ?_
  refine lv_iload_n hx hb dX5_init_55 rfl (lv_at hl 0 rfl) ?_
  refine lv_bipush (v := 10) hx hb dX5_init_56 (by decide +kernel) ?_
  refine lv_icmp_ge (tgt := 80) hx hb dX5_init_58 (by decide) (fun c15 => absurd c15 (by decide +kernel)) (fun c15 => ?_)
  refine lv_aload_n hx hb dX5_init_61 rfl (lv_at hl 1 rfl) ?_
  refine va_get (D := (dC, dI)) (ci := 5) (v := .ref q1) (C := RX5) (T := TX5) (N := 9) hx hb hts inX5 hown hK hP 0 rfl rfl 1 (by decide) (hts _ pq275) (fun _ h9 => h9) rfl dX5_init_62 ?_
  refine lv_iload_n hx hb dX5_init_65 rfl (lv_at hl 0 rfl) ?_
  refine va_new (ci := 3) (fs := [.int 0, .int 0, .null, .int 0, .int 0, .int 0, .int 0, .int 0]) (C := RX3) (T := TX3) (N := 8) hx hb hts inX3 tyX3 tyX3_ok hown (hts _ pq272) (hts _ pq111) (hts _ pq76) hK hP hD hS hA rfl dfX3 (Nat.le_of_ble_eq_true rfl) (Nat.le_of_ble_eq_true rfl) dX5_init_66 (fun q16 H hP hD hS => ?_)
  have hP : va_P (dC, dI) vwCl [(h0, .inr (5, [.ref p0, .ref q1, .int 0, .int (-1), .int 0, .int 0, .int 0, .int 0, .int 0])), (q1, .inl (k2, 10, .inr (.inr (.inr (.inr f14))))), (q16, .inr (3, [.int 0, .int 0, .null, .int 0, .int 0, .int 0, .int 0, .int 0]))] H := hP
  have hD : va_D A [(h0, .inr (5, [.ref p0, .ref q1, .int 0, .int (-1), .int 0, .int 0, .int 0, .int 0, .int 0])), (q1, .inl (k2, 10, .inr (.inr (.inr (.inr f14))))), (q16, .inr (3, [.int 0, .int 0, .null, .int 0, .int 0, .int 0, .int 0, .int 0]))] := hD
  refine W.widen (k := 8) (n := 282) (Nat.le_of_ble_eq_true rfl) (Nat.le_of_ble_eq_true rfl) ?_
  refine lv_dup hx hb dX5_init_69 rfl ?_
  have hPc := hP.sub (ws' := [(q16, .inr (3, [.int 0, .int 0, .null, .int 0, .int 0, .int 0, .int 0, .int 0]))]) [2] rfl
  have hDc := hD.sub (ws' := [(q16, .inr (3, [.int 0, .int 0, .null, .int 0, .int 0, .int 0, .int 0, .int 0]))]) [2] (by decide) rfl
  have hKc := hK.sub (tys' := []) [] rfl
  have hFc := va_free (wc := [(q16, .inr (3, [.int 0, .int 0, .null, .int 0, .int 0, .int 0, .int 0, .int 0]))]) hD hS hA [2] rfl
  refine va_callv (va_runIN (As := []) (rest := [.ref q16, .int 3, .ref q1]) ⟨hx, hb, hml, hown, hts⟩ (c_X3_init l dC dI q16 H.size  ) ⟨va_cnB 0 hts (gI pq114) rfl rfl rfl (xN_X5_43 hN) (hts _ pq76) (by decide +kernel) ⟨(Nat.le_of_ble_eq_true rfl), (Nat.le_of_ble_eq_true rfl)⟩, rfl, hts _ pq113⟩ (pc_S hPc hDc hKc hN) rfl rfl hl.1 rfl (lv_room (Nat.le_of_ble_eq_true rfl)) dX5_init_70 ⟨(Nat.le_of_ble_eq_true rfl), (Nat.le_of_ble_eq_true rfl)⟩) hS (fun q _ h => hFc q h) hFc (fun u t H1 locs ht hvm hw hB hz1 hk1 hS => ?_)
  obtain ⟨q17, hP1, hK1, hD1⟩ := hB
  rw [ht] at hP1
  have hK1 := va_K.moved hvm.symm hK1
  obtain ⟨hP, hD⟩ := va_join (wr := [(h0, .inr (5, [.ref p0, .ref q1, .int 0, .int (-1), .int 0, .int 0, .int 0, .int 0, .int 0])), (q1, .inl (k2, 10, .inr (.inr (.inr (.inr f14)))))]) (w1 := [(q16, .inr (3, [.int 0, .int 0, .ref q17, .int 0, .int 0, .int 0, .int 0, .int 0]))]) hP hD [2] [0, 1] rfl rfl (by decide) (by decide) hk1 hFc hP1 hD1
  generalize H1 = H at hP hS ⊢
  have hP : va_P (dC, dI) vwCl [(h0, .inr (5, [.ref p0, .ref q1, .int 0, .int (-1), .int 0, .int 0, .int 0, .int 0, .int 0])), (q1, .inl (k2, 10, .inr (.inr (.inr (.inr f14))))), (q16, .inr (3, [.int 0, .int 0, .ref q17, .int 0, .int 0, .int 0, .int 0, .int 0]))] H := hP
  have hD : va_D A [(h0, .inr (5, [.ref p0, .ref q1, .int 0, .int (-1), .int 0, .int 0, .int 0, .int 0, .int 0])), (q1, .inl (k2, 10, .inr (.inr (.inr (.inr f14))))), (q16, .inr (3, [.int 0, .int 0, .ref q17, .int 0, .int 0, .int 0, .int 0, .int 0]))] := hD
  refine W.widen (k := 9) (n := 362) (Nat.le_of_ble_eq_true rfl) (Nat.le_of_ble_eq_true rfl) ?_
  refine va_astq hx hb hK hP hD hS 1 0 2 3 rfl rfl rfl rfl (in_d (by decide +kernel)) dX5_init_73 (fun H locs hP hD hS => ?_)
  obtain ⟨f18, hP, hD⟩ : ∃ f18 : Nat → Option Nat, va_P (dC, dI) vwCl [(h0, .inr (5, [.ref p0, .ref q1, .int 0, .int (-1), .int 0, .int 0, .int 0, .int 0, .int 0])), (q1, .inl (k2, 10, .inr (.inr (.inr (.inr f18))))), (q16, .inr (3, [.int 0, .int 0, .ref q17, .int 0, .int 0, .int 0, .int 0, .int 0]))] H ∧ va_D A [(h0, .inr (5, [.ref p0, .ref q1, .int 0, .int (-1), .int 0, .int 0, .int 0, .int 0, .int 0])), (q1, .inl (k2, 10, .inr (.inr (.inr (.inr f18))))), (q16, .inr (3, [.int 0, .int 0, .ref q17, .int 0, .int 0, .int 0, .int 0, .int 0]))] := ⟨_, hP, hD⟩
  have hP := hP.sub (ws' := [(h0, .inr (5, [.ref p0, .ref q1, .int 0, .int (-1), .int 0, .int 0, .int 0, .int 0, .int 0])), (q1, .inl (k2, 10, .inr (.inr (.inr (.inr f18)))))]) [0, 1] rfl
  have hD := hD.sub (ws' := [(h0, .inr (5, [.ref p0, .ref q1, .int 0, .int (-1), .int 0, .int 0, .int 0, .int 0, .int 0])), (q1, .inl (k2, 10, .inr (.inr (.inr (.inr f18)))))]) [0, 1] (by decide) rfl
  refine lv_iinc (v := 4) (lv' := [(2, .int 4), (0, .ref h0), (1, .ref p0)]) hx hb dX5_init_74 hl (k := 0) rfl (by decide +kernel) (by decide) rfl (fun ls hl => ?_)
  refine lv_goto (tgt := 55) hx hb dX5_init_77 (by decide) ?_
  refine lv_iload_n hx hb dX5_init_55 rfl (lv_at hl 0 rfl) ?_
  refine lv_bipush (v := 10) hx hb dX5_init_56 (by decide +kernel) ?_
  refine lv_icmp_ge (tgt := 80) hx hb dX5_init_58 (by decide) (fun c19 => absurd c19 (by decide +kernel)) (fun c19 => ?_)
  refine lv_aload_n hx hb dX5_init_61 rfl (lv_at hl 1 rfl) ?_
  refine va_get (D := (dC, dI)) (ci := 5) (v := .ref q1) (C := RX5) (T := TX5) (N := 9) hx hb hts inX5 hown hK hP 0 rfl rfl 1 (by decide) (hts _ pq275) (fun _ h9 => h9) rfl dX5_init_62 ?_
  refine lv_iload_n hx hb dX5_init_65 rfl (lv_at hl 0 rfl) ?_
  refine va_new (ci := 3) (fs := [.int 0, .int 0, .null, .int 0, .int 0, .int 0, .int 0, .int 0]) (C := RX3) (T := TX3) (N := 8) hx hb hts inX3 tyX3 tyX3_ok hown (hts _ pq272) (hts _ pq111) (hts _ pq76) hK hP hD hS hA rfl dfX3 (Nat.le_of_ble_eq_true rfl) (Nat.le_of_ble_eq_true rfl) dX5_init_66 (fun q20 H hP hD hS => ?_)
  have hP : va_P (dC, dI) vwCl [(h0, .inr (5, [.ref p0, .ref q1, .int 0, .int (-1), .int 0, .int 0, .int 0, .int 0, .int 0])), (q1, .inl (k2, 10, .inr (.inr (.inr (.inr f18))))), (q20, .inr (3, [.int 0, .int 0, .null, .int 0, .int 0, .int 0, .int 0, .int 0]))] H := hP
  have hD : va_D A [(h0, .inr (5, [.ref p0, .ref q1, .int 0, .int (-1), .int 0, .int 0, .int 0, .int 0, .int 0])), (q1, .inl (k2, 10, .inr (.inr (.inr (.inr f18))))), (q20, .inr (3, [.int 0, .int 0, .null, .int 0, .int 0, .int 0, .int 0, .int 0]))] := hD
  refine W.widen (k := 10) (n := 370) (Nat.le_of_ble_eq_true rfl) (Nat.le_of_ble_eq_true rfl) ?_
  refine lv_dup hx hb dX5_init_69 rfl ?_
  have hPc := hP.sub (ws' := [(q20, .inr (3, [.int 0, .int 0, .null, .int 0, .int 0, .int 0, .int 0, .int 0]))]) [2] rfl
  have hDc := hD.sub (ws' := [(q20, .inr (3, [.int 0, .int 0, .null, .int 0, .int 0, .int 0, .int 0, .int 0]))]) [2] (by decide) rfl
  have hKc := hK.sub (tys' := []) [] rfl
  have hFc := va_free (wc := [(q20, .inr (3, [.int 0, .int 0, .null, .int 0, .int 0, .int 0, .int 0, .int 0]))]) hD hS hA [2] rfl
  refine va_callv (va_runIN (As := []) (rest := [.ref q20, .int 4, .ref q1]) ⟨hx, hb, hml, hown, hts⟩ (c_X3_init l dC dI q20 H.size  ) ⟨va_cnB 0 hts (gI pq114) rfl rfl rfl (xN_X5_43 hN) (hts _ pq76) (by decide +kernel) ⟨(Nat.le_of_ble_eq_true rfl), (Nat.le_of_ble_eq_true rfl)⟩, rfl, hts _ pq113⟩ (pc_S hPc hDc hKc hN) rfl rfl hl.1 rfl (lv_room (Nat.le_of_ble_eq_true rfl)) dX5_init_70 ⟨(Nat.le_of_ble_eq_true rfl), (Nat.le_of_ble_eq_true rfl)⟩) hS (fun q _ h => hFc q h) hFc (fun u t H1 locs ht hvm hw hB hz1 hk1 hS => ?_)
  obtain ⟨q21, hP1, hK1, hD1⟩ := hB
  rw [ht] at hP1
  have hK1 := va_K.moved hvm.symm hK1
  obtain ⟨hP, hD⟩ := va_join (wr := [(h0, .inr (5, [.ref p0, .ref q1, .int 0, .int (-1), .int 0, .int 0, .int 0, .int 0, .int 0])), (q1, .inl (k2, 10, .inr (.inr (.inr (.inr f18)))))]) (w1 := [(q20, .inr (3, [.int 0, .int 0, .ref q21, .int 0, .int 0, .int 0, .int 0, .int 0]))]) hP hD [2] [0, 1] rfl rfl (by decide) (by decide) hk1 hFc hP1 hD1
  generalize H1 = H at hP hS ⊢
  have hP : va_P (dC, dI) vwCl [(h0, .inr (5, [.ref p0, .ref q1, .int 0, .int (-1), .int 0, .int 0, .int 0, .int 0, .int 0])), (q1, .inl (k2, 10, .inr (.inr (.inr (.inr f18))))), (q20, .inr (3, [.int 0, .int 0, .ref q21, .int 0, .int 0, .int 0, .int 0, .int 0]))] H := hP
  have hD : va_D A [(h0, .inr (5, [.ref p0, .ref q1, .int 0, .int (-1), .int 0, .int 0, .int 0, .int 0, .int 0])), (q1, .inl (k2, 10, .inr (.inr (.inr (.inr f18))))), (q20, .inr (3, [.int 0, .int 0, .ref q21, .int 0, .int 0, .int 0, .int 0, .int 0]))] := hD
  refine W.widen (k := 11) (n := 450) (Nat.le_of_ble_eq_true rfl) (Nat.le_of_ble_eq_true rfl) ?_
  refine va_astq hx hb hK hP hD hS 1 0 2 3 rfl rfl rfl rfl (in_d (by decide +kernel)) dX5_init_73 (fun H locs hP hD hS => ?_)
  obtain ⟨f22, hP, hD⟩ : ∃ f22 : Nat → Option Nat, va_P (dC, dI) vwCl [(h0, .inr (5, [.ref p0, .ref q1, .int 0, .int (-1), .int 0, .int 0, .int 0, .int 0, .int 0])), (q1, .inl (k2, 10, .inr (.inr (.inr (.inr f22))))), (q20, .inr (3, [.int 0, .int 0, .ref q21, .int 0, .int 0, .int 0, .int 0, .int 0]))] H ∧ va_D A [(h0, .inr (5, [.ref p0, .ref q1, .int 0, .int (-1), .int 0, .int 0, .int 0, .int 0, .int 0])), (q1, .inl (k2, 10, .inr (.inr (.inr (.inr f22))))), (q20, .inr (3, [.int 0, .int 0, .ref q21, .int 0, .int 0, .int 0, .int 0, .int 0]))] := ⟨_, hP, hD⟩
  have hP := hP.sub (ws' := [(h0, .inr (5, [.ref p0, .ref q1, .int 0, .int (-1), .int 0, .int 0, .int 0, .int 0, .int 0])), (q1, .inl (k2, 10, .inr (.inr (.inr (.inr f22)))))]) [0, 1] rfl
  have hD := hD.sub (ws' := [(h0, .inr (5, [.ref p0, .ref q1, .int 0, .int (-1), .int 0, .int 0, .int 0, .int 0, .int 0])), (q1, .inl (k2, 10, .inr (.inr (.inr (.inr f22)))))]) [0, 1] (by decide) rfl
  refine lv_iinc (v := 5) (lv' := [(2, .int 5), (0, .ref h0), (1, .ref p0)]) hx hb dX5_init_74 hl (k := 0) rfl (by decide +kernel) (by decide) rfl (fun ls hl => ?_)
  refine lv_goto (tgt := 55) hx hb dX5_init_77 (by decide) ?_
  refine lv_iload_n hx hb dX5_init_55 rfl (lv_at hl 0 rfl) ?_
  refine lv_bipush (v := 10) hx hb dX5_init_56 (by decide +kernel) ?_
  refine lv_icmp_ge (tgt := 80) hx hb dX5_init_58 (by decide) (fun c23 => absurd c23 (by decide +kernel)) (fun c23 => ?_)
  refine lv_aload_n hx hb dX5_init_61 rfl (lv_at hl 1 rfl) ?_
  refine va_get (D := (dC, dI)) (ci := 5) (v := .ref q1) (C := RX5) (T := TX5) (N := 9) hx hb hts inX5 hown hK hP 0 rfl rfl 1 (by decide) (hts _ pq275) (fun _ h9 => h9) rfl dX5_init_62 ?_
  refine lv_iload_n hx hb dX5_init_65 rfl (lv_at hl 0 rfl) ?_
  refine va_new (ci := 3) (fs := [.int 0, .int 0, .null, .int 0, .int 0, .int 0, .int 0, .int 0]) (C := RX3) (T := TX3) (N := 8) hx hb hts inX3 tyX3 tyX3_ok hown (hts _ pq272) (hts _ pq111) (hts _ pq76) hK hP hD hS hA rfl dfX3 (Nat.le_of_ble_eq_true rfl) (Nat.le_of_ble_eq_true rfl) dX5_init_66 (fun q24 H hP hD hS => ?_)
  have hP : va_P (dC, dI) vwCl [(h0, .inr (5, [.ref p0, .ref q1, .int 0, .int (-1), .int 0, .int 0, .int 0, .int 0, .int 0])), (q1, .inl (k2, 10, .inr (.inr (.inr (.inr f22))))), (q24, .inr (3, [.int 0, .int 0, .null, .int 0, .int 0, .int 0, .int 0, .int 0]))] H := hP
  have hD : va_D A [(h0, .inr (5, [.ref p0, .ref q1, .int 0, .int (-1), .int 0, .int 0, .int 0, .int 0, .int 0])), (q1, .inl (k2, 10, .inr (.inr (.inr (.inr f22))))), (q24, .inr (3, [.int 0, .int 0, .null, .int 0, .int 0, .int 0, .int 0, .int 0]))] := hD
  refine W.widen (k := 12) (n := 458) (Nat.le_of_ble_eq_true rfl) (Nat.le_of_ble_eq_true rfl) ?_
  refine lv_dup hx hb dX5_init_69 rfl ?_
  have hPc := hP.sub (ws' := [(q24, .inr (3, [.int 0, .int 0, .null, .int 0, .int 0, .int 0, .int 0, .int 0]))]) [2] rfl
  have hDc := hD.sub (ws' := [(q24, .inr (3, [.int 0, .int 0, .null, .int 0, .int 0, .int 0, .int 0, .int 0]))]) [2] (by decide) rfl
  have hKc := hK.sub (tys' := []) [] rfl
  have hFc := va_free (wc := [(q24, .inr (3, [.int 0, .int 0, .null, .int 0, .int 0, .int 0, .int 0, .int 0]))]) hD hS hA [2] rfl
  refine va_callv (va_runIN (As := []) (rest := [.ref q24, .int 5, .ref q1]) ⟨hx, hb, hml, hown, hts⟩ (c_X3_init l dC dI q24 H.size  ) ⟨va_cnB 0 hts (gI pq114) rfl rfl rfl (xN_X5_43 hN) (hts _ pq76) (by decide +kernel) ⟨(Nat.le_of_ble_eq_true rfl), (Nat.le_of_ble_eq_true rfl)⟩, rfl, hts _ pq113⟩ (pc_S hPc hDc hKc hN) rfl rfl hl.1 rfl (lv_room (Nat.le_of_ble_eq_true rfl)) dX5_init_70 ⟨(Nat.le_of_ble_eq_true rfl), (Nat.le_of_ble_eq_true rfl)⟩) hS (fun q _ h => hFc q h) hFc (fun u t H1 locs ht hvm hw hB hz1 hk1 hS => ?_)
  obtain ⟨q25, hP1, hK1, hD1⟩ := hB
  rw [ht] at hP1
  have hK1 := va_K.moved hvm.symm hK1
  obtain ⟨hP, hD⟩ := va_join (wr := [(h0, .inr (5, [.ref p0, .ref q1, .int 0, .int (-1), .int 0, .int 0, .int 0, .int 0, .int 0])), (q1, .inl (k2, 10, .inr (.inr (.inr (.inr f22)))))]) (w1 := [(q24, .inr (3, [.int 0, .int 0, .ref q25, .int 0, .int 0, .int 0, .int 0, .int 0]))]) hP hD [2] [0, 1] rfl rfl (by decide) (by decide) hk1 hFc hP1 hD1
  generalize H1 = H at hP hS ⊢
  have hP : va_P (dC, dI) vwCl [(h0, .inr (5, [.ref p0, .ref q1, .int 0, .int (-1), .int 0, .int 0, .int 0, .int 0, .int 0])), (q1, .inl (k2, 10, .inr (.inr (.inr (.inr f22))))), (q24, .inr (3, [.int 0, .int 0, .ref q25, .int 0, .int 0, .int 0, .int 0, .int 0]))] H := hP
  have hD : va_D A [(h0, .inr (5, [.ref p0, .ref q1, .int 0, .int (-1), .int 0, .int 0, .int 0, .int 0, .int 0])), (q1, .inl (k2, 10, .inr (.inr (.inr (.inr f22))))), (q24, .inr (3, [.int 0, .int 0, .ref q25, .int 0, .int 0, .int 0, .int 0, .int 0]))] := hD
  refine W.widen (k := 13) (n := 538) (Nat.le_of_ble_eq_true rfl) (Nat.le_of_ble_eq_true rfl) ?_
  refine va_astq hx hb hK hP hD hS 1 0 2 3 rfl rfl rfl rfl (in_d (by decide +kernel)) dX5_init_73 (fun H locs hP hD hS => ?_)
  obtain ⟨f26, hP, hD⟩ : ∃ f26 : Nat → Option Nat, va_P (dC, dI) vwCl [(h0, .inr (5, [.ref p0, .ref q1, .int 0, .int (-1), .int 0, .int 0, .int 0, .int 0, .int 0])), (q1, .inl (k2, 10, .inr (.inr (.inr (.inr f26))))), (q24, .inr (3, [.int 0, .int 0, .ref q25, .int 0, .int 0, .int 0, .int 0, .int 0]))] H ∧ va_D A [(h0, .inr (5, [.ref p0, .ref q1, .int 0, .int (-1), .int 0, .int 0, .int 0, .int 0, .int 0])), (q1, .inl (k2, 10, .inr (.inr (.inr (.inr f26))))), (q24, .inr (3, [.int 0, .int 0, .ref q25, .int 0, .int 0, .int 0, .int 0, .int 0]))] := ⟨_, hP, hD⟩
  have hP := hP.sub (ws' := [(h0, .inr (5, [.ref p0, .ref q1, .int 0, .int (-1), .int 0, .int 0, .int 0, .int 0, .int 0])), (q1, .inl (k2, 10, .inr (.inr (.inr (.inr f26)))))]) [0, 1] rfl
  have hD := hD.sub (ws' := [(h0, .inr (5, [.ref p0, .ref q1, .int 0, .int (-1), .int 0, .int 0, .int 0, .int 0, .int 0])), (q1, .inl (k2, 10, .inr (.inr (.inr (.inr f26)))))]) [0, 1] (by decide) rfl
  refine lv_iinc (v := 6) (lv' := [(2, .int 6), (0, .ref h0), (1, .ref p0)]) hx hb dX5_init_74 hl (k := 0) rfl (by decide +kernel) (by decide) rfl (fun ls hl => ?_)
  refine lv_goto (tgt := 55) hx hb dX5_init_77 (by decide) ?_
  refine lv_iload_n hx hb dX5_init_55 rfl (lv_at hl 0 rfl) ?_
  refine lv_bipush (v := 10) hx hb dX5_init_56 (by decide +kernel) ?_
  refine lv_icmp_ge (tgt := 80) hx hb dX5_init_58 (by decide) (fun c27 => absurd c27 (by decide +kernel)) (fun c27 => ?_)
  refine lv_aload_n hx hb dX5_init_61 rfl (lv_at hl 1 rfl) ?_
  refine va_get (D := (dC, dI)) (ci := 5) (v := .ref q1) (C := RX5) (T := TX5) (N := 9) hx hb hts inX5 hown hK hP 0 rfl rfl 1 (by decide) (hts _ pq275) (fun _ h9 => h9) rfl dX5_init_62 ?_
  refine lv_iload_n hx hb dX5_init_65 rfl (lv_at hl 0 rfl) ?_
  refine va_new (ci := 3) (fs := [.int 0, .int 0, .null, .int 0, .int 0, .int 0, .int 0, .int 0]) (C := RX3) (T := TX3) (N := 8) hx hb hts inX3 tyX3 tyX3_ok hown (hts _ pq272) (hts _ pq111) (hts _ pq76) hK hP hD hS hA rfl dfX3 (Nat.le_of_ble_eq_true rfl) (Nat.le_of_ble_eq_true rfl) dX5_init_66 (fun q28 H hP hD hS => ?_)
  have hP : va_P (dC, dI) vwCl [(h0, .inr (5, [.ref p0, .ref q1, .int 0, .int (-1), .int 0, .int 0, .int 0, .int 0, .int 0])), (q1, .inl (k2, 10, .inr (.inr (.inr (.inr f26))))), (q28, .inr (3, [.int 0, .int 0, .null, .int 0, .int 0, .int 0, .int 0, .int 0]))] H := hP
  have hD : va_D A [(h0, .inr (5, [.ref p0, .ref q1, .int 0, .int (-1), .int 0, .int 0, .int 0, .int 0, .int 0])), (q1, .inl (k2, 10, .inr (.inr (.inr (.inr f26))))), (q28, .inr (3, [.int 0, .int 0, .null, .int 0, .int 0, .int 0, .int 0, .int 0]))] := hD
  refine W.widen (k := 14) (n := 546) (Nat.le_of_ble_eq_true rfl) (Nat.le_of_ble_eq_true rfl) ?_
  refine lv_dup hx hb dX5_init_69 rfl ?_
  have hPc := hP.sub (ws' := [(q28, .inr (3, [.int 0, .int 0, .null, .int 0, .int 0, .int 0, .int 0, .int 0]))]) [2] rfl
  have hDc := hD.sub (ws' := [(q28, .inr (3, [.int 0, .int 0, .null, .int 0, .int 0, .int 0, .int 0, .int 0]))]) [2] (by decide) rfl
  have hKc := hK.sub (tys' := []) [] rfl
  have hFc := va_free (wc := [(q28, .inr (3, [.int 0, .int 0, .null, .int 0, .int 0, .int 0, .int 0, .int 0]))]) hD hS hA [2] rfl
  refine va_callv (va_runIN (As := []) (rest := [.ref q28, .int 6, .ref q1]) ⟨hx, hb, hml, hown, hts⟩ (c_X3_init l dC dI q28 H.size  ) ⟨va_cnB 0 hts (gI pq114) rfl rfl rfl (xN_X5_43 hN) (hts _ pq76) (by decide +kernel) ⟨(Nat.le_of_ble_eq_true rfl), (Nat.le_of_ble_eq_true rfl)⟩, rfl, hts _ pq113⟩ (pc_S hPc hDc hKc hN) rfl rfl hl.1 rfl (lv_room (Nat.le_of_ble_eq_true rfl)) dX5_init_70 ⟨(Nat.le_of_ble_eq_true rfl), (Nat.le_of_ble_eq_true rfl)⟩) hS (fun q _ h => hFc q h) hFc (fun u t H1 locs ht hvm hw hB hz1 hk1 hS => ?_)
  obtain ⟨q29, hP1, hK1, hD1⟩ := hB
  rw [ht] at hP1
  have hK1 := va_K.moved hvm.symm hK1
  obtain ⟨hP, hD⟩ := va_join (wr := [(h0, .inr (5, [.ref p0, .ref q1, .int 0, .int (-1), .int 0, .int 0, .int 0, .int 0, .int 0])), (q1, .inl (k2, 10, .inr (.inr (.inr (.inr f26)))))]) (w1 := [(q28, .inr (3, [.int 0, .int 0, .ref q29, .int 0, .int 0, .int 0, .int 0, .int 0]))]) hP hD [2] [0, 1] rfl rfl (by decide) (by decide) hk1 hFc hP1 hD1
  generalize H1 = H at hP hS ⊢
  have hP : va_P (dC, dI) vwCl [(h0, .inr (5, [.ref p0, .ref q1, .int 0, .int (-1), .int 0, .int 0, .int 0, .int 0, .int 0])), (q1, .inl (k2, 10, .inr (.inr (.inr (.inr f26))))), (q28, .inr (3, [.int 0, .int 0, .ref q29, .int 0, .int 0, .int 0, .int 0, .int 0]))] H := hP
  have hD : va_D A [(h0, .inr (5, [.ref p0, .ref q1, .int 0, .int (-1), .int 0, .int 0, .int 0, .int 0, .int 0])), (q1, .inl (k2, 10, .inr (.inr (.inr (.inr f26))))), (q28, .inr (3, [.int 0, .int 0, .ref q29, .int 0, .int 0, .int 0, .int 0, .int 0]))] := hD
  refine W.widen (k := 15) (n := 626) (Nat.le_of_ble_eq_true rfl) (Nat.le_of_ble_eq_true rfl) ?_
  refine va_astq hx hb hK hP hD hS 1 0 2 3 rfl rfl rfl rfl (in_d (by decide +kernel)) dX5_init_73 (fun H locs hP hD hS => ?_)
  obtain ⟨f30, hP, hD⟩ : ∃ f30 : Nat → Option Nat, va_P (dC, dI) vwCl [(h0, .inr (5, [.ref p0, .ref q1, .int 0, .int (-1), .int 0, .int 0, .int 0, .int 0, .int 0])), (q1, .inl (k2, 10, .inr (.inr (.inr (.inr f30))))), (q28, .inr (3, [.int 0, .int 0, .ref q29, .int 0, .int 0, .int 0, .int 0, .int 0]))] H ∧ va_D A [(h0, .inr (5, [.ref p0, .ref q1, .int 0, .int (-1), .int 0, .int 0, .int 0, .int 0, .int 0])), (q1, .inl (k2, 10, .inr (.inr (.inr (.inr f30))))), (q28, .inr (3, [.int 0, .int 0, .ref q29, .int 0, .int 0, .int 0, .int 0, .int 0]))] := ⟨_, hP, hD⟩
  have hP := hP.sub (ws' := [(h0, .inr (5, [.ref p0, .ref q1, .int 0, .int (-1), .int 0, .int 0, .int 0, .int 0, .int 0])), (q1, .inl (k2, 10, .inr (.inr (.inr (.inr f30)))))]) [0, 1] rfl
  have hD := hD.sub (ws' := [(h0, .inr (5, [.ref p0, .ref q1, .int 0, .int (-1), .int 0, .int 0, .int 0, .int 0, .int 0])), (q1, .inl (k2, 10, .inr (.inr (.inr (.inr f30)))))]) [0, 1] (by decide) rfl
  refine lv_iinc (v := 7) (lv' := [(2, .int 7), (0, .ref h0), (1, .ref p0)]) hx hb dX5_init_74 hl (k := 0) rfl (by decide +kernel) (by decide) rfl (fun ls hl => ?_)
  refine lv_goto (tgt := 55) hx hb dX5_init_77 (by decide) ?_
  refine lv_iload_n hx hb dX5_init_55 rfl (lv_at hl 0 rfl) ?_
  refine lv_bipush (v := 10) hx hb dX5_init_56 (by decide +kernel) ?_
  refine lv_icmp_ge (tgt := 80) hx hb dX5_init_58 (by decide) (fun c31 => absurd c31 (by decide +kernel)) (fun c31 => ?_)
  refine lv_aload_n hx hb dX5_init_61 rfl (lv_at hl 1 rfl) ?_
  refine va_get (D := (dC, dI)) (ci := 5) (v := .ref q1) (C := RX5) (T := TX5) (N := 9) hx hb hts inX5 hown hK hP 0 rfl rfl 1 (by decide) (hts _ pq275) (fun _ h9 => h9) rfl dX5_init_62 ?_
  refine lv_iload_n hx hb dX5_init_65 rfl (lv_at hl 0 rfl) ?_
  refine va_new (ci := 3) (fs := [.int 0, .int 0, .null, .int 0, .int 0, .int 0, .int 0, .int 0]) (C := RX3) (T := TX3) (N := 8) hx hb hts inX3 tyX3 tyX3_ok hown (hts _ pq272) (hts _ pq111) (hts _ pq76) hK hP hD hS hA rfl dfX3 (Nat.le_of_ble_eq_true rfl) (Nat.le_of_ble_eq_true rfl) dX5_init_66 (fun q32 H hP hD hS => ?_)
  have hP : va_P (dC, dI) vwCl [(h0, .inr (5, [.ref p0, .ref q1, .int 0, .int (-1), .int 0, .int 0, .int 0, .int 0, .int 0])), (q1, .inl (k2, 10, .inr (.inr (.inr (.inr f30))))), (q32, .inr (3, [.int 0, .int 0, .null, .int 0, .int 0, .int 0, .int 0, .int 0]))] H := hP
  have hD : va_D A [(h0, .inr (5, [.ref p0, .ref q1, .int 0, .int (-1), .int 0, .int 0, .int 0, .int 0, .int 0])), (q1, .inl (k2, 10, .inr (.inr (.inr (.inr f30))))), (q32, .inr (3, [.int 0, .int 0, .null, .int 0, .int 0, .int 0, .int 0, .int 0]))] := hD
  refine W.widen (k := 16) (n := 634) (Nat.le_of_ble_eq_true rfl) (Nat.le_of_ble_eq_true rfl) ?_
  refine lv_dup hx hb dX5_init_69 rfl ?_
  have hPc := hP.sub (ws' := [(q32, .inr (3, [.int 0, .int 0, .null, .int 0, .int 0, .int 0, .int 0, .int 0]))]) [2] rfl
  have hDc := hD.sub (ws' := [(q32, .inr (3, [.int 0, .int 0, .null, .int 0, .int 0, .int 0, .int 0, .int 0]))]) [2] (by decide) rfl
  have hKc := hK.sub (tys' := []) [] rfl
  have hFc := va_free (wc := [(q32, .inr (3, [.int 0, .int 0, .null, .int 0, .int 0, .int 0, .int 0, .int 0]))]) hD hS hA [2] rfl
  refine va_callv (va_runIN (As := []) (rest := [.ref q32, .int 7, .ref q1]) ⟨hx, hb, hml, hown, hts⟩ (c_X3_init l dC dI q32 H.size  ) ⟨va_cnB 0 hts (gI pq114) rfl rfl rfl (xN_X5_43 hN) (hts _ pq76) (by decide +kernel) ⟨(Nat.le_of_ble_eq_true rfl), (Nat.le_of_ble_eq_true rfl)⟩, rfl, hts _ pq113⟩ (pc_S hPc hDc hKc hN) rfl rfl hl.1 rfl (lv_room (Nat.le_of_ble_eq_true rfl)) dX5_init_70 ⟨(Nat.le_of_ble_eq_true rfl), (Nat.le_of_ble_eq_true rfl)⟩) hS (fun q _ h => hFc q h) hFc (fun u t H1 locs ht hvm hw hB hz1 hk1 hS => ?_)
  obtain ⟨q33, hP1, hK1, hD1⟩ := hB
  rw [ht] at hP1
  have hK1 := va_K.moved hvm.symm hK1
  obtain ⟨hP, hD⟩ := va_join (wr := [(h0, .inr (5, [.ref p0, .ref q1, .int 0, .int (-1), .int 0, .int 0, .int 0, .int 0, .int 0])), (q1, .inl (k2, 10, .inr (.inr (.inr (.inr f30)))))]) (w1 := [(q32, .inr (3, [.int 0, .int 0, .ref q33, .int 0, .int 0, .int 0, .int 0, .int 0]))]) hP hD [2] [0, 1] rfl rfl (by decide) (by decide) hk1 hFc hP1 hD1
  generalize H1 = H at hP hS ⊢
  have hP : va_P (dC, dI) vwCl [(h0, .inr (5, [.ref p0, .ref q1, .int 0, .int (-1), .int 0, .int 0, .int 0, .int 0, .int 0])), (q1, .inl (k2, 10, .inr (.inr (.inr (.inr f30))))), (q32, .inr (3, [.int 0, .int 0, .ref q33, .int 0, .int 0, .int 0, .int 0, .int 0]))] H := hP
  have hD : va_D A [(h0, .inr (5, [.ref p0, .ref q1, .int 0, .int (-1), .int 0, .int 0, .int 0, .int 0, .int 0])), (q1, .inl (k2, 10, .inr (.inr (.inr (.inr f30))))), (q32, .inr (3, [.int 0, .int 0, .ref q33, .int 0, .int 0, .int 0, .int 0, .int 0]))] := hD
  refine W.widen (k := 17) (n := 714) (Nat.le_of_ble_eq_true rfl) (Nat.le_of_ble_eq_true rfl) ?_
  refine va_astq hx hb hK hP hD hS 1 0 2 3 rfl rfl rfl rfl (in_d (by decide +kernel)) dX5_init_73 (fun H locs hP hD hS => ?_)
  obtain ⟨f34, hP, hD⟩ : ∃ f34 : Nat → Option Nat, va_P (dC, dI) vwCl [(h0, .inr (5, [.ref p0, .ref q1, .int 0, .int (-1), .int 0, .int 0, .int 0, .int 0, .int 0])), (q1, .inl (k2, 10, .inr (.inr (.inr (.inr f34))))), (q32, .inr (3, [.int 0, .int 0, .ref q33, .int 0, .int 0, .int 0, .int 0, .int 0]))] H ∧ va_D A [(h0, .inr (5, [.ref p0, .ref q1, .int 0, .int (-1), .int 0, .int 0, .int 0, .int 0, .int 0])), (q1, .inl (k2, 10, .inr (.inr (.inr (.inr f34))))), (q32, .inr (3, [.int 0, .int 0, .ref q33, .int 0, .int 0, .int 0, .int 0, .int 0]))] := ⟨_, hP, hD⟩
  have hP := hP.sub (ws' := [(h0, .inr (5, [.ref p0, .ref q1, .int 0, .int (-1), .int 0, .int 0, .int 0, .int 0, .int 0])), (q1, .inl (k2, 10, .inr (.inr (.inr (.inr f34)))))]) [0, 1] rfl
  have hD := hD.sub (ws' := [(h0, .inr (5, [.ref p0, .ref q1, .int 0, .int (-1), .int 0, .int 0, .int 0, .int 0, .int 0])), (q1, .inl (k2, 10, .inr (.inr (.inr (.inr f34)))))]) [0, 1] (by decide) rfl
  refine lv_iinc (v := 8) (lv' := [(2, .int 8), (0, .ref h0), (1, .ref p0)]) hx hb dX5_init_74 hl (k := 0) rfl (by decide +kernel) (by decide) rfl (fun ls hl => ?_)
  refine lv_goto (tgt := 55) hx hb dX5_init_77 (by decide) ?_
  refine lv_iload_n hx hb dX5_init_55 rfl (lv_at hl 0 rfl) ?_
  refine lv_bipush (v := 10) hx hb dX5_init_56 (by decide +kernel) ?_
  refine lv_icmp_ge (tgt := 80) hx hb dX5_init_58 (by decide) (fun c35 => absurd c35 (by decide +kernel)) (fun c35 => ?_)
  refine lv_aload_n hx hb dX5_init_61 rfl (lv_at hl 1 rfl) ?_
  refine va_get (D := (dC, dI)) (ci := 5) (v := .ref q1) (C := RX5) (T := TX5) (N := 9) hx hb hts inX5 hown hK hP 0 rfl rfl 1 (by decide) (hts _ pq275) (fun _ h9 => h9) rfl dX5_init_62 ?_
  refine lv_iload_n hx hb dX5_init_65 rfl (lv_at hl 0 rfl) ?_
  refine va_new (ci := 3) (fs := [.int 0, .int 0, .null, .int 0, .int 0, .int 0, .int 0, .int 0]) (C := RX3) (T := TX3) (N := 8) hx hb hts inX3 tyX3 tyX3_ok hown (hts _ pq272) (hts _ pq111) (hts _ pq76) hK hP hD hS hA rfl dfX3 (Nat.le_of_ble_eq_true rfl) (Nat.le_of_ble_eq_true rfl) dX5_init_66 (fun q36 H hP hD hS => ?_)
  have hP : va_P (dC, dI) vwCl [(h0, .inr (5, [.ref p0, .ref q1, .int 0, .int (-1), .int 0, .int 0, .int 0, .int 0, .int 0])), (q1, .inl (k2, 10, .inr (.inr (.inr (.inr f34))))), (q36, .inr (3, [.int 0, .int 0, .null, .int 0, .int 0, .int 0, .int 0, .int 0]))] H := hP
  have hD : va_D A [(h0, .inr (5, [.ref p0, .ref q1, .int 0, .int (-1), .int 0, .int 0, .int 0, .int 0, .int 0])), (q1, .inl (k2, 10, .inr (.inr (.inr (.inr f34))))), (q36, .inr (3, [.int 0, .int 0, .null, .int 0, .int 0, .int 0, .int 0, .int 0]))] := hD
  refine W.widen (k := 18) (n := 722) (Nat.le_of_ble_eq_true rfl) (Nat.le_of_ble_eq_true rfl) ?_
  refine lv_dup hx hb dX5_init_69 rfl ?_
  have hPc := hP.sub (ws' := [(q36, .inr (3, [.int 0, .int 0, .null, .int 0, .int 0, .int 0, .int 0, .int 0]))]) [2] rfl
  have hDc := hD.sub (ws' := [(q36, .inr (3, [.int 0, .int 0, .null, .int 0, .int 0, .int 0, .int 0, .int 0]))]) [2] (by decide) rfl
  have hKc := hK.sub (tys' := []) [] rfl
  have hFc := va_free (wc := [(q36, .inr (3, [.int 0, .int 0, .null, .int 0, .int 0, .int 0, .int 0, .int 0]))]) hD hS hA [2] rfl
  refine va_callv (va_runIN (As := []) (rest := [.ref q36, .int 8, .ref q1]) ⟨hx, hb, hml, hown, hts⟩ (c_X3_init l dC dI q36 H.size  ) ⟨va_cnB 0 hts (gI pq114) rfl rfl rfl (xN_X5_43 hN) (hts _ pq76) (by decide +kernel) ⟨(Nat.le_of_ble_eq_true rfl), (Nat.le_of_ble_eq_true rfl)⟩, rfl, hts _ pq113⟩ (pc_S hPc hDc hKc hN) rfl rfl hl.1 rfl (lv_room (Nat.le_of_ble_eq_true rfl)) dX5_init_70 ⟨(Nat.le_of_ble_eq_true rfl), (Nat.le_of_ble_eq_true rfl)⟩) hS (fun q _ h => hFc q h) hFc (fun u t H1 locs ht hvm hw hB hz1 hk1 hS => ?_)
  obtain ⟨q37, hP1, hK1, hD1⟩ := hB
  rw [ht] at hP1
  have hK1 := va_K.moved hvm.symm hK1
  obtain ⟨hP, hD⟩ := va_join (wr := [(h0, .inr (5, [.ref p0, .ref q1, .int 0, .int (-1), .int 0, .int 0, .int 0, .int 0, .int 0])), (q1, .inl (k2, 10, .inr (.inr (.inr (.inr f34)))))]) (w1 := [(q36, .inr (3, [.int 0, .int 0, .ref q37, .int 0, .int 0, .int 0, .int 0, .int 0]))]) hP hD [2] [0, 1] rfl rfl (by decide) (by decide) hk1 hFc hP1 hD1
  generalize H1 = H at hP hS ⊢
  have hP : va_P (dC, dI) vwCl [(h0, .inr (5, [.ref p0, .ref q1, .int 0, .int (-1), .int 0, .int 0, .int 0, .int 0, .int 0])), (q1, .inl (k2, 10, .inr (.inr (.inr (.inr f34))))), (q36, .inr (3, [.int 0, .int 0, .ref q37, .int 0, .int 0, .int 0, .int 0, .int 0]))] H := hP
  have hD : va_D A [(h0, .inr (5, [.ref p0, .ref q1, .int 0, .int (-1), .int 0, .int 0, .int 0, .int 0, .int 0])), (q1, .inl (k2, 10, .inr (.inr (.inr (.inr f34))))), (q36, .inr (3, [.int 0, .int 0, .ref q37, .int 0, .int 0, .int 0, .int 0, .int 0]))] := hD
  refine W.widen (k := 19) (n := 802) (Nat.le_of_ble_eq_true rfl) (Nat.le_of_ble_eq_true rfl) ?_
  refine va_astq hx hb hK hP hD hS 1 0 2 3 rfl rfl rfl rfl (in_d (by decide +kernel)) dX5_init_73 (fun H locs hP hD hS => ?_)
  obtain ⟨f38, hP, hD⟩ : ∃ f38 : Nat → Option Nat, va_P (dC, dI) vwCl [(h0, .inr (5, [.ref p0, .ref q1, .int 0, .int (-1), .int 0, .int 0, .int 0, .int 0, .int 0])), (q1, .inl (k2, 10, .inr (.inr (.inr (.inr f38))))), (q36, .inr (3, [.int 0, .int 0, .ref q37, .int 0, .int 0, .int 0, .int 0, .int 0]))] H ∧ va_D A [(h0, .inr (5, [.ref p0, .ref q1, .int 0, .int (-1), .int 0, .int 0, .int 0, .int 0, .int 0])), (q1, .inl (k2, 10, .inr (.inr (.inr (.inr f38))))), (q36, .inr (3, [.int 0, .int 0, .ref q37, .int 0, .int 0, .int 0, .int 0, .int 0]))] := ⟨_, hP, hD⟩
  have hP := hP.sub (ws' := [(h0, .inr (5, [.ref p0, .ref q1, .int 0, .int (-1), .int 0, .int 0, .int 0, .int 0, .int 0])), (q1, .inl (k2, 10, .inr (.inr (.inr (.inr f38)))))]) [0, 1] rfl
  have hD := hD.sub (ws' := [(h0, .inr (5, [.ref p0, .ref q1, .int 0, .int (-1), .int 0, .int 0, .int 0, .int 0, .int 0])), (q1, .inl (k2, 10, .inr (.inr (.inr (.inr f38)))))]) [0, 1] (by decide) rfl
  refine lv_iinc (v := 9) (lv' := [(2, .int 9), (0, .ref h0), (1, .ref p0)]) hx hb dX5_init_74 hl (k := 0) rfl (by decide +kernel) (by decide) rfl (fun ls hl => ?_)
  refine lv_goto (tgt := 55) hx hb dX5_init_77 (by decide) ?_
  refine lv_iload_n hx hb dX5_init_55 rfl (lv_at hl 0 rfl) ?_
  refine lv_bipush (v := 10) hx hb dX5_init_56 (by decide +kernel) ?_
  refine lv_icmp_ge (tgt := 80) hx hb dX5_init_58 (by decide) (fun c39 => absurd c39 (by decide +kernel)) (fun c39 => ?_)
  refine lv_aload_n hx hb dX5_init_61 rfl (lv_at hl 1 rfl) ?_
  refine va_get (D := (dC, dI)) (ci := 5) (v := .ref q1) (C := RX5) (T := TX5) (N := 9) hx hb hts inX5 hown hK hP 0 rfl rfl 1 (by decide) (hts _ pq275) (fun _ h9 => h9) rfl dX5_init_62 ?_
  refine lv_iload_n hx hb dX5_init_65 rfl (lv_at hl 0 rfl) ?_
  refine va_new (ci := 3) (fs := [.int 0, .int 0, .null, .int 0, .int 0, .int 0, .int 0, .int 0]) (C := RX3) (T := TX3) (N := 8) hx hb hts inX3 tyX3 tyX3_ok hown (hts _ pq272) (hts _ pq111) (hts _ pq76) hK hP hD hS hA rfl dfX3 (Nat.le_of_ble_eq_true rfl) (Nat.le_of_ble_eq_true rfl) dX5_init_66 (fun q40 H hP hD hS => ?_)
  have hP : va_P (dC, dI) vwCl [(h0, .inr (5, [.ref p0, .ref q1, .int 0, .int (-1), .int 0, .int 0, .int 0, .int 0, .int 0])), (q1, .inl (k2, 10, .inr (.inr (.inr (.inr f38))))), (q40, .inr (3, [.int 0, .int 0, .null, .int 0, .int 0, .int 0, .int 0, .int 0]))] H := hP
  have hD : va_D A [(h0, .inr (5, [.ref p0, .ref q1, .int 0, .int (-1), .int 0, .int 0, .int 0, .int 0, .int 0])), (q1, .inl (k2, 10, .inr (.inr (.inr (.inr f38))))), (q40, .inr (3, [.int 0, .int 0, .null, .int 0, .int 0, .int 0, .int 0, .int 0]))] := hD
  refine W.widen (k := 20) (n := 810) (Nat.le_of_ble_eq_true rfl) (Nat.le_of_ble_eq_true rfl) ?_
  refine lv_dup hx hb dX5_init_69 rfl ?_
  have hPc := hP.sub (ws' := [(q40, .inr (3, [.int 0, .int 0, .null, .int 0, .int 0, .int 0, .int 0, .int 0]))]) [2] rfl
  have hDc := hD.sub (ws' := [(q40, .inr (3, [.int 0, .int 0, .null, .int 0, .int 0, .int 0, .int 0, .int 0]))]) [2] (by decide) rfl
  have hKc := hK.sub (tys' := []) [] rfl
  have hFc := va_free (wc := [(q40, .inr (3, [.int 0, .int 0, .null, .int 0, .int 0, .int 0, .int 0, .int 0]))]) hD hS hA [2] rfl
  refine va_callv (va_runIN (As := []) (rest := [.ref q40, .int 9, .ref q1]) ⟨hx, hb, hml, hown, hts⟩ (c_X3_init l dC dI q40 H.size  ) ⟨va_cnB 0 hts (gI pq114) rfl rfl rfl (xN_X5_43 hN) (hts _ pq76) (by decide +kernel) ⟨(Nat.le_of_ble_eq_true rfl), (Nat.le_of_ble_eq_true rfl)⟩, rfl, hts _ pq113⟩ (pc_S hPc hDc hKc hN) rfl rfl hl.1 rfl (lv_room (Nat.le_of_ble_eq_true rfl)) dX5_init_70 ⟨(Nat.le_of_ble_eq_true rfl), (Nat.le_of_ble_eq_true rfl)⟩) hS (fun q _ h => hFc q h) hFc (fun u t H1 locs ht hvm hw hB hz1 hk1 hS => ?_)
  obtain ⟨q41, hP1, hK1, hD1⟩ := hB
  rw [ht] at hP1
  have hK1 := va_K.moved hvm.symm hK1
  obtain ⟨hP, hD⟩ := va_join (wr := [(h0, .inr (5, [.ref p0, .ref q1, .int 0, .int (-1), .int 0, .int 0, .int 0, .int 0, .int 0])), (q1, .inl (k2, 10, .inr (.inr (.inr (.inr f38)))))]) (w1 := [(q40, .inr (3, [.int 0, .int 0, .ref q41, .int 0, .int 0, .int 0, .int 0, .int 0]))]) hP hD [2] [0, 1] rfl rfl (by decide) (by decide) hk1 hFc hP1 hD1
  generalize H1 = H at hP hS ⊢
  have hP : va_P (dC, dI) vwCl [(h0, .inr (5, [.ref p0, .ref q1, .int 0, .int (-1), .int 0, .int 0, .int 0, .int 0, .int 0])), (q1, .inl (k2, 10, .inr (.inr (.inr (.inr f38))))), (q40, .inr (3, [.int 0, .int 0, .ref q41, .int 0, .int 0, .int 0, .int 0, .int 0]))] H := hP
  have hD : va_D A [(h0, .inr (5, [.ref p0, .ref q1, .int 0, .int (-1), .int 0, .int 0, .int 0, .int 0, .int 0])), (q1, .inl (k2, 10, .inr (.inr (.inr (.inr f38))))), (q40, .inr (3, [.int 0, .int 0, .ref q41, .int 0, .int 0, .int 0, .int 0, .int 0]))] := hD
  refine W.widen (k := 21) (n := 890) (Nat.le_of_ble_eq_true rfl) (Nat.le_of_ble_eq_true rfl) ?_
  refine va_astq hx hb hK hP hD hS 1 0 2 3 rfl rfl rfl rfl (in_d (by decide +kernel)) dX5_init_73 (fun H locs hP hD hS => ?_)
  obtain ⟨f42, hP, hD⟩ : ∃ f42 : Nat → Option Nat, va_P (dC, dI) vwCl [(h0, .inr (5, [.ref p0, .ref q1, .int 0, .int (-1), .int 0, .int 0, .int 0, .int 0, .int 0])), (q1, .inl (k2, 10, .inr (.inr (.inr (.inr f42))))), (q40, .inr (3, [.int 0, .int 0, .ref q41, .int 0, .int 0, .int 0, .int 0, .int 0]))] H ∧ va_D A [(h0, .inr (5, [.ref p0, .ref q1, .int 0, .int (-1), .int 0, .int 0, .int 0, .int 0, .int 0])), (q1, .inl (k2, 10, .inr (.inr (.inr (.inr f42))))), (q40, .inr (3, [.int 0, .int 0, .ref q41, .int 0, .int 0, .int 0, .int 0, .int 0]))] := ⟨_, hP, hD⟩
  have hP := hP.sub (ws' := [(h0, .inr (5, [.ref p0, .ref q1, .int 0, .int (-1), .int 0, .int 0, .int 0, .int 0, .int 0])), (q1, .inl (k2, 10, .inr (.inr (.inr (.inr f42)))))]) [0, 1] rfl
  have hD := hD.sub (ws' := [(h0, .inr (5, [.ref p0, .ref q1, .int 0, .int (-1), .int 0, .int 0, .int 0, .int 0, .int 0])), (q1, .inl (k2, 10, .inr (.inr (.inr (.inr f42)))))]) [0, 1] (by decide) rfl
  refine lv_iinc (v := 10) (lv' := [(2, .int 10), (0, .ref h0), (1, .ref p0)]) hx hb dX5_init_74 hl (k := 0) rfl (by decide +kernel) (by decide) rfl (fun ls hl => ?_)
  refine lv_goto (tgt := 55) hx hb dX5_init_77 (by decide) ?_
  refine lv_iload_n hx hb dX5_init_55 rfl (lv_at hl 0 rfl) ?_
  refine lv_bipush (v := 10) hx hb dX5_init_56 (by decide +kernel) ?_
  refine lv_icmp_ge (tgt := 80) hx hb dX5_init_58 (by decide) (fun c43 => ?_) (fun c43 => absurd (by decide +kernel) c43)
  have hP9 := hP.sub (ws' := [(h0, .inr (5, [.ref p0, .ref q1, .int 0, .int (-1), .int 0, .int 0, .int 0, .int 0, .int 0]))]) [0] rfl
  have hD9 := hD.sub (ws' := [(h0, .inr (5, [.ref p0, .ref q1, .int 0, .int (-1), .int 0, .int 0, .int 0, .int 0, .int 0]))]) [0] (by decide) rfl
  have hK9 := hK.sub (tys' := []) [] rfl
  exact W.vret hx hb hr (fun t ht hW => ⟨⟨(), rfl, trivial, ⟨q1, by rw [ht]; exact hP9, va_K.moved hW.alike hK9, hD9⟩⟩, hS.F ht⟩) hS.2.2 dX5_init_80

set_option maxHeartbeats 4000000 in
set_option maxRecDepth 100000 in
theorem c_X2_init (l : Launch) (dC : Nat → ClassId) (dI : Nat → Nat → Nat) (h0 : Nat) (sz : Nat) : Met l yX2_init (.code yX2_init cX2_init 1 none :: pw) ({ frames := 2, cells := 3, slots := 4088, locals := 32 }) (pc (dC, dI) [.ref h0] sz [(h0, .inr (2, [.null, .null, .int 0, .int 0, .int 0, .int 0, .int 0, .int 0]))] []) (va_Qv (fun (_ : Unit) => True) (fun _ _ => True) (va_A [(h0, .inr (2, [.null, .null, .int 0, .int 0, .int 0, .int 0, .int 0, .int 0]))] sz)) 3 4088 (va_A [(h0, .inr (2, [.null, .null, .int 0, .int 0, .int 0, .int 0, .int 0, .int 0]))] sz) := by
  refine Met.ofW (cc := cX2_init) (maxL := 1) (ret := none) (by decide +kernel) rfl ?_
  intro p e s m args below meth c s₁ B hml hv
  obtain ⟨rfl, hsz, hP, hK, hD0, hN⟩ := hv
  have hx := B.exec
  have hb := B.bytes
  have hr := B.returns
  have hts := fun w (h : w ∈ pw) => atoms_spec (ws := Cond.code yX2_init cX2_init 1 none :: pw) B.pre w (List.mem_cons_of_mem _ h)
  have hown : s.vm.findClass RX2 = some m.cls := findClass_of_methodNamed B.named
  have hlocks := B.notSynchronized
  have hin : meth.name = "<init>" := (name_of_methodNamed B.named B.method).1
  subst hsz
  have hD := hD0.self (sz := s.heap.size)
  generalize hAe : va_A [(h0, .inr (2, [.null, .null, .int 0, .int 0, .int 0, .int 0, .int 0, .int 0]))] s.heap.size = A at hD ⊢
  have hA : ∀ q : Nat, s.heap.size ≤ q → A q := fun q h => by rw [← hAe]; exact Or.inr h
  obtain ⟨H, hHe⟩ : ∃ H : Heap, H = s.heap := ⟨_, rfl⟩
  have hS : va_S A s.heap H [] := by rw [hHe]; exact va_S.rf
  rw [← hHe] at hP
  have hl := lv_entry ([.ref h0]) (n := 1) (Nat.le_of_ble_eq_true rfl)
  rw [lg_entry_eq]
  generalize (lg_sl ([.ref h0]) ++ List.replicate (1 - (lg_sl ([.ref h0])).length) Slot.unset).toArray = ls at hl ⊢
  have hl : lv_has ls 1 [(0, .ref h0)] := hl
  rw [← hHe]
  refine lv_aload_n hx hb dX2_init_0 rfl (lv_at hl 0 rfl) ?_
  refine W.objInit hx hb hown (hts _ pq314) (hts _ pq99) (hts _ pq100) rfl (by rw [hml]; exact hl.1) rfl dX2_init_1 (Nat.le_of_ble_eq_true rfl) (Nat.le_of_ble_eq_true rfl) ?_
  refine W.eq (g2 := F0 m 4 ls []) rfl ?_
  refine lv_aload_n hx hb dX2_init_4 rfl (lv_at hl 0 rfl) ?_
  refine va_new (ci := 3) (fs := [.int 0, .int 0, .null, .int 0, .int 0, .int 0, .int 0, .int 0]) (C := RX3) (T := TX3) (N := 8) hx hb hts inX3 tyX3 tyX3_ok hown (hts _ pq315) (hts _ pq111) (hts _ pq76) hK hP hD hS hA rfl dfX3 (Nat.le_of_ble_eq_true rfl) (Nat.le_of_ble_eq_true rfl) dX2_init_5 (fun q1 H hP hD hS => ?_)
  have hP : va_P (dC, dI) vwCl [(h0, .inr (2, [.null, .null, .int 0, .int 0, .int 0, .int 0, .int 0, .int 0])), (q1, .inr (3, [.int 0, .int 0, .null, .int 0, .int 0, .int 0, .int 0, .int 0]))] H := hP
  have hD : va_D A [(h0, .inr (2, [.null, .null, .int 0, .int 0, .int 0, .int 0, .int 0, .int 0])), (q1, .inr (3, [.int 0, .int 0, .null, .int 0, .int 0, .int 0, .int 0, .int 0]))] := hD
  refine W.widen (k := 1) (n := 8) (Nat.le_of_ble_eq_true rfl) (Nat.le_of_ble_eq_true rfl) ?_
  refine lv_dup hx hb dX2_init_8 rfl ?_
  have hPc := hP.sub (ws' := [(q1, .inr (3, [.int 0, .int 0, .null, .int 0, .int 0, .int 0, .int 0, .int 0]))]) [1] rfl
  have hDc := hD.sub (ws' := [(q1, .inr (3, [.int 0, .int 0, .null, .int 0, .int 0, .int 0, .int 0, .int 0]))]) [1] (by decide) rfl
  have hKc := hK.sub (tys' := []) [] rfl
  have hFc := va_free (wc := [(q1, .inr (3, [.int 0, .int 0, .null, .int 0, .int 0, .int 0, .int 0, .int 0]))]) hD hS hA [1] rfl
  refine va_callv (va_runIN (As := []) (rest := [.ref q1, .ref h0]) ⟨hx, hb, hml, hown, hts⟩ (c_X3_init l dC dI q1 H.size  ) ⟨va_cnB 0 hts (gI pq114) rfl rfl rfl (xN_X2_11 hN) (hts _ pq76) (by decide +kernel) ⟨(Nat.le_of_ble_eq_true rfl), (Nat.le_of_ble_eq_true rfl)⟩, rfl, hts _ pq113⟩ (pc_S hPc hDc hKc hN) rfl rfl hl.1 rfl (lv_room (Nat.le_of_ble_eq_true rfl)) dX2_init_9 ⟨(Nat.le_of_ble_eq_true rfl), (Nat.le_of_ble_eq_true rfl)⟩) hS (fun q _ h => hFc q h) hFc (fun u t H1 locs ht hvm hw hB hz1 hk1 hS => ?_)
  obtain ⟨q2, hP1, hK1, hD1⟩ := hB
  rw [ht] at hP1
  have hK1 := va_K.moved hvm.symm hK1
  obtain ⟨hP, hD⟩ := va_join (wr := [(h0, .inr (2, [.null, .null, .int 0, .int 0, .int 0, .int 0, .int 0, .int 0]))]) (w1 := [(q1, .inr (3, [.int 0, .int 0, .ref q2, .int 0, .int 0, .int 0, .int 0, .int 0]))]) hP hD [1] [0] rfl rfl (by decide) (by decide) hk1 hFc hP1 hD1
  generalize H1 = H at hP hS ⊢
  have hP : va_P (dC, dI) vwCl [(h0, .inr (2, [.null, .null, .int 0, .int 0, .int 0, .int 0, .int 0, .int 0])), (q1, .inr (3, [.int 0, .int 0, .ref q2, .int 0, .int 0, .int 0, .int 0, .int 0]))] H := hP
  have hD : va_D A [(h0, .inr (2, [.null, .null, .int 0, .int 0, .int 0, .int 0, .int 0, .int 0])), (q1, .inr (3, [.int 0, .int 0, .ref q2, .int 0, .int 0, .int 0, .int 0, .int 0]))] := hD
  refine W.widen (k := 2) (n := 88) (Nat.le_of_ble_eq_true rfl) (Nat.le_of_ble_eq_true rfl) ?_
  refine va_putF (D := (dC, dI)) (ci := 2) (v := .ref q1) (ty := tyX2 0) (C := RX2) (T := TX2) (N := 8) hx hb hts inX2 tyX2 tyX2_ok nmX2 hown hK hP hD hS 0 rfl rfl 0 (by decide) (hts _ pq317) (fun _ h9 => h9) rfl hin rfl (by decide +kernel) rfl rfl (Nat.le_of_ble_eq_true rfl) dX2_init_12 (fun H locs hP hD hS => ?_)
  have hP : va_P (dC, dI) vwCl [(h0, .inr (2, [.ref q1, .null, .int 0, .int 0, .int 0, .int 0, .int 0, .int 0])), (q1, .inr (3, [.int 0, .int 0, .ref q2, .int 0, .int 0, .int 0, .int 0, .int 0]))] H := hP
  have hD : va_D A [(h0, .inr (2, [.ref q1, .null, .int 0, .int 0, .int 0, .int 0, .int 0, .int 0])), (q1, .inr (3, [.int 0, .int 0, .ref q2, .int 0, .int 0, .int 0, .int 0, .int 0]))] := hD
  refine lv_aload_n hx hb dX2_init_15 rfl (lv_at hl 0 rfl) ?_
  refine lv_sipush (v := 4000) hx hb dX2_init_16 (by decide +kernel) ?_
  refine va_newa (atype := .int) (ty := .int) (a0 := (4000, .inl (fun _ => 0))) hx hb (hts _ pq347) rfl hK hP hD hS hA (fun _ => rfl) (by decide +kernel) (by decide +kernel) (Nat.le_of_ble_eq_true rfl) (Nat.le_of_ble_eq_true rfl) (Nat.le_of_ble_eq_true rfl) dX2_init_19 (fun q3 k4 H hK hP hD hS => ?_)
  have hP : va_P (dC, dI) vwCl [(h0, .inr (2, [.ref q1, .null, .int 0, .int 0, .int 0, .int 0, .int 0, .int 0])), (q1, .inr (3, [.int 0, .int 0, .ref q2, .int 0, .int 0, .int 0, .int 0, .int 0])), (q3, .inl (k4, 4000, .inl (fun _ => 0)))] H := hP
  have hD : va_D A [(h0, .inr (2, [.ref q1, .null, .int 0, .int 0, .int 0, .int 0, .int 0, .int 0])), (q1, .inr (3, [.int 0, .int 0, .ref q2, .int 0, .int 0, .int 0, .int 0, .int 0])), (q3, .inl (k4, 4000, .inl (fun _ => 0)))] := hD
  have hK : va_K (dC, dI) vwCl [(k4, .int)] s := hK
  refine W.widen (k := 3) (n := 4088) (Nat.le_of_ble_eq_true rfl) (Nat.le_of_ble_eq_true rfl) ?_
  refine va_putF (D := (dC, dI)) (ci := 2) (v := .ref q3) (ty := tyX2 1) (C := RX2) (T := TX2) (N := 8) hx hb hts inX2 tyX2 tyX2_ok nmX2 hown hK hP hD hS 0 rfl rfl 1 (by decide) (hts _ pq318) (fun _ h9 => h9) rfl hin rfl (by decide +kernel) rfl rfl (Nat.le_of_ble_eq_true rfl) dX2_init_21 (fun H locs hP hD hS => ?_)
  have hP : va_P (dC, dI) vwCl [(h0, .inr (2, [.ref q1, .ref q3, .int 0, .int 0, .int 0, .int 0, .int 0, .int 0])), (q1, .inr (3, [.int 0, .int 0, .ref q2, .int 0, .int 0, .int 0, .int 0, .int 0])), (q3, .inl (k4, 4000, .inl (fun _ => 0)))] H := hP
  have hD : va_D A [(h0, .inr (2, [.ref q1, .ref q3, .int 0, .int 0, .int 0, .int 0, .int 0, .int 0])), (q1, .inr (3, [.int 0, .int 0, .ref q2, .int 0, .int 0, .int 0, .int 0, .int 0])), (q3, .inl (k4, 4000, .inl (fun _ => 0)))] := hD
  refine lv_aload_n hx hb dX2_init_24 rfl (lv_at hl 0 rfl) ?_
  refine lv_iconst (v := 0) hx hb dX2_init_25 (by decide +kernel) ?_
  refine va_put (D := (dC, dI)) (ci := 2) (v := .int 0) (ty := tyX2 2) (C := RX2) (T := TX2) (N := 8) hx hb hts inX2 tyX2 tyX2_ok nmX2 hown hK hP hD hS 0 rfl rfl 2 (by decide) (hts _ pq319) (fun _ h9 => h9) rfl (by decide +kernel) rfl rfl (Nat.le_of_ble_eq_true rfl) dX2_init_26 (fun H locs hP hD hS => ?_)
  have hP : va_P (dC, dI) vwCl [(h0, .inr (2, [.ref q1, .ref q3, .int 0, .int 0, .int 0, .int 0, .int 0, .int 0])), (q1, .inr (3, [.int 0, .int 0, .ref q2, .int 0, .int 0, .int 0, .int 0, .int 0])), (q3, .inl (k4, 4000, .inl (fun _ => 0)))] H := hP
  have hD : va_D A [(h0, .inr (2, [.ref q1, .ref q3, .int 0, .int 0, .int 0, .int 0, .int 0, .int 0])), (q1, .inr (3, [.int 0, .int 0, .ref q2, .int 0, .int 0, .int 0, .int 0, .int 0])), (q3, .inl (k4, 4000, .inl (fun _ => 0)))] := hD
  refine lv_aload_n hx hb dX2_init_29 rfl (lv_at hl 0 rfl) ?_
  refine lv_iconst (v := 0) hx hb dX2_init_30 (by decide +kernel) ?_
  refine va_put (D := (dC, dI)) (ci := 2) (v := .int 0) (ty := tyX2 3) (C := RX2) (T := TX2) (N := 8) hx hb hts inX2 tyX2 tyX2_ok nmX2 hown hK hP hD hS 0 rfl rfl 3 (by decide) (hts _ pq320) (fun _ h9 => h9) rfl (by decide +kernel) rfl rfl (Nat.le_of_ble_eq_true rfl) dX2_init_31 (fun H locs hP hD hS => ?_)
  have hP : va_P (dC, dI) vwCl [(h0, .inr (2, [.ref q1, .ref q3, .int 0, .int 0, .int 0, .int 0, .int 0, .int 0])), (q1, .inr (3, [.int 0, .int 0, .ref q2, .int 0, .int 0, .int 0, .int 0, .int 0])), (q3, .inl (k4, 4000, .inl (fun _ => 0)))] H := hP
  have hD : va_D A [(h0, .inr (2, [.ref q1, .ref q3, .int 0, .int 0, .int 0, .int 0, .int 0, .int 0])), (q1, .inr (3, [.int 0, .int 0, .ref q2, .int 0, .int 0, .int 0, .int 0, .int 0])), (q3, .inl (k4, 4000, .inl (fun _ => 0)))] := hD
  refine lv_aload_n hx hb dX2_init_34 rfl (lv_at hl 0 rfl) ?_
  refine lv_iconst (v := 0) hx hb dX2_init_35 (by decide +kernel) ?_
  refine va_put (D := (dC, dI)) (ci := 2) (v := .int 0) (ty := tyX2 4) (C := RX2) (T := TX2) (N := 8) hx hb hts inX2 tyX2 tyX2_ok nmX2 hown hK hP hD hS 0 rfl rfl 4 (by decide) (hts _ pq322) (fun _ h9 => h9) rfl (by decide +kernel) rfl rfl (Nat.le_of_ble_eq_true rfl) dX2_init_36 (fun H locs hP hD hS => ?_)
  have hP : va_P (dC, dI) vwCl [(h0, .inr (2, [.ref q1, .ref q3, .int 0, .int 0, .int 0, .int 0, .int 0, .int 0])), (q1, .inr (3, [.int 0, .int 0, .ref q2, .int 0, .int 0, .int 0, .int 0, .int 0])), (q3, .inl (k4, 4000, .inl (fun _ => 0)))] H := hP
  have hD : va_D A [(h0, .inr (2, [.ref q1, .ref q3, .int 0, .int 0, .int 0, .int 0, .int 0, .int 0])), (q1, .inr (3, [.int 0, .int 0, .ref q2, .int 0, .int 0, .int 0, .int 0, .int 0])), (q3, .inl (k4, 4000, .inl (fun _ => 0)))] := hD
  refine lv_aload_n hx hb dX2_init_39 rfl (lv_at hl 0 rfl) ?_
  refine lv_iconst (v := 0) hx hb dX2_init_40 (by decide +kernel) ?_
  refine va_put (D := (dC, dI)) (ci := 2) (v := .int 0) (ty := tyX2 5) (C := RX2) (T := TX2) (N := 8) hx hb hts inX2 tyX2 tyX2_ok nmX2 hown hK hP hD hS 0 rfl rfl 5 (by decide) (hts _ pq324) (fun _ h9 => h9) rfl (by decide +kernel) rfl rfl (Nat.le_of_ble_eq_true rfl) dX2_init_41 (fun H locs hP hD hS => ?_)
  have hP : va_P (dC, dI) vwCl [(h0, .inr (2, [.ref q1, .ref q3, .int 0, .int 0, .int 0, .int 0, .int 0, .int 0])), (q1, .inr (3, [.int 0, .int 0, .ref q2, .int 0, .int 0, .int 0, .int 0, .int 0])), (q3, .inl (k4, 4000, .inl (fun _ => 0)))] H := hP
  have hD : va_D A [(h0, .inr (2, [.ref q1, .ref q3, .int 0, .int 0, .int 0, .int 0, .int 0, .int 0])), (q1, .inr (3, [.int 0, .int 0, .ref q2, .int 0, .int 0, .int 0, .int 0, .int 0])), (q3, .inl (k4, 4000, .inl (fun _ => 0)))] := hD
  refine lv_aload_n hx hb dX2_init_44 rfl (lv_at hl 0 rfl) ?_
  refine lv_iconst (v := 0) hx hb dX2_init_45 (by decide +kernel) ?_
  refine va_put (D := (dC, dI)) (ci := 2) (v := .int 0) (ty := tyX2 6) (C := RX2) (T := TX2) (N := 8) hx hb hts inX2 tyX2 tyX2_ok nmX2 hown hK hP hD hS 0 rfl rfl 6 (by decide) (hts _ pq326) (fun _ h9 => h9) rfl (by decide +kernel) rfl rfl (Nat.le_of_ble_eq_true rfl) dX2_init_46 (fun H locs hP hD hS => ?_)
  have hP : va_P (dC, dI) vwCl [(h0, .inr (2, [.ref q1, .ref q3, .int 0, .int 0, .int 0, .int 0, .int 0, .int 0])), (q1, .inr (3, [.int 0, .int 0, .ref q2, .int 0, .int 0, .int 0, .int 0, .int 0])), (q3, .inl (k4, 4000, .inl (fun _ => 0)))] H := hP
  have hD : va_D A [(h0, .inr (2, [.ref q1, .ref q3, .int 0, .int 0, .int 0, .int 0, .int 0, .int 0])), (q1, .inr (3, [.int 0, .int 0, .ref q2, .int 0, .int 0, .int 0, .int 0, .int 0])), (q3, .inl (k4, 4000, .inl (fun _ => 0)))] := hD
  refine lv_aload_n hx hb dX2_init_49 rfl (lv_at hl 0 rfl) ?_
  refine lv_iconst (v := 0) hx hb dX2_init_50 (by decide +kernel) ?_
  refine va_put (D := (dC, dI)) (ci := 2) (v := .int 0) (ty := tyX2 7) (C := RX2) (T := TX2) (N := 8) hx hb hts inX2 tyX2 tyX2_ok nmX2 hown hK hP hD hS 0 rfl rfl 7 (by decide) (hts _ pq328) (fun _ h9 => h9) rfl (by decide +kernel) rfl rfl (Nat.le_of_ble_eq_true rfl) dX2_init_51 (fun H locs hP hD hS => ?_)
  have hP : va_P (dC, dI) vwCl [(h0, .inr (2, [.ref q1, .ref q3, .int 0, .int 0, .int 0, .int 0, .int 0, .int 0])), (q1, .inr (3, [.int 0, .int 0, .ref q2, .int 0, .int 0, .int 0, .int 0, .int 0])), (q3, .inl (k4, 4000, .inl (fun _ => 0)))] H := hP
  have hD : va_D A [(h0, .inr (2, [.ref q1, .ref q3, .int 0, .int 0, .int 0, .int 0, .int 0, .int 0])), (q1, .inr (3, [.int 0, .int 0, .ref q2, .int 0, .int 0, .int 0, .int 0, .int 0])), (q3, .inl (k4, 4000, .inl (fun _ => 0)))] := hD
  exact W.vret hx hb hr (fun t ht hW => ⟨⟨(), rfl, trivial, trivial⟩, hS.F ht⟩) hS.2.2 dX2_init_54
