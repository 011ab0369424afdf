abbrev cX3_init : ByteArray := prog_5_method_1_code
abbrev cX0_init : ByteArray := prog_2_method_1_code
abbrev cX1_init : ByteArray := prog_3_method_1_code
def yX1_init : MethodName := ⟨RX1, "<init>", "()V"⟩
theorem dX0_init_0 : decode cX0_init 0 = .ok (.aload_n 0, 1) := by decide +kernel
theorem dX0_init_1 : decode cX0_init 1 = .ok (.invokespecial 1, 3) := by decide +kernel
theorem dX0_init_4 : decode cX0_init 4 = .ok (.return_, 1) := by decide +kernel
theorem dX1_init_0 : decode cX1_init 0 = .ok (.aload_n 0, 1) := by decide +kernel
theorem dX1_init_1 : decode cX1_init 1 = .ok (.invokespecial 3, 3) := by decide +kernel
theorem dX1_init_4 : decode cX1_init 4 = .ok (.aload_n 0, 1) := by decide +kernel
theorem dX1_init_5 : decode cX1_init 5 = .ok (.bipush 8, 2) := by decide +kernel
theorem dX1_init_7 : decode cX1_init 7 = .ok (.anewarray 9, 3) := by decide +kernel
theorem dX1_init_10 : decode cX1_init 10 = .ok (.putfield 11, 3) := by decide +kernel
theorem dX1_init_13 : decode cX1_init 13 = .ok (.aload_n 0, 1) := by decide +kernel
theorem dX1_init_14 : decode cX1_init 14 = .ok (.bipush 10, 2) := by decide +kernel
theorem dX1_init_16 : decode cX1_init 16 = .ok (.anewarray 17, 3) := by decide +kernel
theorem dX1_init_19 : decode cX1_init 19 = .ok (.putfield 19, 3) := by decide +kernel
theorem dX1_init_22 : decode cX1_init 22 = .ok (.aload_n 0, 1) := by decide +kernel
theorem dX1_init_23 : decode cX1_init 23 = .ok (.iconst 0, 1) := by decide +kernel
theorem dX1_init_24 : decode cX1_init 24 = .ok (.putfield 23, 3) := by decide +kernel
theorem dX1_init_27 : decode cX1_init 27 = .ok (.aload_n 0, 1) := by decide +kernel
theorem dX1_init_28 : decode cX1_init 28 = .ok (.iconst 0, 1) := by decide +kernel
theorem dX1_init_29 : decode cX1_init 29 = .ok (.putfield 27, 3) := by decide +kernel
theorem dX1_init_32 : decode cX1_init 32 = .ok (.aload_n 0, 1) := by decide +kernel
theorem dX1_init_33 : decode cX1_init 33 = .ok (.iconst 0, 1) := by decide +kernel
theorem dX1_init_34 : decode cX1_init 34 = .ok (.putfield 30, 3) := by decide +kernel
theorem dX1_init_37 : decode cX1_init 37 = .ok (.iconst 0, 1) := by decide +kernel
theorem dX1_init_38 : decode cX1_init 38 = .ok (.istore_n 1, 1) := by decide +kernel
theorem dX1_init_39 : decode cX1_init 39 = .ok (.iload_n 1, 1) := by decide +kernel
theorem dX1_init_40 : decode cX1_init 40 = .ok (.bipush 8, 2) := by decide +kernel
theorem dX1_init_42 : decode cX1_init 42 = .ok (.if_icmp .ge 22, 3) := by decide +kernel
theorem dX1_init_45 : decode cX1_init 45 = .ok (.aload_n 0, 1) := by decide +kernel
theorem dX1_init_46 : decode cX1_init 46 = .ok (.getfield 11, 3) := by decide +kernel
theorem dX1_init_49 : decode cX1_init 49 = .ok (.iload_n 1, 1) := by decide +kernel
theorem dX1_init_50 : decode cX1_init 50 = .ok (.new 9, 3) := by decide +kernel
theorem dX1_init_53 : decode cX1_init 53 = .ok (.dup, 1) := by decide +kernel
theorem dX1_init_54 : decode cX1_init 54 = .ok (.invokespecial 33, 3) := by decide +kernel
theorem dX1_init_57 : decode cX1_init 57 = .ok (.aastore, 1) := by decide +kernel
theorem dX1_init_58 : decode cX1_init 58 = .ok (.iinc 1 1, 3) := by decide +kernel
theorem dX1_init_61 : decode cX1_init 61 = .ok (.goto (-22), 3) := by decide +kernel
theorem dX1_init_64 : decode cX1_init 64 = .ok (.iconst 0, 1) := by decide +kernel
theorem dX1_init_65 : decode cX1_init 65 = .ok (.istore_n 1, 1) := by decide +kernel
theorem dX1_init_66 : decode cX1_init 66 = .ok (.iload_n 1, 1) := by decide +kernel
theorem dX1_init_67 : decode cX1_init 67 = .ok (.bipush 10, 2) := by decide +kernel
theorem dX1_init_69 : decode cX1_init 69 = .ok (.if_icmp .ge 22, 3) := by decide +kernel
theorem dX1_init_72 : decode cX1_init 72 = .ok (.aload_n 0, 1) := by decide +kernel
theorem dX1_init_73 : decode cX1_init 73 = .ok (.getfield 19, 3) := by decide +kernel
theorem dX1_init_76 : decode cX1_init 76 = .ok (.iload_n 1, 1) := by decide +kernel
theorem dX1_init_77 : decode cX1_init 77 = .ok (.new 17, 3) := by decide +kernel
theorem dX1_init_80 : decode cX1_init 80 = .ok (.dup, 1) := by decide +kernel
theorem dX1_init_81 : decode cX1_init 81 = .ok (.invokespecial 34, 3) := by decide +kernel
theorem dX1_init_84 : decode cX1_init 84 = .ok (.aastore, 1) := by decide +kernel
theorem dX1_init_85 : decode cX1_init 85 = .ok (.iinc 1 1, 3) := by decide +kernel
theorem dX1_init_88 : decode cX1_init 88 = .ok (.goto (-22), 3) := by decide +kernel
theorem dX1_init_91 : decode cX1_init 91 = .ok (.return_, 1) := by decide +kernel
theorem dX3_init_0 : decode cX3_init 0 = .ok (.aload_n 0, 1) := by decide +kernel
theorem dX3_init_1 : decode cX3_init 1 = .ok (.invokespecial 3, 3) := by decide +kernel
theorem dX3_init_4 : decode cX3_init 4 = .ok (.aload_n 0, 1) := by decide +kernel
theorem dX3_init_5 : decode cX3_init 5 = .ok (.bipush 80, 2) := by decide +kernel
theorem dX3_init_7 : decode cX3_init 7 = .ok (.newarray .long, 2) := by decide +kernel
theorem dX3_init_9 : decode cX3_init 9 = .ok (.putfield 9, 3) := by decide +kernel
theorem dX3_init_12 : decode cX3_init 12 = .ok (.return_, 1) := by decide +kernel
set_option maxRecDepth 100000 in
theorem pq76 : Cond.initialized RX3 ∈ pw := pw_mem (i := 76) (by decide +kernel) rfl
set_option maxRecDepth 100000 in
theorem pq77 : Cond.initialized RX0 ∈ pw := pw_mem (i := 77) (by decide +kernel) rfl
set_option maxRecDepth 100000 in
theorem pq99 : Cond.instanceMethod objectInit ∈ pw := pw_mem (i := 99) (by decide +kernel) rfl
set_option maxRecDepth 100000 in
theorem pq100 : Cond.code objectInit ⟨#[0xb1]⟩ 1 none ∈ pw := pw_mem (i := 100) (by rfl) rfl
set_option maxRecDepth 100000 in
theorem pq106 : Cond.methodLink RX1 3 objectInit ∈ pw := pw_mem (i := 106) (by decide +kernel) rfl
set_option maxRecDepth 100000 in
theorem pq107 : Cond.classLink RX1 9 RX3 ∈ pw := pw_mem (i := 107) (by decide +kernel) rfl
set_option maxRecDepth 100000 in
theorem pq109 : Cond.classLink RX1 17 RX0 ∈ pw := pw_mem (i := 109) (by decide +kernel) rfl
set_option maxRecDepth 100000 in
theorem pq111 : Cond.instantiable RX3 8 ∈ pw := pw_mem (i := 111) (by decide +kernel) rfl
set_option maxRecDepth 100000 in
theorem pq113 : Cond.instanceMethod yX3_init ∈ pw := pw_mem (i := 113) (by decide +kernel) rfl
set_option maxRecDepth 100000 in
theorem pq114 : Cond.code yX3_init cX3_init 1 none ∈ pw := pw_mem (i := 114) (by rfl) rfl
set_option maxRecDepth 100000 in
theorem pq115 : Cond.methodLink RX3 3 objectInit ∈ pw := pw_mem (i := 115) (by decide +kernel) rfl
set_option maxRecDepth 100000 in
theorem pq124 : Cond.fieldLink RX3 9 "MaskTouch$Mask" "words" "[J" ∈ pw := pw_mem (i := 124) (by decide +kernel) rfl
set_option maxRecDepth 100000 in
theorem pq163 : Cond.arrayClass .long ∈ pw := pw_mem (i := 163) (by decide +kernel) rfl
set_option maxRecDepth 100000 in
theorem pq164 : Cond.instantiable RX0 8 ∈ pw := pw_mem (i := 164) (by decide +kernel) rfl
set_option maxRecDepth 100000 in
theorem pq166 : Cond.instanceMethod yX0_init ∈ pw := pw_mem (i := 166) (by decide +kernel) rfl
set_option maxRecDepth 100000 in
theorem pq167 : Cond.code yX0_init cX0_init 1 none ∈ pw := pw_mem (i := 167) (by rfl) rfl
set_option maxRecDepth 100000 in
theorem pq168 : Cond.methodLink RX0 1 objectInit ∈ pw := pw_mem (i := 168) (by decide +kernel) rfl
set_option maxRecDepth 100000 in
theorem pq213 : Cond.fieldLink RX1 11 "MaskTouch$Field" "masks" "[LMaskTouch$Mask;" ∈ pw := pw_mem (i := 213) (by decide +kernel) rfl
set_option maxRecDepth 100000 in
theorem pq217 : Cond.fieldLink RX1 19 "MaskTouch$Field" "bodies" "[LMaskTouch$Body;" ∈ pw := pw_mem (i := 217) (by decide +kernel) rfl
set_option maxRecDepth 100000 in
theorem pq221 : Cond.fieldLink RX1 23 "MaskTouch$Field" "maskCount" "I" ∈ pw := pw_mem (i := 221) (by decide +kernel) rfl
set_option maxRecDepth 100000 in
theorem pq224 : Cond.fieldLink RX1 27 "MaskTouch$Field" "bodyCount" "I" ∈ pw := pw_mem (i := 224) (by decide +kernel) rfl
set_option maxRecDepth 100000 in
theorem pq228 : Cond.fieldLink RX1 30 "MaskTouch$Field" "tickCount" "I" ∈ pw := pw_mem (i := 228) (by decide +kernel) rfl
set_option maxHeartbeats 4000000 in
set_option maxRecDepth 100000 in
theorem c_X0_init (l : Launch) (dC : Nat → ClassId) (dI : Nat → Nat → Nat) (h0 : Nat) (sz : Nat) : Met l yX0_init (.code yX0_init cX0_init 1 none :: pw) ({ frames := 1, cells := 0, slots := 0, locals := 12 }) (pc (dC, dI) [.ref h0] sz [(h0, .inr (0, [.int 0, .int 0, .int 0, .int 0, .int 0, .int 0, .int 0, .int 0]))] []) (va_Qv (fun (_ : Unit) => True) (fun _ _ => True) (fun _ => False)) 0 0 (fun _ => False) := by
  refine Met.ofW (cc := cX0_init) (maxL := 1) (ret := none) (by decide +kernel) rfl ?_
  intro p e s m args below meth c s₁ B hml hv
  obtain ⟨rfl, hsz, hP, hK, hD0, hN⟩ := hv
  have hx := B.exec
  have hb := B.bytes
  have hr := B.returns
  have hts := fun w (h : w ∈ pw) => atoms_spec (ws := Cond.code yX0_init cX0_init 1 none :: pw) B.pre w (List.mem_cons_of_mem _ h)
  have hown : s.vm.findClass RX0 = some m.cls := findClass_of_methodNamed B.named
  have hlocks := B.notSynchronized
  have hin : meth.name = "<init>" := (name_of_methodNamed B.named B.method).1
  subst hsz
  have hD := hD0
  obtain ⟨H, hHe⟩ : ∃ H : Heap, H = s.heap := ⟨_, rfl⟩
  have hS : va_S (fun _ => False) s.heap H [] := by rw [hHe]; exact va_S.rf
  rw [← hHe] at hP
  have hl := lv_entry ([.ref h0]) (n := 1) (Nat.le_of_ble_eq_true rfl)
  rw [lg_entry_eq]
  generalize (lg_sl ([.ref h0]) ++ List.replicate (1 - (lg_sl ([.ref h0])).length) Slot.unset).toArray = ls at hl ⊢
  have hl : lv_has ls 1 [(0, .ref h0)] := hl
  rw [← hHe]
  refine lv_aload_n hx hb dX0_init_0 rfl (lv_at hl 0 rfl) ?_
  refine W.objInit hx hb hown (hts _ pq168) (hts _ pq99) (hts _ pq100) rfl (by rw [hml]; exact hl.1) rfl dX0_init_1 (Nat.le_of_ble_eq_true rfl) (Nat.le_of_ble_eq_true rfl) ?_
  refine W.eq (g2 := F0 m 4 ls []) rfl ?_
  exact W.vret hx hb hr (fun t ht hW => ⟨⟨(), rfl, trivial, trivial⟩, hS.F ht⟩) hS.2.2 dX0_init_4

set_option maxHeartbeats 4000000 in
set_option maxRecDepth 100000 in
theorem c_X3_init (l : Launch) (dC : Nat → ClassId) (dI : Nat → Nat → Nat) (h0 : Nat) (sz : Nat) : Met l yX3_init (.code yX3_init cX3_init 1 none :: pw) ({ frames := 1, cells := 1, slots := 80, locals := 12 }) (pc (dC, dI) [.ref h0] sz [(h0, .inr (3, [.int 0, .int 0, .null, .int 0, .int 0, .int 0, .int 0, .int 0]))] []) (va_Qv (fun (_ : Unit) => True) (fun _ t => ∃ (w : Nat), wB (dC, dI) [(h0, .inr (3, [.int 0, .int 0, .ref w, .int 0, .int 0, .int 0, .int 0, .int 0]))] [] (va_A [(h0, .inr (3, [.int 0, .int 0, .null, .int 0, .int 0, .int 0, .int 0, .int 0]))] sz) t) (va_A [(h0, .inr (3, [.int 0, .int 0, .null, .int 0, .int 0, .int 0, .int 0, .int 0]))] sz)) 1 80 (va_A [(h0, .inr (3, [.int 0, .int 0, .null, .int 0, .int 0, .int 0, .int 0, .int 0]))] sz) := by
  refine Met.ofW (cc := cX3_init) (maxL := 1) (ret := none) (by decide +kernel) rfl ?_
  intro p e s m args below meth c s₁ B hml hv
  obtain ⟨rfl, hsz, hP, hK, hD0, hN⟩ := hv
  have hx := B.exec
  have hb := B.bytes
  have hr := B.returns
  have hts := fun w (h : w ∈ pw) => atoms_spec (ws := Cond.code yX3_init cX3_init 1 none :: pw) B.pre w (List.mem_cons_of_mem _ h)
  have hown : s.vm.findClass RX3 = some m.cls := findClass_of_methodNamed B.named
  have hlocks := B.notSynchronized
  have hin : meth.name = "<init>" := (name_of_methodNamed B.named B.method).1
  subst hsz
  have hD := hD0.self (sz := s.heap.size)
  generalize hAe : va_A [(h0, .inr (3, [.int 0, .int 0, .null, .int 0, .int 0, .int 0, .int 0, .int 0]))] s.heap.size = A at hD ⊢
  have hA : ∀ q : Nat, s.heap.size ≤ q → A q := fun q h => by rw [← hAe]; exact Or.inr h
  obtain ⟨H, hHe⟩ : ∃ H : Heap, H = s.heap := ⟨_, rfl⟩
  have hS : va_S A s.heap H [] := by rw [hHe]; exact va_S.rf
  rw [← hHe] at hP
  have hl := lv_entry ([.ref h0]) (n := 1) (Nat.le_of_ble_eq_true rfl)
  rw [lg_entry_eq]
  generalize (lg_sl ([.ref h0]) ++ List.replicate (1 - (lg_sl ([.ref h0])).length) Slot.unset).toArray = ls at hl ⊢
  have hl : lv_has ls 1 [(0, .ref h0)] := hl
  rw [← hHe]
  refine lv_aload_n hx hb dX3_init_0 rfl (lv_at hl 0 rfl) ?_
  refine W.objInit hx hb hown (hts _ pq115) (hts _ pq99) (hts _ pq100) rfl (by rw [hml]; exact hl.1) rfl dX3_init_1 (Nat.le_of_ble_eq_true rfl) (Nat.le_of_ble_eq_true rfl) ?_
  refine W.eq (g2 := F0 m 4 ls []) rfl ?_
  refine lv_aload_n hx hb dX3_init_4 rfl (lv_at hl 0 rfl) ?_
  refine lv_bipush (v := 80) hx hb dX3_init_5 (by decide +kernel) ?_
  refine va_newa (atype := .long) (ty := .long) (a0 := (80, .inr (.inl (fun _ => 0)))) hx hb (hts _ pq163) rfl hK hP hD hS hA (fun _ => rfl) (by decide +kernel) (by decide +kernel) (Nat.le_of_ble_eq_true rfl) (Nat.le_of_ble_eq_true rfl) (Nat.le_of_ble_eq_true rfl) dX3_init_7 (fun q1 k2 H hK hP hD hS => ?_)
  have hP : va_P (dC, dI) vwCl [(h0, .inr (3, [.int 0, .int 0, .null, .int 0, .int 0, .int 0, .int 0, .int 0])), (q1, .inl (k2, 80, .inr (.inl (fun _ => 0))))] H := hP
  have hD : va_D A [(h0, .inr (3, [.int 0, .int 0, .null, .int 0, .int 0, .int 0, .int 0, .int 0])), (q1, .inl (k2, 80, .inr (.inl (fun _ => 0))))] := hD
  have hK : va_K (dC, dI) vwCl [(k2, .long)] s := hK
  refine W.widen (k := 1) (n := 80) (Nat.le_of_ble_eq_true rfl) (Nat.le_of_ble_eq_true rfl) ?_
  refine va_putF (D := (dC, dI)) (ci := 3) (v := .ref q1) (ty := tyX3 2) (C := RX3) (T := TX3) (N := 8) hx hb hts inX3 tyX3 tyX3_ok nmX3 hown hK hP hD hS 0 rfl rfl 2 (by decide) (hts _ pq124) (fun _ h9 => h9) rfl hin rfl (by decide +kernel) rfl rfl (Nat.le_of_ble_eq_true rfl) dX3_init_9 (fun H locs hP hD hS => ?_)
  have hP : va_P (dC, dI) vwCl [(h0, .inr (3, [.int 0, .int 0, .ref q1, .int 0, .int 0, .int 0, .int 0, .int 0])), (q1, .inl (k2, 80, .inr (.inl (fun _ => 0))))] H := hP
  have hD : va_D A [(h0, .inr (3, [.int 0, .int 0, .ref q1, .int 0, .int 0, .int 0, .int 0, .int 0])), (q1, .inl (k2, 80, .inr (.inl (fun _ => 0))))] := hD
  have hP9 := hP.sub (ws' := [(h0, .inr (3, [.int 0, .int 0, .ref q1, .int 0, .int 0, .int 0, .int 0, .int 0]))]) [0] rfl
  have hD9 := hD.sub (ws' := [(h0, .inr (3, [.int 0, .int 0, .ref q1, .int 0, .int 0, .int 0, .int 0, .int 0]))]) [0] (by decide) rfl
  have hK9 := hK.sub (tys' := []) [] rfl
  exact W.vret hx hb hr (fun t ht hW => ⟨⟨(), rfl, trivial, ⟨q1, by rw [ht]; exact hP9, va_K.moved hW.alike hK9, hD9⟩⟩, hS.F ht⟩) hS.2.2 dX3_init_12

set_option maxHeartbeats 4000000 in
set_option maxRecDepth 100000 in
theorem c_X1_init (l : Launch) (dC : Nat → ClassId) (dI : Nat → Nat → Nat) (h0 : Nat) (sz : Nat) : Met l yX1_init (.code yX1_init cX1_init 2 none :: pw) ({ frames := 2, cells := 28, slots := 802, locals := 32 }) (pc (dC, dI) [.ref h0] sz [(h0, .inr (1, [.null, .null, .int 0, .int 0, .int 0]))] []) (va_Qv (fun (_ : Unit) => True) (fun _ t => ∃ (m : Nat), ∃ (b : Nat), wB (dC, dI) [(h0, .inr (1, [.ref m, .ref b, .int 0, .int 0, .int 0]))] [] (va_A [(h0, .inr (1, [.null, .null, .int 0, .int 0, .int 0]))] sz) t) (va_A [(h0, .inr (1, [.null, .null, .int 0, .int 0, .int 0]))] sz)) 28 802 (va_A [(h0, .inr (1, [.null, .null, .int 0, .int 0, .int 0]))] sz) := by
  refine Met.ofW (cc := cX1_init) (maxL := 2) (ret := none) (by decide +kernel) rfl ?_
  intro p e s m args below meth c s₁ B hml hv
  obtain ⟨rfl, hsz, hP, hK, hD0, hN⟩ := hv
  have hx := B.exec
  have hb := B.bytes
  have hr := B.returns
  have hts := fun w (h : w ∈ pw) => atoms_spec (ws := Cond.code yX1_init cX1_init 2 none :: pw) B.pre w (List.mem_cons_of_mem _ h)
  have hown : s.vm.findClass RX1 = some m.cls := findClass_of_methodNamed B.named
  have hlocks := B.notSynchronized
  have hin : meth.name = "<init>" := (name_of_methodNamed B.named B.method).1
  subst hsz
  have hD := hD0.self (sz := s.heap.size)
  generalize hAe : va_A [(h0, .inr (1, [.null, .null, .int 0, .int 0, .int 0]))] s.heap.size = A at hD ⊢
  have hA : ∀ q : Nat, s.heap.size ≤ q → A q := fun q h => by rw [← hAe]; exact Or.inr h
  obtain ⟨H, hHe⟩ : ∃ H : Heap, H = s.heap := ⟨_, rfl⟩
  have hS : va_S A s.heap H [] := by rw [hHe]; exact va_S.rf
  rw [← hHe] at hP
  have hl := lv_entry ([.ref h0]) (n := 2) (Nat.le_of_ble_eq_true rfl)
  rw [lg_entry_eq]
  generalize (lg_sl ([.ref h0]) ++ List.replicate (2 - (lg_sl ([.ref h0])).length) Slot.unset).toArray = ls at hl ⊢
  have hl : lv_has ls 2 [(0, .ref h0)] := hl
  rw [← hHe]
  refine lv_aload_n hx hb dX1_init_0 rfl (lv_at hl 0 rfl) ?_
  refine W.objInit hx hb hown (hts _ pq106) (hts _ pq99) (hts _ pq100) rfl (by rw [hml]; exact hl.1) rfl dX1_init_1 (Nat.le_of_ble_eq_true rfl) (Nat.le_of_ble_eq_true rfl) ?_
  refine W.eq (g2 := F0 m 4 ls []) rfl ?_
  refine lv_aload_n hx hb dX1_init_4 rfl (lv_at hl 0 rfl) ?_
  refine lv_bipush (v := 8) hx hb dX1_init_5 (by decide +kernel) ?_
  refine va_newq (C := RX3) (n := 8) (N' := 8) hx hb hown (hts _ pq107) (xN_aoX3 hN) hK hP hD hS hA (by decide +kernel) (by decide +kernel) (Nat.le_of_ble_eq_true rfl) (Nat.le_of_ble_eq_true rfl) (Nat.le_of_ble_eq_true rfl) dX1_init_7 (fun q1 k2 H hK hP hD hS => ?_)
  have hP : va_P (dC, dI) vwCl [(h0, .inr (1, [.null, .null, .int 0, .int 0, .int 0])), (q1, .inl (k2, 8, .inr (.inr (.inr (.inr (fun _ => none))))))] H := hP
  have hD : va_D A [(h0, .inr (1, [.null, .null, .int 0, .int 0, .int 0])), (q1, .inl (k2, 8, .inr (.inr (.inr (.inr (fun _ => none))))))] := hD
  have hK : va_K (dC, dI) vwCl [(k2, .object RX3)] s := hK
  refine W.widen (k := 1) (n := 8) (Nat.le_of_ble_eq_true rfl) (Nat.le_of_ble_eq_true rfl) ?_
  refine va_putF (D := (dC, dI)) (ci := 1) (v := .ref q1) (ty := tyX1 0) (C := RX1) (T := TX1) (N := 5) hx hb hts inX1 tyX1 tyX1_ok nmX1 hown hK hP hD hS 0 rfl rfl 0 (by decide) (hts _ pq213) (fun _ h9 => h9) rfl hin rfl (by decide +kernel) rfl rfl (Nat.le_of_ble_eq_true rfl) dX1_init_10 (fun H locs hP hD hS => ?_)
  have hP : va_P (dC, dI) vwCl [(h0, .inr (1, [.ref q1, .null, .int 0, .int 0, .int 0])), (q1, .inl (k2, 8, .inr (.inr (.inr (.inr (fun _ => none))))))] H := hP
  have hD : va_D A [(h0, .inr (1, [.ref q1, .null, .int 0, .int 0, .int 0])), (q1, .inl (k2, 8, .inr (.inr (.inr (.inr (fun _ => none))))))] := hD
  refine lv_aload_n hx hb dX1_init_13 rfl (lv_at hl 0 rfl) ?_
  refine lv_bipush (v := 10) hx hb dX1_init_14 (by decide +kernel) ?_
  refine va_newq (C := RX0) (n := 10) (N' := 10) hx hb hown (hts _ pq109) (xN_aoX0 hN) hK hP hD hS hA (by decide +kernel) (by decide +kernel) (Nat.le_of_ble_eq_true rfl) (Nat.le_of_ble_eq_true rfl) (Nat.le_of_ble_eq_true rfl) dX1_init_16 (fun q3 k4 H hK hP hD hS => ?_)
  have hP : va_P (dC, dI) vwCl [(h0, .inr (1, [.ref q1, .null, .int 0, .int 0, .int 0])), (q1, .inl (k2, 8, .inr (.inr (.inr (.inr (fun _ => none)))))), (q3, .inl (k4, 10, .inr (.inr (.inr (.inr (fun _ => none))))))] H := hP
  have hD : va_D A [(h0, .inr (1, [.ref q1, .null, .int 0, .int 0, .int 0])), (q1, .inl (k2, 8, .inr (.inr (.inr (.inr (fun _ => none)))))), (q3, .inl (k4, 10, .inr (.inr (.inr (.inr (fun _ => none))))))] := hD
  have hK : va_K (dC, dI) vwCl [(k2, .object RX3), (k4, .object RX0)] s := hK
  refine W.widen (k := 2) (n := 18) (Nat.le_of_ble_eq_true rfl) (Nat.le_of_ble_eq_true rfl) ?_
  refine va_putF (D := (dC, dI)) (ci := 1) (v := .ref q3) (ty := tyX1 1) (C := RX1) (T := TX1) (N := 5) hx hb hts inX1 tyX1 tyX1_ok nmX1 hown hK hP hD hS 0 rfl rfl 1 (by decide) (hts _ pq217) (fun _ h9 => h9) rfl hin rfl (by decide +kernel) rfl rfl (Nat.le_of_ble_eq_true rfl) dX1_init_19 (fun H locs hP hD hS => ?_)
  have hP : va_P (dC, dI) vwCl [(h0, .inr (1, [.ref q1, .ref q3, .int 0, .int 0, .int 0])), (q1, .inl (k2, 8, .inr (.inr (.inr (.inr (fun _ => none)))))), (q3, .inl (k4, 10, .inr (.inr (.inr (.inr (fun _ => none))))))] H := hP
  have hD : va_D A [(h0, .inr (1, [.ref q1, .ref q3, .int 0, .int 0, .int 0])), (q1, .inl (k2, 8, .inr (.inr (.inr (.inr (fun _ => none)))))), (q3, .inl (k4, 10, .inr (.inr (.inr (.inr (fun _ => none))))))] := hD
  refine lv_aload_n hx hb dX1_init_22 rfl (lv_at hl 0 rfl) ?_
  refine lv_iconst (v := 0) hx hb dX1_init_23 (by decide +kernel) ?_
  refine va_put (D := (dC, dI)) (ci := 1) (v := .int 0) (ty := tyX1 2) (C := RX1) (T := TX1) (N := 5) hx hb hts inX1 tyX1 tyX1_ok nmX1 hown hK hP hD hS 0 rfl rfl 2 (by decide) (hts _ pq221) (fun _ h9 => h9) rfl (by decide +kernel) rfl rfl (Nat.le_of_ble_eq_true rfl) dX1_init_24 (fun H locs hP hD hS => ?_)
  have hP : va_P (dC, dI) vwCl [(h0, .inr (1, [.ref q1, .ref q3, .int 0, .int 0, .int 0])), (q1, .inl (k2, 8, .inr (.inr (.inr (.inr (fun _ => none)))))), (q3, .inl (k4, 10, .inr (.inr (.inr (.inr (fun _ => none))))))] H := hP
  have hD : va_D A [(h0, .inr (1, [.ref q1, .ref q3, .int 0, .int 0, .int 0])), (q1, .inl (k2, 8, .inr (.inr (.inr (.inr (fun _ => none)))))), (q3, .inl (k4, 10, .inr (.inr (.inr (.inr (fun _ => none))))))] := hD
  refine lv_aload_n hx hb dX1_init_27 rfl (lv_at hl 0 rfl) ?_
  refine lv_iconst (v := 0) hx hb dX1_init_28 (by decide +kernel) ?_
  refine va_put (D := (dC, dI)) (ci := 1) (v := .int 0) (ty := tyX1 3) (C := RX1) (T := TX1) (N := 5) hx hb hts inX1 tyX1 tyX1_ok nmX1 hown hK hP hD hS 0 rfl rfl 3 (by decide) (hts _ pq224) (fun _ h9 => h9) rfl (by decide +kernel) rfl rfl (Nat.le_of_ble_eq_true rfl) dX1_init_29 (fun H locs hP hD hS => ?_)
  have hP : va_P (dC, dI) vwCl [(h0, .inr (1, [.ref q1, .ref q3, .int 0, .int 0, .int 0])), (q1, .inl (k2, 8, .inr (.inr (.inr (.inr (fun _ => none)))))), (q3, .inl (k4, 10, .inr (.inr (.inr (.inr (fun _ => none))))))] H := hP
  have hD : va_D A [(h0, .inr (1, [.ref q1, .ref q3, .int 0, .int 0, .int 0])), (q1, .inl (k2, 8, .inr (.inr (.inr (.inr (fun _ => none)))))), (q3, .inl (k4, 10, .inr (.inr (.inr (.inr (fun _ => none))))))] := hD
  refine lv_aload_n hx hb dX1_init_32 rfl (lv_at hl 0 rfl) ?_
  refine lv_iconst (v := 0) hx hb dX1_init_33 (by decide +kernel) ?_
  refine va_put (D := (dC, dI)) (ci := 1) (v := .int 0) (ty := tyX1 4) (C := RX1) (T := TX1) (N := 5) hx hb hts inX1 tyX1 tyX1_ok nmX1 hown hK hP hD hS 0 rfl rfl 4 (by decide) (hts _ pq228) (fun _ h9 => h9) rfl (by decide +kernel) rfl rfl (Nat.le_of_ble_eq_true rfl) dX1_init_34 (fun H locs hP hD hS => ?_)
  have hP : va_P (dC, dI) vwCl [(h0, .inr (1, [.ref q1, .ref q3, .int 0, .int 0, .int 0])), (q1, .inl (k2, 8, .inr (.inr (.inr (.inr (fun _ => none)))))), (q3, .inl (k4, 10, .inr (.inr (.inr (.inr (fun _ => none))))))] H := hP
  have hD : va_D A [(h0, .inr (1, [.ref q1, .ref q3, .int 0, .int 0, .int 0])), (q1, .inl (k2, 8, .inr (.inr (.inr (.inr (fun _ => none)))))), (q3, .inl (k4, 10, .inr (.inr (.inr (.inr (fun _ => none))))))] := hD
  refine lv_iconst (v := 0) hx hb dX1_init_37 (by decide +kernel) ?_
  refine lv_istore_n (lv' := [(1, .int 0), (0, .ref h0)]) hx hb dX1_init_38 rfl hl (by decide) rfl (fun ls hl => ?_)
  refine lv_iload_n hx hb dX1_init_39 rfl (lv_at hl 0 rfl) ?_
  refine lv_bipush (v := 8) hx hb dX1_init_40 (by decide +kernel) ?_
  refine lv_icmp_ge (tgt := 64) hx hb dX1_init_42 (by decide) (fun c5 => absurd c5 (by decide +kernel)) (fun c5 => ?_)
  refine lv_aload_n hx hb dX1_init_45 rfl (lv_at hl 1 rfl) ?_
  refine va_get (D := (dC, dI)) (ci := 1) (v := .ref q1) (C := RX1) (T := TX1) (N := 5) hx hb hts inX1 hown hK hP 0 rfl rfl 0 (by decide) (hts _ pq213) (fun _ h9 => h9) rfl dX1_init_46 ?_
  refine lv_iload_n hx hb dX1_init_49 rfl (lv_at hl 0 rfl) ?_
  refine va_new (ci := 3) (fs := [.int 0, .int 0, .null, .int 0, .int 0, .int 0, .int 0, .int 0]) (C := RX3) (T := TX3) (N := 8) hx hb hts inX3 tyX3 tyX3_ok hown (hts _ pq107) (hts _ pq111) (hts _ pq76) hK hP hD hS hA rfl dfX3 (Nat.le_of_ble_eq_true rfl) (Nat.le_of_ble_eq_true rfl) dX1_init_50 (fun q6 H hP hD hS => ?_)
  have hP : va_P (dC, dI) vwCl [(h0, .inr (1, [.ref q1, .ref q3, .int 0, .int 0, .int 0])), (q1, .inl (k2, 8, .inr (.inr (.inr (.inr (fun _ => none)))))), (q3, .inl (k4, 10, .inr (.inr (.inr (.inr (fun _ => none)))))), (q6, .inr (3, [.int 0, .int 0, .null, .int 0, .int 0, .int 0, .int 0, .int 0]))] H := hP
  have hD : va_D A [(h0, .inr (1, [.ref q1, .ref q3, .int 0, .int 0, .int 0])), (q1, .inl (k2, 8, .inr (.inr (.inr (.inr (fun _ => none)))))), (q3, .inl (k4, 10, .inr (.inr (.inr (.inr (fun _ => none)))))), (q6, .inr (3, [.int 0, .int 0, .null, .int 0, .int 0, .int 0, .int 0, .int 0]))] := hD
  refine W.widen (k := 3) (n := 26) (Nat.le_of_ble_eq_true rfl) (Nat.le_of_ble_eq_true rfl) ?_
  refine lv_dup hx hb dX1_init_53 rfl ?_
  have hPc := hP.sub (ws' := [(q6, .inr (3, [.int 0, .int 0, .null, .int 0, .int 0, .int 0, .int 0, .int 0]))]) [3] rfl
  have hDc := hD.sub (ws' := [(q6, .inr (3, [.int 0, .int 0, .null, .int 0, .int 0, .int 0, .int 0, .int 0]))]) [3] (by decide) rfl
  have hKc := hK.sub (tys' := []) [] rfl
  have hFc := va_free (wc := [(q6, .inr (3, [.int 0, .int 0, .null, .int 0, .int 0, .int 0, .int 0, .int 0]))]) hD hS hA [3] rfl
  refine va_callv (va_runIN (As := []) (rest := [.ref q6, .int 0, .ref q1]) ⟨hx, hb, hml, hown, hts⟩ (c_X3_init l dC dI q6 H.size  ) ⟨va_cnB 0 hts (gI pq114) rfl rfl rfl (xN_X1_33 hN) (hts _ pq76) (by decide +kernel) ⟨(Nat.le_of_ble_eq_true rfl), (Nat.le_of_ble_eq_true rfl)⟩, rfl, hts _ pq113⟩ (pc_S hPc hDc hKc hN) rfl rfl hl.1 rfl (lv_room (Nat.le_of_ble_eq_true rfl)) dX1_init_54 ⟨(Nat.le_of_ble_eq_true rfl), (Nat.le_of_ble_eq_true rfl)⟩) hS (fun q _ h => hFc q h) hFc (fun u t H1 locs ht hvm hw hB hz1 hk1 hS => ?_)
  obtain ⟨q7, hP1, hK1, hD1⟩ := hB
  rw [ht] at hP1
  have hK1 := va_K.moved hvm.symm hK1
  obtain ⟨hP, hD⟩ := va_join (wr := [(h0, .inr (1, [.ref q1, .ref q3, .int 0, .int 0, .int 0])), (q1, .inl (k2, 8, .inr (.inr (.inr (.inr (fun _ => none)))))), (q3, .inl (k4, 10, .inr (.inr (.inr (.inr (fun _ => none))))))]) (w1 := [(q6, .inr (3, [.int 0, .int 0, .ref q7, .int 0, .int 0, .int 0, .int 0, .int 0]))]) hP hD [3] [0, 1, 2] rfl rfl (by decide) (by decide) hk1 hFc hP1 hD1
  generalize H1 = H at hP hS ⊢
  have hP : va_P (dC, dI) vwCl [(h0, .inr (1, [.ref q1, .ref q3, .int 0, .int 0, .int 0])), (q1, .inl (k2, 8, .inr (.inr (.inr (.inr (fun _ => none)))))), (q3, .inl (k4, 10, .inr (.inr (.inr (.inr (fun _ => none)))))), (q6, .inr (3, [.int 0, .int 0, .ref q7, .int 0, .int 0, .int 0, .int 0, .int 0]))] H := hP
  have hD : va_D A [(h0, .inr (1, [.ref q1, .ref q3, .int 0, .int 0, .int 0])), (q1, .inl (k2, 8, .inr (.inr (.inr (.inr (fun _ => none)))))), (q3, .inl (k4, 10, .inr (.inr (.inr (.inr (fun _ => none)))))), (q6, .inr (3, [.int 0, .int 0, .ref q7, .int 0, .int 0, .int 0, .int 0, .int 0]))] := hD
  refine W.widen (k := 4) (n := 106) (Nat.le_of_ble_eq_true rfl) (Nat.le_of_ble_eq_true rfl) ?_
  refine va_astq hx hb hK hP hD hS 1 0 3 3 rfl rfl rfl rfl (in_d (by decide +kernel)) dX1_init_57 (fun H locs hP hD hS => ?_)
  obtain ⟨f8, hP, hD⟩ : ∃ f8 : Nat → Option Nat, va_P (dC, dI) vwCl [(h0, .inr (1, [.ref q1, .ref q3, .int 0, .int 0, .int 0])), (q1, .inl (k2, 8, .inr (.inr (.inr (.inr f8))))), (q3, .inl (k4, 10, .inr (.inr (.inr (.inr (fun _ => none)))))), (q6, .inr (3, [.int 0, .int 0, .ref q7, .int 0, .int 0, .int 0, .int 0, .int 0]))] H ∧ va_D A [(h0, .inr (1, [.ref q1, .ref q3, .int 0, .int 0, .int 0])), (q1, .inl (k2, 8, .inr (.inr (.inr (.inr f8))))), (q3, .inl (k4, 10, .inr (.inr (.inr (.inr (fun _ => none)))))), (q6, .inr (3, [.int 0, .int 0, .ref q7, .int 0, .int 0, .int 0, .int 0, .int 0]))] := ⟨_, hP, hD⟩
  have hP := hP.sub (ws' := [(h0, .inr (1, [.ref q1, .ref q3, .int 0, .int 0, .int 0])), (q1, .inl (k2, 8, .inr (.inr (.inr (.inr f8))))), (q3, .inl (k4, 10, .inr (.inr (.inr (.inr (fun _ => none))))))]) [0, 1, 2] rfl
  have hD := hD.sub (ws' := [(h0, .inr (1, [.ref q1, .ref q3, .int 0, .int 0, .int 0])), (q1, .inl (k2, 8, .inr (.inr (.inr (.inr f8))))), (q3, .inl (k4, 10, .inr (.inr (.inr (.inr (fun _ => none))))))]) [0, 1, 2] (by decide) rfl
  refine lv_iinc (v := 1) (lv' := [(1, .int 1), (0, .ref h0)]) hx hb dX1_init_58 hl (k := 0) rfl (by decide +kernel) (by decide) rfl (fun ls hl => ?_)
  refine lv_goto (tgt := 39) hx hb dX1_init_61 (by decide) ?_
  refine lv_iload_n hx hb dX1_init_39 rfl (lv_at hl 0 rfl) ?_
  refine lv_bipush (v := 8) hx hb dX1_init_40 (by decide +kernel) ?_
  refine lv_icmp_ge (tgt := 64) hx hb dX1_init_42 (by decide) (fun c9 => absurd c9 (by decide +kernel)) (fun c9 => ?_)
  refine lv_aload_n hx hb dX1_init_45 rfl (lv_at hl 1 rfl) ?_
  refine va_get (D := (dC, dI)) (ci := 1) (v := .ref q1) (C := RX1) (T := TX1) (N := 5) hx hb hts inX1 hown hK hP 0 rfl rfl 0 (by decide) (hts _ pq213) (fun _ h9 => h9) rfl dX1_init_46 ?_
  refine lv_iload_n hx hb dX1_init_49 rfl (lv_at hl 0 rfl) ?_
  refine va_new (ci := 3) (fs := [.int 0, .int 0, .null, .int 0, .int 0, .int 0, .int 0, .int 0]) (C := RX3) (T := TX3) (N := 8) hx hb hts inX3 tyX3 tyX3_ok hown (hts _ pq107) (hts _ pq111) (hts _ pq76) hK hP hD hS hA rfl dfX3 (Nat.le_of_ble_eq_true rfl) (Nat.le_of_ble_eq_true rfl) dX1_init_50 (fun q10 H hP hD hS => ?_)
  have hP : va_P (dC, dI) vwCl [(h0, .inr (1, [.ref q1, .ref q3, .int 0, .int 0, .int 0])), (q1, .inl (k2, 8, .inr (.inr (.inr (.inr f8))))), (q3, .inl (k4, 10, .inr (.inr (.inr (.inr (fun _ => none)))))), (q10, .inr (3, [.int 0, .int 0, .null, .int 0, .int 0, .int 0, .int 0, .int 0]))] H := hP
  have hD : va_D A [(h0, .inr (1, [.ref q1, .ref q3, .int 0, .int 0, .int 0])), (q1, .inl (k2, 8, .inr (.inr (.inr (.inr f8))))), (q3, .inl (k4, 10, .inr (.inr (.inr (.inr (fun _ => none)))))), (q10, .inr (3, [.int 0, .int 0, .null, .int 0, .int 0, .int 0, .int 0, .int 0]))] := hD
  refine W.widen (k := 5) (n := 114) (Nat.le_of_ble_eq_true rfl) (Nat.le_of_ble_eq_true rfl) ?_
  refine lv_dup hx hb dX1_init_53 rfl ?_
  have hPc := hP.sub (ws' := [(q10, .inr (3, [.int 0, .int 0, .null, .int 0, .int 0, .int 0, .int 0, .int 0]))]) [3] rfl
  have hDc := hD.sub (ws' := [(q10, .inr (3, [.int 0, .int 0, .null, .int 0, .int 0, .int 0, .int 0, .int 0]))]) [3] (by decide) rfl
  have hKc := hK.sub (tys' := []) [] rfl
  have hFc := va_free (wc := [(q10, .inr (3, [.int 0, .int 0, .null, .int 0, .int 0, .int 0, .int 0, .int 0]))]) hD hS hA [3] rfl
  refine va_callv (va_runIN (As := []) (rest := [.ref q10, .int 1, .ref q1]) ⟨hx, hb, hml, hown, hts⟩ (c_X3_init l dC dI q10 H.size  ) ⟨va_cnB 0 hts (gI pq114) rfl rfl rfl (xN_X1_33 hN) (hts _ pq76) (by decide +kernel) ⟨(Nat.le_of_ble_eq_true rfl), (Nat.le_of_ble_eq_true rfl)⟩, rfl, hts _ pq113⟩ (pc_S hPc hDc hKc hN) rfl rfl hl.1 rfl (lv_room (Nat.le_of_ble_eq_true rfl)) dX1_init_54 ⟨(Nat.le_of_ble_eq_true rfl), (Nat.le_of_ble_eq_true rfl)⟩) hS (fun q _ h => hFc q h) hFc (fun u t H1 locs ht hvm hw hB hz1 hk1 hS => ?_)
  obtain ⟨q11, hP1, hK1, hD1⟩ := hB
  rw [ht] at hP1
  have hK1 := va_K.moved hvm.symm hK1
  obtain ⟨hP, hD⟩ := va_join (wr := [(h0, .inr (1, [.ref q1, .ref q3, .int 0, .int 0, .int 0])), (q1, .inl (k2, 8, .inr (.inr (.inr (.inr f8))))), (q3, .inl (k4, 10, .inr (.inr (.inr (.inr (fun _ => none))))))]) (w1 := [(q10, .inr (3, [.int 0, .int 0, .ref q11, .int 0, .int 0, .int 0, .int 0, .int 0]))]) hP hD [3] [0, 1, 2] rfl rfl (by decide) (by decide) hk1 hFc hP1 hD1
  generalize H1 = H at hP hS ⊢
  have hP : va_P (dC, dI) vwCl [(h0, .inr (1, [.ref q1, .ref q3, .int 0, .int 0, .int 0])), (q1, .inl (k2, 8, .inr (.inr (.inr (.inr f8))))), (q3, .inl (k4, 10, .inr (.inr (.inr (.inr (fun _ => none)))))), (q10, .inr (3, [.int 0, .int 0, .ref q11, .int 0, .int 0, .int 0, .int 0, .int 0]))] H := hP
  have hD : va_D A [(h0, .inr (1, [.ref q1, .ref q3, .int 0, .int 0, .int 0])), (q1, .inl (k2, 8, .inr (.inr (.inr (.inr f8))))), (q3, .inl (k4, 10, .inr (.inr (.inr (.inr (fun _ => none)))))), (q10, .inr (3, [.int 0, .int 0, .ref q11, .int 0, .int 0, .int 0, .int 0, .int 0]))] := hD
  refine W.widen (k := 6) (n := 194) (Nat.le_of_ble_eq_true rfl) (Nat.le_of_ble_eq_true rfl) ?_
  refine va_astq hx hb hK hP hD hS 1 0 3 3 rfl rfl rfl rfl (in_d (by decide +kernel)) dX1_init_57 (fun H locs hP hD hS => ?_)
  obtain ⟨f12, hP, hD⟩ : ∃ f12 : Nat → Option Nat, va_P (dC, dI) vwCl [(h0, .inr (1, [.ref q1, .ref q3, .int 0, .int 0, .int 0])), (q1, .inl (k2, 8, .inr (.inr (.inr (.inr f12))))), (q3, .inl (k4, 10, .inr (.inr (.inr (.inr (fun _ => none)))))), (q10, .inr (3, [.int 0, .int 0, .ref q11, .int 0, .int 0, .int 0, .int 0, .int 0]))] H ∧ va_D A [(h0, .inr (1, [.ref q1, .ref q3, .int 0, .int 0, .int 0])), (q1, .inl (k2, 8, .inr (.inr (.inr (.inr f12))))), (q3, .inl (k4, 10, .inr (.inr (.inr (.inr (fun _ => none)))))), (q10, .inr (3, [.int 0, .int 0, .ref q11, .int 0, .int 0, .int 0, .int 0, .int 0]))] := ⟨_, hP, hD⟩
  have hP := hP.sub (ws' := [(h0, .inr (1, [.ref q1, .ref q3, .int 0, .int 0, .int 0])), (q1, .inl (k2, 8, .inr (.inr (.inr (.inr f12))))), (q3, .inl (k4, 10, .inr (.inr (.inr (.inr (fun _ => none))))))]) [0, 1, 2] rfl
  have hD := hD.sub (ws' := [(h0, .inr (1, [.ref q1, .ref q3, .int 0, .int 0, .int 0])), (q1, .inl (k2, 8, .inr (.inr (.inr (.inr f12))))), (q3, .inl (k4, 10, .inr (.inr (.inr (.inr (fun _ => none))))))]) [0, 1, 2] (by decide) rfl
  refine lv_iinc (v := 2) (lv' := [(1, .int 2), (0, .ref h0)]) hx hb dX1_init_58 hl (k := 0) rfl (by decide +kernel) (by decide) rfl (fun ls hl => ?_)
  refine lv_goto (tgt := 39) hx hb dX1_init_61 (by decide) ?_
  refine lv_iload_n hx hb dX1_init_39 rfl (lv_at hl 0 rfl) ?_
  refine lv_bipush (v := 8) hx hb dX1_init_40 (by decide +kernel) ?_
  refine lv_icmp_ge (tgt := 64) hx hb dX1_init_42 (by decide) (fun c13 => absurd c13 (by decide +kernel)) (fun c13 => ?_)
  refine lv_aload_n hx hb dX1_init_45 rfl (lv_at hl 1 rfl) ?_
  refine va_get (D := (dC, dI)) (ci := 1) (v := .ref q1) (C := RX1) (T := TX1) (N := 5) hx hb hts inX1 hown hK hP 0 rfl rfl 0 (by decide) (hts _ pq213) (fun _ h9 => h9) rfl dX1_init_46 ?_
  refine lv_iload_n hx hb dX1_init_49 rfl (lv_at hl 0 rfl) ?_
  refine va_new (ci := 3) (fs := [.int 0, .int 0, .null, .int 0, .int 0, .int 0, .int 0, .int 0]) (C := RX3) (T := TX3) (N := 8) hx hb hts inX3 tyX3 tyX3_ok hown (hts _ pq107) (hts _ pq111) (hts _ pq76) hK hP hD hS hA rfl dfX3 (Nat.le_of_ble_eq_true rfl) (Nat.le_of_ble_eq_true rfl) dX1_init_50 (fun q14 H hP hD hS => ?_)
  have hP : va_P (dC, dI) vwCl [(h0, .inr (1, [.ref q1, .ref q3, .int 0, .int 0, .int 0])), (q1, .inl (k2, 8, .inr (.inr (.inr (.inr f12))))), (q3, .inl (k4, 10, .inr (.inr (.inr (.inr (fun _ => none)))))), (q14, .inr (3, [.int 0, .int 0, .null, .int 0, .int 0, .int 0, .int 0, .int 0]))] H := hP
  have hD : va_D A [(h0, .inr (1, [.ref q1, .ref q3, .int 0, .int 0, .int 0])), (q1, .inl (k2, 8, .inr (.inr (.inr (.inr f12))))), (q3, .inl (k4, 10, .inr (.inr (.inr (.inr (fun _ => none)))))), (q14, .inr (3, [.int 0, .int 0, .null, .int 0, .int 0, .int 0, .int 0, .int 0]))] := hD
  refine W.widen (k := 7) (n := 202) (Nat.le_of_ble_eq_true rfl) (Nat.le_of_ble_eq_true rfl) ?_
  refine lv_dup hx hb dX1_init_53 rfl ?_
  have hPc := hP.sub (ws' := [(q14, .inr (3, [.int 0, .int 0, .null, .int 0, .int 0, .int 0, .int 0, .int 0]))]) [3] rfl
  have hDc := hD.sub (ws' := [(q14, .inr (3, [.int 0, .int 0, .null, .int 0, .int 0, .int 0, .int 0, .int 0]))]) [3] (by decide) rfl
  have hKc := hK.sub (tys' := []) [] rfl
  have hFc := va_free (wc := [(q14, .inr (3, [.int 0, .int 0, .null, .int 0, .int 0, .int 0, .int 0, .int 0]))]) hD hS hA [3] rfl
  refine va_callv (va_runIN (As := []) (rest := [.ref q14, .int 2, .ref q1]) ⟨hx, hb, hml, hown, hts⟩ (c_X3_init l dC dI q14 H.size  ) ⟨va_cnB 0 hts (gI pq114) rfl rfl rfl (xN_X1_33 hN) (hts _ pq76) (by decide +kernel) ⟨(Nat.le_of_ble_eq_true rfl), (Nat.le_of_ble_eq_true rfl)⟩, rfl, hts _ pq113⟩ (pc_S hPc hDc hKc hN) rfl rfl hl.1 rfl (lv_room (Nat.le_of_ble_eq_true rfl)) dX1_init_54 ⟨(Nat.le_of_ble_eq_true rfl), (Nat.le_of_ble_eq_true rfl)⟩) hS (fun q _ h => hFc q h) hFc (fun u t H1 locs ht hvm hw hB hz1 hk1 hS => ?_)
  obtain ⟨q15, hP1, hK1, hD1⟩ := hB
  rw [ht] at hP1
  have hK1 := va_K.moved hvm.symm hK1
  obtain ⟨hP, hD⟩ := va_join (wr := [(h0, .inr (1, [.ref q1, .ref q3, .int 0, .int 0, .int 0])), (q1, .inl (k2, 8, .inr (.inr (.inr (.inr f12))))), (q3, .inl (k4, 10, .inr (.inr (.inr (.inr (fun _ => none))))))]) (w1 := [(q14, .inr (3, [.int 0, .int 0, .ref q15, .int 0, .int 0, .int 0, .int 0, .int 0]))]) hP hD [3] [0, 1, 2] rfl rfl (by decide) (by decide) hk1 hFc hP1 hD1
  generalize H1 = H at hP hS ⊢
  have hP : va_P (dC, dI) vwCl [(h0, .inr (1, [.ref q1, .ref q3, .int 0, .int 0, .int 0])), (q1, .inl (k2, 8, .inr (.inr (.inr (.inr f12))))), (q3, .inl (k4, 10, .inr (.inr (.inr (.inr (fun _ => none)))))), (q14, .inr (3, [.int 0, .int 0, .ref q15, .int 0, .int 0, .int 0, .int 0, .int 0]))] H := hP
  have hD : va_D A [(h0, .inr (1, [.ref q1, .ref q3, .int 0, .int 0, .int 0])), (q1, .inl (k2, 8, .inr (.inr (.inr (.inr f12))))), (q3, .inl (k4, 10, .inr (.inr (.inr (.inr (fun _ => none)))))), (q14, .inr (3, [.int 0, .int 0, .ref q15, .int 0, .int 0, .int 0, .int 0, .int 0]))] := hD
  refine W.widen (k := 8) (n := 282) (Nat.le_of_ble_eq_true rfl) (Nat.le_of_ble_eq_true rfl) ?_
  refine va_astq hx hb hK hP hD hS 1 0 3 3 rfl rfl rfl rfl (in_d (by decide +kernel)) dX1_init_57 (fun H locs hP hD hS => ?_)
  obtain ⟨f16, hP, hD⟩ : ∃ f16 : Nat → Option Nat, va_P (dC, dI) vwCl [(h0, .inr (1, [.ref q1, .ref q3, .int 0, .int 0, .int 0])), (q1, .inl (k2, 8, .inr (.inr (.inr (.inr f16))))), (q3, .inl (k4, 10, .inr (.inr (.inr (.inr (fun _ => none)))))), (q14, .inr (3, [.int 0, .int 0, .ref q15, .int 0, .int 0, .int 0, .int 0, .int 0]))] H ∧ va_D A [(h0, .inr (1, [.ref q1, .ref q3, .int 0, .int 0, .int 0])), (q1, .inl (k2, 8, .inr (.inr (.inr (.inr f16))))), (q3, .inl (k4, 10, .inr (.inr (.inr (.inr (fun _ => none)))))), (q14, .inr (3, [.int 0, .int 0, .ref q15, .int 0, .int 0, .int 0, .int 0, .int 0]))] := ⟨_, hP, hD⟩
  have hP := hP.sub (ws' := [(h0, .inr (1, [.ref q1, .ref q3, .int 0, .int 0, .int 0])), (q1, .inl (k2, 8, .inr (.inr (.inr (.inr f16))))), (q3, .inl (k4, 10, .inr (.inr (.inr (.inr (fun _ => none))))))]) [0, 1, 2] rfl
  have hD := hD.sub (ws' := [(h0, .inr (1, [.ref q1, .ref q3, .int 0, .int 0, .int 0])), (q1, .inl (k2, 8, .inr (.inr (.inr (.inr f16))))), (q3, .inl (k4, 10, .inr (.inr (.inr (.inr (fun _ => none))))))]) [0, 1, 2] (by decide) rfl
  refine lv_iinc (v := 3) (lv' := [(1, .int 3), (0, .ref h0)]) hx hb dX1_init_58 hl (k := 0) rfl (by decide +kernel) (by decide) rfl (fun ls hl => ?_)
  refine lv_goto (tgt := 39) hx hb dX1_init_61 (by decide) ?_
  refine lv_iload_n hx hb dX1_init_39 rfl (lv_at hl 0 rfl) ?_
  refine lv_bipush (v := 8) hx hb dX1_init_40 (by decide +kernel) ?_
  refine lv_icmp_ge (tgt := 64) hx hb dX1_init_42 (by decide) (fun c17 => absurd c17 (by decide +kernel)) (fun c17 => ?_)
  refine lv_aload_n hx hb dX1_init_45 rfl (lv_at hl 1 rfl) ?_
  refine va_get (D := (dC, dI)) (ci := 1) (v := .ref q1) (C := RX1) (T := TX1) (N := 5) hx hb hts inX1 hown hK hP 0 rfl rfl 0 (by decide) (hts _ pq213) (fun _ h9 => h9) rfl dX1_init_46 ?_
  refine lv_iload_n hx hb dX1_init_49 rfl (lv_at hl 0 rfl) ?_
  refine va_new (ci := 3) (fs := [.int 0, .int 0, .null, .int 0, .int 0, .int 0, .int 0, .int 0]) (C := RX3) (T := TX3) (N := 8) hx hb hts inX3 tyX3 tyX3_ok hown (hts _ pq107) (hts _ pq111) (hts _ pq76) hK hP hD hS hA rfl dfX3 (Nat.le_of_ble_eq_true rfl) (Nat.le_of_ble_eq_true rfl) dX1_init_50 (fun q18 H hP hD hS => ?_)
  have hP : va_P (dC, dI) vwCl [(h0, .inr (1, [.ref q1, .ref q3, .int 0, .int 0, .int 0])), (q1, .inl (k2, 8, .inr (.inr (.inr (.inr f16))))), (q3, .inl (k4, 10, .inr (.inr (.inr (.inr (fun _ => none)))))), (q18, .inr (3, [.int 0, .int 0, .null, .int 0, .int 0, .int 0, .int 0, .int 0]))] H := hP
  have hD : va_D A [(h0, .inr (1, [.ref q1, .ref q3, .int 0, .int 0, .int 0])), (q1, .inl (k2, 8, .inr (.inr (.inr (.inr f16))))), (q3, .inl (k4, 10, .inr (.inr (.inr (.inr (fun _ => none)))))), (q18, .inr (3, [.int 0, .int 0, .null, .int 0, .int 0, .int 0, .int 0, .int 0]))] := hD
  refine W.widen (k := 9) (n := 290) (Nat.le_of_ble_eq_true rfl) (Nat.le_of_ble_eq_true rfl) ?_
  refine lv_dup hx hb dX1_init_53 rfl ?_
  have hPc := hP.sub (ws' := [(q18, .inr (3, [.int 0, .int 0, .null, .int 0, .int 0, .int 0, .int 0, .int 0]))]) [3] rfl
  have hDc := hD.sub (ws' := [(q18, .inr (3, [.int 0, .int 0, .null, .int 0, .int 0, .int 0, .int 0, .int 0]))]) [3] (by decide) rfl
  have hKc := hK.sub (tys' := []) [] rfl
  have hFc := va_free (wc := [(q18, .inr (3, [.int 0, .int 0, .null, .int 0, .int 0, .int 0, .int 0, .int 0]))]) hD hS hA [3] rfl
  refine va_callv (va_runIN (As := []) (rest := [.ref q18, .int 3, .ref q1]) ⟨hx, hb, hml, hown, hts⟩ (c_X3_init l dC dI q18 H.size  ) ⟨va_cnB 0 hts (gI pq114) rfl rfl rfl (xN_X1_33 hN) (hts _ pq76) (by decide +kernel) ⟨(Nat.le_of_ble_eq_true rfl), (Nat.le_of_ble_eq_true rfl)⟩, rfl, hts _ pq113⟩ (pc_S hPc hDc hKc hN) rfl rfl hl.1 rfl (lv_room (Nat.le_of_ble_eq_true rfl)) dX1_init_54 ⟨(Nat.le_of_ble_eq_true rfl), (Nat.le_of_ble_eq_true rfl)⟩) hS (fun q _ h => hFc q h) hFc (fun u t H1 locs ht hvm hw hB hz1 hk1 hS => ?_)
  obtain ⟨q19, hP1, hK1, hD1⟩ := hB
  rw [ht] at hP1
  have hK1 := va_K.moved hvm.symm hK1
  obtain ⟨hP, hD⟩ := va_join (wr := [(h0, .inr (1, [.ref q1, .ref q3, .int 0, .int 0, .int 0])), (q1, .inl (k2, 8, .inr (.inr (.inr (.inr f16))))), (q3, .inl (k4, 10, .inr (.inr (.inr (.inr (fun _ => none))))))]) (w1 := [(q18, .inr (3, [.int 0, .int 0, .ref q19, .int 0, .int 0, .int 0, .int 0, .int 0]))]) hP hD [3] [0, 1, 2] rfl rfl (by decide) (by decide) hk1 hFc hP1 hD1
  generalize H1 = H at hP hS ⊢
  have hP : va_P (dC, dI) vwCl [(h0, .inr (1, [.ref q1, .ref q3, .int 0, .int 0, .int 0])), (q1, .inl (k2, 8, .inr (.inr (.inr (.inr f16))))), (q3, .inl (k4, 10, .inr (.inr (.inr (.inr (fun _ => none)))))), (q18, .inr (3, [.int 0, .int 0, .ref q19, .int 0, .int 0, .int 0, .int 0, .int 0]))] H := hP
  have hD : va_D A [(h0, .inr (1, [.ref q1, .ref q3, .int 0, .int 0, .int 0])), (q1, .inl (k2, 8, .inr (.inr (.inr (.inr f16))))), (q3, .inl (k4, 10, .inr (.inr (.inr (.inr (fun _ => none)))))), (q18, .inr (3, [.int 0, .int 0, .ref q19, .int 0, .int 0, .int 0, .int 0, .int 0]))] := hD
  refine W.widen (k := 10) (n := 370) (Nat.le_of_ble_eq_true rfl) (Nat.le_of_ble_eq_true rfl) ?_
  refine va_astq hx hb hK hP hD hS 1 0 3 3 rfl rfl rfl rfl (in_d (by decide +kernel)) dX1_init_57 (fun H locs hP hD hS => ?_)
  obtain ⟨f20, hP, hD⟩ : ∃ f20 : Nat → Option Nat, va_P (dC, dI) vwCl [(h0, .inr (1, [.ref q1, .ref q3, .int 0, .int 0, .int 0])), (q1, .inl (k2, 8, .inr (.inr (.inr (.inr f20))))), (q3, .inl (k4, 10, .inr (.inr (.inr (.inr (fun _ => none)))))), (q18, .inr (3, [.int 0, .int 0, .ref q19, .int 0, .int 0, .int 0, .int 0, .int 0]))] H ∧ va_D A [(h0, .inr (1, [.ref q1, .ref q3, .int 0, .int 0, .int 0])), (q1, .inl (k2, 8, .inr (.inr (.inr (.inr f20))))), (q3, .inl (k4, 10, .inr (.inr (.inr (.inr (fun _ => none)))))), (q18, .inr (3, [.int 0, .int 0, .ref q19, .int 0, .int 0, .int 0, .int 0, .int 0]))] := ⟨_, hP, hD⟩
  have hP := hP.sub (ws' := [(h0, .inr (1, [.ref q1, .ref q3, .int 0, .int 0, .int 0])), (q1, .inl (k2, 8, .inr (.inr (.inr (.inr f20))))), (q3, .inl (k4, 10, .inr (.inr (.inr (.inr (fun _ => none))))))]) [0, 1, 2] rfl
  have hD := hD.sub (ws' := [(h0, .inr (1, [.ref q1, .ref q3, .int 0, .int 0, .int 0])), (q1, .inl (k2, 8, .inr (.inr (.inr (.inr f20))))), (q3, .inl (k4, 10, .inr (.inr (.inr (.inr (fun _ => none))))))]) [0, 1, 2] (by decide) rfl
  refine lv_iinc (v := 4) (lv' := [(1, .int 4), (0, .ref h0)]) hx hb dX1_init_58 hl (k := 0) rfl (by decide +kernel) (by decide) rfl (fun ls hl => ?_)
  refine lv_goto (tgt := 39) hx hb dX1_init_61 (by decide) ?_
  refine lv_iload_n hx hb dX1_init_39 rfl (lv_at hl 0 rfl) ?_
  refine lv_bipush (v := 8) hx hb dX1_init_40 (by decide +kernel) ?_
  refine lv_icmp_ge (tgt := 64) hx hb dX1_init_42 (by decide) (fun c21 => absurd c21 (by decide +kernel)) (fun c21 => ?_)
  refine lv_aload_n hx hb dX1_init_45 rfl (lv_at hl 1 rfl) ?_
  refine va_get (D := (dC, dI)) (ci := 1) (v := .ref q1) (C := RX1) (T := TX1) (N := 5) hx hb hts inX1 hown hK hP 0 rfl rfl 0 (by decide) (hts _ pq213) (fun _ h9 => h9) rfl dX1_init_46 ?_
  refine lv_iload_n hx hb dX1_init_49 rfl (lv_at hl 0 rfl) ?_
  refine va_new (ci := 3) (fs := [.int 0, .int 0, .null, .int 0, .int 0, .int 0, .int 0, .int 0]) (C := RX3) (T := TX3) (N := 8) hx hb hts inX3 tyX3 tyX3_ok hown (hts _ pq107) (hts _ pq111) (hts _ pq76) hK hP hD hS hA rfl dfX3 (Nat.le_of_ble_eq_true rfl) (Nat.le_of_ble_eq_true rfl) dX1_init_50 (fun q22 H hP hD hS => ?_)
  have hP : va_P (dC, dI) vwCl [(h0, .inr (1, [.ref q1, .ref q3, .int 0, .int 0, .int 0])), (q1, .inl (k2, 8, .inr (.inr (.inr (.inr f20))))), (q3, .inl (k4, 10, .inr (.inr (.inr (.inr (fun _ => none)))))), (q22, .inr (3, [.int 0, .int 0, .null, .int 0, .int 0, .int 0, .int 0, .int 0]))] H := hP
  have hD : va_D A [(h0, .inr (1, [.ref q1, .ref q3, .int 0, .int 0, .int 0])), (q1, .inl (k2, 8, .inr (.inr (.inr (.inr f20))))), (q3, .inl (k4, 10, .inr (.inr (.inr (.inr (fun _ => none)))))), (q22, .inr (3, [.int 0, .int 0, .null, .int 0, .int 0, .int 0, .int 0, .int 0]))] := hD
  refine W.widen (k := 11) (n := 378) (Nat.le_of_ble_eq_true rfl) (Nat.le_of_ble_eq_true rfl) ?_
  refine lv_dup hx hb dX1_init_53 rfl ?_
  have hPc := hP.sub (ws' := [(q22, .inr (3, [.int 0, .int 0, .null, .int 0, .int 0, .int 0, .int 0, .int 0]))]) [3] rfl
  have hDc := hD.sub (ws' := [(q22, .inr (3, [.int 0, .int 0, .null, .int 0, .int 0, .int 0, .int 0, .int 0]))]) [3] (by decide) rfl
  have hKc := hK.sub (tys' := []) [] rfl
  have hFc := va_free (wc := [(q22, .inr (3, [.int 0, .int 0, .null, .int 0, .int 0, .int 0, .int 0, .int 0]))]) hD hS hA [3] rfl
  refine va_callv (va_runIN (As := []) (rest := [.ref q22, .int 4, .ref q1]) ⟨hx, hb, hml, hown, hts⟩ (c_X3_init l dC dI q22 H.size  ) ⟨va_cnB 0 hts (gI pq114) rfl rfl rfl (xN_X1_33 hN) (hts _ pq76) (by decide +kernel) ⟨(Nat.le_of_ble_eq_true rfl), (Nat.le_of_ble_eq_true rfl)⟩, rfl, hts _ pq113⟩ (pc_S hPc hDc hKc hN) rfl rfl hl.1 rfl (lv_room (Nat.le_of_ble_eq_true rfl)) dX1_init_54 ⟨(Nat.le_of_ble_eq_true rfl), (Nat.le_of_ble_eq_true rfl)⟩) hS (fun q _ h => hFc q h) hFc (fun u t H1 locs ht hvm hw hB hz1 hk1 hS => ?_)
  obtain ⟨q23, hP1, hK1, hD1⟩ := hB
  rw [ht] at hP1
  have hK1 := va_K.moved hvm.symm hK1
  obtain ⟨hP, hD⟩ := va_join (wr := [(h0, .inr (1, [.ref q1, .ref q3, .int 0, .int 0, .int 0])), (q1, .inl (k2, 8, .inr (.inr (.inr (.inr f20))))), (q3, .inl (k4, 10, .inr (.inr (.inr (.inr (fun _ => none))))))]) (w1 := [(q22, .inr (3, [.int 0, .int 0, .ref q23, .int 0, .int 0, .int 0, .int 0, .int 0]))]) hP hD [3] [0, 1, 2] rfl rfl (by decide) (by decide) hk1 hFc hP1 hD1
  generalize H1 = H at hP hS ⊢
  have hP : va_P (dC, dI) vwCl [(h0, .inr (1, [.ref q1, .ref q3, .int 0, .int 0, .int 0])), (q1, .inl (k2, 8, .inr (.inr (.inr (.inr f20))))), (q3, .inl (k4, 10, .inr (.inr (.inr (.inr (fun _ => none)))))), (q22, .inr (3, [.int 0, .int 0, .ref q23, .int 0, .int 0, .int 0, .int 0, .int 0]))] H := hP
  have hD : va_D A [(h0, .inr (1, [.ref q1, .ref q3, .int 0, .int 0, .int 0])), (q1, .inl (k2, 8, .inr (.inr (.inr (.inr f20))))), (q3, .inl (k4, 10, .inr (.inr (.inr (.inr (fun _ => none)))))), (q22, .inr (3, [.int 0, .int 0, .ref q23, .int 0, .int 0, .int 0, .int 0, .int 0]))] := hD
  refine W.widen (k := 12) (n := 458) (Nat.le_of_ble_eq_true rfl) (Nat.le_of_ble_eq_true rfl) ?_
  refine va_astq hx hb hK hP hD hS 1 0 3 3 rfl rfl rfl rfl (in_d (by decide +kernel)) dX1_init_57 (fun H locs hP hD hS => ?_)
  obtain ⟨f24, hP, hD⟩ : ∃ f24 : Nat → Option Nat, va_P (dC, dI) vwCl [(h0, .inr (1, [.ref q1, .ref q3, .int 0, .int 0, .int 0])), (q1, .inl (k2, 8, .inr (.inr (.inr (.inr f24))))), (q3, .inl (k4, 10, .inr (.inr (.inr (.inr (fun _ => none)))))), (q22, .inr (3, [.int 0, .int 0, .ref q23, .int 0, .int 0, .int 0, .int 0, .int 0]))] H ∧ va_D A [(h0, .inr (1, [.ref q1, .ref q3, .int 0, .int 0, .int 0])), (q1, .inl (k2, 8, .inr (.inr (.inr (.inr f24))))), (q3, .inl (k4, 10, .inr (.inr (.inr (.inr (fun _ => none)))))), (q22, .inr (3, [.int 0, .int 0, .ref q23, .int 0, .int 0, .int 0, .int 0, .int 0]))] := ⟨_, hP, hD⟩
  have hP := hP.sub (ws' := [(h0, .inr (1, [.ref q1, .ref q3, .int 0, .int 0, .int 0])), (q1, .inl (k2, 8, .inr (.inr (.inr (.inr f24))))), (q3, .inl (k4, 10, .inr (.inr (.inr (.inr (fun _ => none))))))]) [0, 1, 2] rfl
  have hD := hD.sub (ws' := [(h0, .inr (1, [.ref q1, .ref q3, .int 0, .int 0, .int 0])), (q1, .inl (k2, 8, .inr (.inr (.inr (.inr f24))))), (q3, .inl (k4, 10, .inr (.inr (.inr (.inr (fun _ => none))))))]) [0, 1, 2] (by decide) rfl
  refine lv_iinc (v := 5) (lv' := [(1, .int 5), (0, .ref h0)]) hx hb dX1_init_58 hl (k := 0) rfl (by decide +kernel) (by decide) rfl (fun ls hl => ?_)
  refine lv_goto (tgt := 39) hx hb dX1_init_61 (by decide) ?_
  refine lv_iload_n hx hb dX1_init_39 rfl (lv_at hl 0 rfl) ?_
  refine lv_bipush (v := 8) hx hb dX1_init_40 (by decide +kernel) ?_
  refine lv_icmp_ge (tgt := 64) hx hb dX1_init_42 (by decide) (fun c25 => absurd c25 (by decide +kernel)) (fun c25 => ?_)
  refine lv_aload_n hx hb dX1_init_45 rfl (lv_at hl 1 rfl) ?_
  refine va_get (D := (dC, dI)) (ci := 1) (v := .ref q1) (C := RX1) (T := TX1) (N := 5) hx hb hts inX1 hown hK hP 0 rfl rfl 0 (by decide) (hts _ pq213) (fun _ h9 => h9) rfl dX1_init_46 ?_
  refine lv_iload_n hx hb dX1_init_49 rfl (lv_at hl 0 rfl) ?_
  refine va_new (ci := 3) (fs := [.int 0, .int 0, .null, .int 0, .int 0, .int 0, .int 0, .int 0]) (C := RX3) (T := TX3) (N := 8) hx hb hts inX3 tyX3 tyX3_ok hown (hts _ pq107) (hts _ pq111) (hts _ pq76) hK hP hD hS hA rfl dfX3 (Nat.le_of_ble_eq_true rfl) (Nat.le_of_ble_eq_true rfl) dX1_init_50 (fun q26 H hP hD hS => ?_)
  have hP : va_P (dC, dI) vwCl [(h0, .inr (1, [.ref q1, .ref q3, .int 0, .int 0, .int 0])), (q1, .inl (k2, 8, .inr (.inr (.inr (.inr f24))))), (q3, .inl (k4, 10, .inr (.inr (.inr (.inr (fun _ => none)))))), (q26, .inr (3, [.int 0, .int 0, .null, .int 0, .int 0, .int 0, .int 0, .int 0]))] H := hP
  have hD : va_D A [(h0, .inr (1, [.ref q1, .ref q3, .int 0, .int 0, .int 0])), (q1, .inl (k2, 8, .inr (.inr (.inr (.inr f24))))), (q3, .inl (k4, 10, .inr (.inr (.inr (.inr (fun _ => none)))))), (q26, .inr (3, [.int 0, .int 0, .null, .int 0, .int 0, .int 0, .int 0, .int 0]))] := hD
  refine W.widen (k := 13) (n := 466) (Nat.le_of_ble_eq_true rfl) (Nat.le_of_ble_eq_true rfl) ?_
  refine lv_dup hx hb dX1_init_53 rfl ?_
  have hPc := hP.sub (ws' := [(q26, .inr (3, [.int 0, .int 0, .null, .int 0, .int 0, .int 0, .int 0, .int 0]))]) [3] rfl
  have hDc := hD.sub (ws' := [(q26, .inr (3, [.int 0, .int 0, .null, .int 0, .int 0, .int 0, .int 0, .int 0]))]) [3] (by decide) rfl
  have hKc := hK.sub (tys' := []) [] rfl
  have hFc := va_free (wc := [(q26, .inr (3, [.int 0, .int 0, .null, .int 0, .int 0, .int 0, .int 0, .int 0]))]) hD hS hA [3] rfl
  refine va_callv (va_runIN (As := []) (rest := [.ref q26, .int 5, .ref q1]) ⟨hx, hb, hml, hown, hts⟩ (c_X3_init l dC dI q26 H.size  ) ⟨va_cnB 0 hts (gI pq114) rfl rfl rfl (xN_X1_33 hN) (hts _ pq76) (by decide +kernel) ⟨(Nat.le_of_ble_eq_true rfl), (Nat.le_of_ble_eq_true rfl)⟩, rfl, hts _ pq113⟩ (pc_S hPc hDc hKc hN) rfl rfl hl.1 rfl (lv_room (Nat.le_of_ble_eq_true rfl)) dX1_init_54 ⟨(Nat.le_of_ble_eq_true rfl), (Nat.le_of_ble_eq_true rfl)⟩) hS (fun q _ h => hFc q h) hFc (fun u t H1 locs ht hvm hw hB hz1 hk1 hS => ?_)
  obtain ⟨q27, hP1, hK1, hD1⟩ := hB
  rw [ht] at hP1
  have hK1 := va_K.moved hvm.symm hK1
  obtain ⟨hP, hD⟩ := va_join (wr := [(h0, .inr (1, [.ref q1, .ref q3, .int 0, .int 0, .int 0])), (q1, .inl (k2, 8, .inr (.inr (.inr (.inr f24))))), (q3, .inl (k4, 10, .inr (.inr (.inr (.inr (fun _ => none))))))]) (w1 := [(q26, .inr (3, [.int 0, .int 0, .ref q27, .int 0, .int 0, .int 0, .int 0, .int 0]))]) hP hD [3] [0, 1, 2] rfl rfl (by decide) (by decide) hk1 hFc hP1 hD1
  generalize H1 = H at hP hS ⊢
  have hP : va_P (dC, dI) vwCl [(h0, .inr (1, [.ref q1, .ref q3, .int 0, .int 0, .int 0])), (q1, .inl (k2, 8, .inr (.inr (.inr (.inr f24))))), (q3, .inl (k4, 10, .inr (.inr (.inr (.inr (fun _ => none)))))), (q26, .inr (3, [.int 0, .int 0, .ref q27, .int 0, .int 0, .int 0, .int 0, .int 0]))] H := hP
  have hD : va_D A [(h0, .inr (1, [.ref q1, .ref q3, .int 0, .int 0, .int 0])), (q1, .inl (k2, 8, .inr (.inr (.inr (.inr f24))))), (q3, .inl (k4, 10, .inr (.inr (.inr (.inr (fun _ => none)))))), (q26, .inr (3, [.int 0, .int 0, .ref q27, .int 0, .int 0, .int 0, .int 0, .int 0]))] := hD
  refine W.widen (k := 14) (n := 546) (Nat.le_of_ble_eq_true rfl) (Nat.le_of_ble_eq_true rfl) ?_
  refine va_astq hx hb hK hP hD hS 1 0 3 3 rfl rfl rfl rfl (in_d (by decide +kernel)) dX1_init_57 (fun H locs hP hD hS => ?_)
  obtain ⟨f28, hP, hD⟩ : ∃ f28 : Nat → Option Nat, va_P (dC, dI) vwCl [(h0, .inr (1, [.ref q1, .ref q3, .int 0, .int 0, .int 0])), (q1, .inl (k2, 8, .inr (.inr (.inr (.inr f28))))), (q3, .inl (k4, 10, .inr (.inr (.inr (.inr (fun _ => none)))))), (q26, .inr (3, [.int 0, .int 0, .ref q27, .int 0, .int 0, .int 0, .int 0, .int 0]))] H ∧ va_D A [(h0, .inr (1, [.ref q1, .ref q3, .int 0, .int 0, .int 0])), (q1, .inl (k2, 8, .inr (.inr (.inr (.inr f28))))), (q3, .inl (k4, 10, .inr (.inr (.inr (.inr (fun _ => none)))))), (q26, .inr (3, [.int 0, .int 0, .ref q27, .int 0, .int 0, .int 0, .int 0, .int 0]))] := ⟨_, hP, hD⟩
  have hP := hP.sub (ws' := [(h0, .inr (1, [.ref q1, .ref q3, .int 0, .int 0, .int 0])), (q1, .inl (k2, 8, .inr (.inr (.inr (.inr f28))))), (q3, .inl (k4, 10, .inr (.inr (.inr (.inr (fun _ => none))))))]) [0, 1, 2] rfl
  have hD := hD.sub (ws' := [(h0, .inr (1, [.ref q1, .ref q3, .int 0, .int 0, .int 0])), (q1, .inl (k2, 8, .inr (.inr (.inr (.inr f28))))), (q3, .inl (k4, 10, .inr (.inr (.inr (.inr (fun _ => none))))))]) [0, 1, 2] (by decide) rfl
  refine lv_iinc (v := 6) (lv' := [(1, .int 6), (0, .ref h0)]) hx hb dX1_init_58 hl (k := 0) rfl (by decide +kernel) (by decide) rfl (fun ls hl => ?_)
  refine lv_goto (tgt := 39) hx hb dX1_init_61 (by decide) ?_
  refine lv_iload_n hx hb dX1_init_39 rfl (lv_at hl 0 rfl) ?_
  refine lv_bipush (v := 8) hx hb dX1_init_40 (by decide +kernel) ?_
  refine lv_icmp_ge (tgt := 64) hx hb dX1_init_42 (by decide) (fun c29 => absurd c29 (by decide +kernel)) (fun c29 => ?_)
  refine lv_aload_n hx hb dX1_init_45 rfl (lv_at hl 1 rfl) ?_
  refine va_get (D := (dC, dI)) (ci := 1) (v := .ref q1) (C := RX1) (T := TX1) (N := 5) hx hb hts inX1 hown hK hP 0 rfl rfl 0 (by decide) (hts _ pq213) (fun _ h9 => h9) rfl dX1_init_46 ?_
  refine lv_iload_n hx hb dX1_init_49 rfl (lv_at hl 0 rfl) ?_
  refine va_new (ci := 3) (fs := [.int 0, .int 0, .null, .int 0, .int 0, .int 0, .int 0, .int 0]) (C := RX3) (T := TX3) (N := 8) hx hb hts inX3 tyX3 tyX3_ok hown (hts _ pq107) (hts _ pq111) (hts _ pq76) hK hP hD hS hA rfl dfX3 (Nat.le_of_ble_eq_true rfl) (Nat.le_of_ble_eq_true rfl) dX1_init_50 (fun q30 H hP hD hS => ?_)
  have hP : va_P (dC, dI) vwCl [(h0, .inr (1, [.ref q1, .ref q3, .int 0, .int 0, .int 0])), (q1, .inl (k2, 8, .inr (.inr (.inr (.inr f28))))), (q3, .inl (k4, 10, .inr (.inr (.inr (.inr (fun _ => none)))))), (q30, .inr (3, [.int 0, .int 0, .null, .int 0, .int 0, .int 0, .int 0, .int 0]))] H := hP
  have hD : va_D A [(h0, .inr (1, [.ref q1, .ref q3, .int 0, .int 0, .int 0])), (q1, .inl (k2, 8, .inr (.inr (.inr (.inr f28))))), (q3, .inl (k4, 10, .inr (.inr (.inr (.inr (fun _ => none)))))), (q30, .inr (3, [.int 0, .int 0, .null, .int 0, .int 0, .int 0, .int 0, .int 0]))] := hD
  refine W.widen (k := 15) (n := 554) (Nat.le_of_ble_eq_true rfl) (Nat.le_of_ble_eq_true rfl) ?_
  refine lv_dup hx hb dX1_init_53 rfl ?_
  have hPc := hP.sub (ws' := [(q30, .inr (3, [.int 0, .int 0, .null, .int 0, .int 0, .int 0, .int 0, .int 0]))]) [3] rfl
  have hDc := hD.sub (ws' := [(q30, .inr (3, [.int 0, .int 0, .null, .int 0, .int 0, .int 0, .int 0, .int 0]))]) [3] (by decide) rfl
  have hKc := hK.sub (tys' := []) [] rfl
  have hFc := va_free (wc := [(q30, .inr (3, [.int 0, .int 0, .null, .int 0, .int 0, .int 0, .int 0, .int 0]))]) hD hS hA [3] rfl
  refine va_callv (va_runIN (As := []) (rest := [.ref q30, .int 6, .ref q1]) ⟨hx, hb, hml, hown, hts⟩ (c_X3_init l dC dI q30 H.size  ) ⟨va_cnB 0 hts (gI pq114) rfl rfl rfl (xN_X1_33 hN) (hts _ pq76) (by decide +kernel) ⟨(Nat.le_of_ble_eq_true rfl), (Nat.le_of_ble_eq_true rfl)⟩, rfl, hts _ pq113⟩ (pc_S hPc hDc hKc hN) rfl rfl hl.1 rfl (lv_room (Nat.le_of_ble_eq_true rfl)) dX1_init_54 ⟨(Nat.le_of_ble_eq_true rfl), (Nat.le_of_ble_eq_true rfl)⟩) hS (fun q _ h => hFc q h) hFc (fun u t H1 locs ht hvm hw hB hz1 hk1 hS => ?_)
  obtain ⟨q31, hP1, hK1, hD1⟩ := hB
  rw [ht] at hP1
  have hK1 := va_K.moved hvm.symm hK1
  obtain ⟨hP, hD⟩ := va_join (wr := [(h0, .inr (1, [.ref q1, .ref q3, .int 0, .int 0, .int 0])), (q1, .inl (k2, 8, .inr (.inr (.inr (.inr f28))))), (q3, .inl (k4, 10, .inr (.inr (.inr (.inr (fun _ => none))))))]) (w1 := [(q30, .inr (3, [.int 0, .int 0, .ref q31, .int 0, .int 0, .int 0, .int 0, .int 0]))]) hP hD [3] [0, 1, 2] rfl rfl (by decide) (by decide) hk1 hFc hP1 hD1
  generalize H1 = H at hP hS ⊢
  have hP : va_P (dC, dI) vwCl [(h0, .inr (1, [.ref q1, .ref q3, .int 0, .int 0, .int 0])), (q1, .inl (k2, 8, .inr (.inr (.inr (.inr f28))))), (q3, .inl (k4, 10, .inr (.inr (.inr (.inr (fun _ => none)))))), (q30, .inr (3, [.int 0, .int 0, .ref q31, .int 0, .int 0, .int 0, .int 0, .int 0]))] H := hP
  have hD : va_D A [(h0, .inr (1, [.ref q1, .ref q3, .int 0, .int 0, .int 0])), (q1, .inl (k2, 8, .inr (.inr (.inr (.inr f28))))), (q3, .inl (k4, 10, .inr (.inr (.inr (.inr (fun _ => none)))))), (q30, .inr (3, [.int 0, .int 0, .ref q31, .int 0, .int 0, .int 0, .int 0, .int 0]))] := hD
  refine W.widen (k := 16) (n := 634) (Nat.le_of_ble_eq_true rfl) (Nat.le_of_ble_eq_true rfl) ?_
  refine va_astq hx hb hK hP hD hS 1 0 3 3 rfl rfl rfl rfl (in_d (by decide +kernel)) dX1_init_57 (fun H locs hP hD hS => ?_)
  obtain ⟨f32, hP, hD⟩ : ∃ f32 : Nat → Option Nat, va_P (dC, dI) vwCl [(h0, .inr (1, [.ref q1, .ref q3, .int 0, .int 0, .int 0])), (q1, .inl (k2, 8, .inr (.inr (.inr (.inr f32))))), (q3, .inl (k4, 10, .inr (.inr (.inr (.inr (fun _ => none)))))), (q30, .inr (3, [.int 0, .int 0, .ref q31, .int 0, .int 0, .int 0, .int 0, .int 0]))] H ∧ va_D A [(h0, .inr (1, [.ref q1, .ref q3, .int 0, .int 0, .int 0])), (q1, .inl (k2, 8, .inr (.inr (.inr (.inr f32))))), (q3, .inl (k4, 10, .inr (.inr (.inr (.inr (fun _ => none)))))), (q30, .inr (3, [.int 0, .int 0, .ref q31, .int 0, .int 0, .int 0, .int 0, .int 0]))] := ⟨_, hP, hD⟩
  have hP := hP.sub (ws' := [(h0, .inr (1, [.ref q1, .ref q3, .int 0, .int 0, .int 0])), (q1, .inl (k2, 8, .inr (.inr (.inr (.inr f32))))), (q3, .inl (k4, 10, .inr (.inr (.inr (.inr (fun _ => none))))))]) [0, 1, 2] rfl
  have hD := hD.sub (ws' := [(h0, .inr (1, [.ref q1, .ref q3, .int 0, .int 0, .int 0])), (q1, .inl (k2, 8, .inr (.inr (.inr (.inr f32))))), (q3, .inl (k4, 10, .inr (.inr (.inr (.inr (fun _ => none))))))]) [0, 1, 2] (by decide) rfl
  refine lv_iinc (v := 7) (lv' := [(1, .int 7), (0, .ref h0)]) hx hb dX1_init_58 hl (k := 0) rfl (by decide +kernel) (by decide) rfl (fun ls hl => ?_)
  refine lv_goto (tgt := 39) hx hb dX1_init_61 (by decide) ?_
  refine lv_iload_n hx hb dX1_init_39 rfl (lv_at hl 0 rfl) ?_
  refine lv_bipush (v := 8) hx hb dX1_init_40 (by decide +kernel) ?_
  refine lv_icmp_ge (tgt := 64) hx hb dX1_init_42 (by decide) (fun c33 => absurd c33 (by decide +kernel)) (fun c33 => ?_)
  refine lv_aload_n hx hb dX1_init_45 rfl (lv_at hl 1 rfl) ?_
  refine va_get (D := (dC, dI)) (ci := 1) (v := .ref q1) (C := RX1) (T := TX1) (N := 5) hx hb hts inX1 hown hK hP 0 rfl rfl 0 (by decide) (hts _ pq213) (fun _ h9 => h9) rfl dX1_init_46 ?_
  refine lv_iload_n hx hb dX1_init_49 rfl (lv_at hl 0 rfl) ?_
  refine va_new (ci := 3) (fs := [.int 0, .int 0, .null, .int 0, .int 0, .int 0, .int 0, .int 0]) (C := RX3) (T := TX3) (N := 8) hx hb hts inX3 tyX3 tyX3_ok hown (hts _ pq107) (hts _ pq111) (hts _ pq76) hK hP hD hS hA rfl dfX3 (Nat.le_of_ble_eq_true rfl) (Nat.le_of_ble_eq_true rfl) dX1_init_50 (fun q34 H hP hD hS => ?_)
  have hP : va_P (dC, dI) vwCl [(h0, .inr (1, [.ref q1, .ref q3, .int 0, .int 0, .int 0])), (q1, .inl (k2, 8, .inr (.inr (.inr (.inr f32))))), (q3, .inl (k4, 10, .inr (.inr (.inr (.inr (fun _ => none)))))), (q34, .inr (3, [.int 0, .int 0, .null, .int 0, .int 0, .int 0, .int 0, .int 0]))] H := hP
  have hD : va_D A [(h0, .inr (1, [.ref q1, .ref q3, .int 0, .int 0, .int 0])), (q1, .inl (k2, 8, .inr (.inr (.inr (.inr f32))))), (q3, .inl (k4, 10, .inr (.inr (.inr (.inr (fun _ => none)))))), (q34, .inr (3, [.int 0, .int 0, .null, .int 0, .int 0, .int 0, .int 0, .int 0]))] := hD
  refine W.widen (k := 17) (n := 642) (Nat.le_of_ble_eq_true rfl) (Nat.le_of_ble_eq_true rfl) ?_
  refine lv_dup hx hb dX1_init_53 rfl ?_
  have hPc := hP.sub (ws' := [(q34, .inr (3, [.int 0, .int 0, .null, .int 0, .int 0, .int 0, .int 0, .int 0]))]) [3] rfl
  have hDc := hD.sub (ws' := [(q34, .inr (3, [.int 0, .int 0, .null, .int 0, .int 0, .int 0, .int 0, .int 0]))]) [3] (by decide) rfl
  have hKc := hK.sub (tys' := []) [] rfl
  have hFc := va_free (wc := [(q34, .inr (3, [.int 0, .int 0, .null, .int 0, .int 0, .int 0, .int 0, .int 0]))]) hD hS hA [3] rfl
  refine va_callv (va_runIN (As := []) (rest := [.ref q34, .int 7, .ref q1]) ⟨hx, hb, hml, hown, hts⟩ (c_X3_init l dC dI q34 H.size  ) ⟨va_cnB 0 hts (gI pq114) rfl rfl rfl (xN_X1_33 hN) (hts _ pq76) (by decide +kernel) ⟨(Nat.le_of_ble_eq_true rfl), (Nat.le_of_ble_eq_true rfl)⟩, rfl, hts _ pq113⟩ (pc_S hPc hDc hKc hN) rfl rfl hl.1 rfl (lv_room (Nat.le_of_ble_eq_true rfl)) dX1_init_54 ⟨(Nat.le_of_ble_eq_true rfl), (Nat.le_of_ble_eq_true rfl)⟩) hS (fun q _ h => hFc q h) hFc (fun u t H1 locs ht hvm hw hB hz1 hk1 hS => ?_)
  obtain ⟨q35, hP1, hK1, hD1⟩ := hB
  rw [ht] at hP1
  have hK1 := va_K.moved hvm.symm hK1
  obtain ⟨hP, hD⟩ := va_join (wr := [(h0, .inr (1, [.ref q1, .ref q3, .int 0, .int 0, .int 0])), (q1, .inl (k2, 8, .inr (.inr (.inr (.inr f32))))), (q3, .inl (k4, 10, .inr (.inr (.inr (.inr (fun _ => none))))))]) (w1 := [(q34, .inr (3, [.int 0, .int 0, .ref q35, .int 0, .int 0, .int 0, .int 0, .int 0]))]) hP hD [3] [0, 1, 2] rfl rfl (by decide) (by decide) hk1 hFc hP1 hD1
  generalize H1 = H at hP hS ⊢
  have hP : va_P (dC, dI) vwCl [(h0, .inr (1, [.ref q1, .ref q3, .int 0, .int 0, .int 0])), (q1, .inl (k2, 8, .inr (.inr (.inr (.inr f32))))), (q3, .inl (k4, 10, .inr (.inr (.inr (.inr (fun _ => none)))))), (q34, .inr (3, [.int 0, .int 0, .ref q35, .int 0, .int 0, .int 0, .int 0, .int 0]))] H := hP
  have hD : va_D A [(h0, .inr (1, [.ref q1, .ref q3, .int 0, .int 0, .int 0])), (q1, .inl (k2, 8, .inr (.inr (.inr (.inr f32))))), (q3, .inl (k4, 10, .inr (.inr (.inr (.inr (fun _ => none)))))), (q34, .inr (3, [.int 0, .int 0, .ref q35, .int 0, .int 0, .int 0, .int 0, .int 0]))] := hD
  refine W.widen (k := 18) (n := 722) (Nat.le_of_ble_eq_true rfl) (Nat.le_of_ble_eq_true rfl) ?_
  refine va_astq hx hb hK hP hD hS 1 0 3 3 rfl rfl rfl rfl (in_d (by decide +kernel)) dX1_init_57 (fun H locs hP hD hS => ?_)
  obtain ⟨f36, hP, hD⟩ : ∃ f36 : Nat → Option Nat, va_P (dC, dI) vwCl [(h0, .inr (1, [.ref q1, .ref q3, .int 0, .int 0, .int 0])), (q1, .inl (k2, 8, .inr (.inr (.inr (.inr f36))))), (q3, .inl (k4, 10, .inr (.inr (.inr (.inr (fun _ => none)))))), (q34, .inr (3, [.int 0, .int 0, .ref q35, .int 0, .int 0, .int 0, .int 0, .int 0]))] H ∧ va_D A [(h0, .inr (1, [.ref q1, .ref q3, .int 0, .int 0, .int 0])), (q1, .inl (k2, 8, .inr (.inr (.inr (.inr f36))))), (q3, .inl (k4, 10, .inr (.inr (.inr (.inr (fun _ => none)))))), (q34, .inr (3, [.int 0, .int 0, .ref q35, .int 0, .int 0, .int 0, .int 0, .int 0]))] := ⟨_, hP, hD⟩
  have hP := hP.sub (ws' := [(h0, .inr (1, [.ref q1, .ref q3, .int 0, .int 0, .int 0])), (q1, .inl (k2, 8, .inr (.inr (.inr (.inr f36))))), (q3, .inl (k4, 10, .inr (.inr (.inr (.inr (fun _ => none))))))]) [0, 1, 2] rfl
  have hD := hD.sub (ws' := [(h0, .inr (1, [.ref q1, .ref q3, .int 0, .int 0, .int 0])), (q1, .inl (k2, 8, .inr (.inr (.inr (.inr f36))))), (q3, .inl (k4, 10, .inr (.inr (.inr (.inr (fun _ => none))))))]) [0, 1, 2] (by decide) rfl
  refine lv_iinc (v := 8) (lv' := [(1, .int 8), (0, .ref h0)]) hx hb dX1_init_58 hl (k := 0) rfl (by decide +kernel) (by decide) rfl (fun ls hl => ?_)
  refine lv_goto (tgt := 39) hx hb dX1_init_61 (by decide) ?_
  refine lv_iload_n hx hb dX1_init_39 rfl (lv_at hl 0 rfl) ?_
  refine lv_bipush (v := 8) hx hb dX1_init_40 (by decide +kernel) ?_
  refine lv_icmp_ge (tgt := 64) hx hb dX1_init_42 (by decide) (fun c37 => ?_) (fun c37 => absurd (by decide +kernel) c37)
  refine lv_iconst (v := 0) hx hb dX1_init_64 (by decide +kernel) ?_
  refine lv_istore_n (lv' := [(1, .int 0), (0, .ref h0)]) hx hb dX1_init_65 rfl hl (by decide) rfl (fun ls hl => ?_)
  refine lv_iload_n hx hb dX1_init_66 rfl (lv_at hl 0 rfl) ?_
  refine lv_bipush (v := 10) hx hb dX1_init_67 (by decide +kernel) ?_
  refine lv_icmp_ge (tgt := 91) hx hb dX1_init_69 (by decide) (fun c38 => absurd c38 (by decide +kernel)) (fun c38 => ?_)
  refine lv_aload_n hx hb dX1_init_72 rfl (lv_at hl 1 rfl) ?_
  refine va_get (D := (dC, dI)) (ci := 1) (v := .ref q3) (C := RX1) (T := TX1) (N := 5) hx hb hts inX1 hown hK hP 0 rfl rfl 1 (by decide) (hts _ pq217) (fun _ h9 => h9) rfl dX1_init_73 ?_
  refine lv_iload_n hx hb dX1_init_76 rfl (lv_at hl 0 rfl) ?_
  refine va_new (ci := 0) (fs := [.int 0, .int 0, .int 0, .int 0, .int 0, .int 0, .int 0, .int 0]) (C := RX0) (T := TX0) (N := 8) hx hb hts inX0 tyX0 tyX0_ok hown (hts _ pq109) (hts _ pq164) (hts _ pq77) hK hP hD hS hA rfl dfX0 (Nat.le_of_ble_eq_true rfl) (Nat.le_of_ble_eq_true rfl) dX1_init_77 (fun q39 H hP hD hS => ?_)
  have hP : va_P (dC, dI) vwCl [(h0, .inr (1, [.ref q1, .ref q3, .int 0, .int 0, .int 0])), (q1, .inl (k2, 8, .inr (.inr (.inr (.inr f36))))), (q3, .inl (k4, 10, .inr (.inr (.inr (.inr (fun _ => none)))))), (q39, .inr (0, [.int 0, .int 0, .int 0, .int 0, .int 0, .int 0, .int 0, .int 0]))] H := hP
  have hD : va_D A [(h0, .inr (1, [.ref q1, .ref q3, .int 0, .int 0, .int 0])), (q1, .inl (k2, 8, .inr (.inr (.inr (.inr f36))))), (q3, .inl (k4, 10, .inr (.inr (.inr (.inr (fun _ => none)))))), (q39, .inr (0, [.int 0, .int 0, .int 0, .int 0, .int 0, .int 0, .int 0, .int 0]))] := hD
  refine W.widen (k := 19) (n := 730) (Nat.le_of_ble_eq_true rfl) (Nat.le_of_ble_eq_true rfl) ?_
  refine lv_dup hx hb dX1_init_80 rfl ?_
  have hPc := hP.sub (ws' := [(q39, .inr (0, [.int 0, .int 0, .int 0, .int 0, .int 0, .int 0, .int 0, .int 0]))]) [3] rfl
  have hDc := hD.sub (ws' := [(q39, .inr (0, [.int 0, .int 0, .int 0, .int 0, .int 0, .int 0, .int 0, .int 0]))]) [3] (by decide) rfl
  have hKc := hK.sub (tys' := []) [] rfl
  refine ro_v (va_runIN (As := []) (rest := [.ref q39, .int 0, .ref q3]) ⟨hx, hb, hml, hown, hts⟩ (c_X0_init l dC dI q39 H.size  ) ⟨va_cnB 0 hts (gI pq167) rfl rfl rfl (xN_X1_34 hN) (hts _ pq77) (by decide +kernel) ⟨(Nat.le_of_ble_eq_true rfl), (Nat.le_of_ble_eq_true rfl)⟩, rfl, hts _ pq166⟩ (pc_S hPc hDc hKc hN) rfl rfl hl.1 rfl (lv_room (Nat.le_of_ble_eq_true rfl)) dX1_init_81 ⟨(Nat.le_of_ble_eq_true rfl), (Nat.le_of_ble_eq_true rfl)⟩) hS hP (fun H locs hP hS => ?_)
  refine va_astq hx hb hK hP hD hS 2 1 3 0 rfl rfl rfl rfl (in_d (by decide +kernel)) dX1_init_84 (fun H locs hP hD hS => ?_)
  obtain ⟨f40, hP, hD⟩ : ∃ f40 : Nat → Option Nat, va_P (dC, dI) vwCl [(h0, .inr (1, [.ref q1, .ref q3, .int 0, .int 0, .int 0])), (q1, .inl (k2, 8, .inr (.inr (.inr (.inr f36))))), (q3, .inl (k4, 10, .inr (.inr (.inr (.inr f40))))), (q39, .inr (0, [.int 0, .int 0, .int 0, .int 0, .int 0, .int 0, .int 0, .int 0]))] H ∧ va_D A [(h0, .inr (1, [.ref q1, .ref q3, .int 0, .int 0, .int 0])), (q1, .inl (k2, 8, .inr (.inr (.inr (.inr f36))))), (q3, .inl (k4, 10, .inr (.inr (.inr (.inr f40))))), (q39, .inr (0, [.int 0, .int 0, .int 0, .int 0, .int 0, .int 0, .int 0, .int 0]))] := ⟨_, hP, hD⟩
  have hP := hP.sub (ws' := [(h0, .inr (1, [.ref q1, .ref q3, .int 0, .int 0, .int 0])), (q1, .inl (k2, 8, .inr (.inr (.inr (.inr f36))))), (q3, .inl (k4, 10, .inr (.inr (.inr (.inr f40)))))]) [0, 1, 2] rfl
  have hD := hD.sub (ws' := [(h0, .inr (1, [.ref q1, .ref q3, .int 0, .int 0, .int 0])), (q1, .inl (k2, 8, .inr (.inr (.inr (.inr f36))))), (q3, .inl (k4, 10, .inr (.inr (.inr (.inr f40)))))]) [0, 1, 2] (by decide) rfl
  refine lv_iinc (v := 1) (lv' := [(1, .int 1), (0, .ref h0)]) hx hb dX1_init_85 hl (k := 0) rfl (by decide +kernel) (by decide) rfl (fun ls hl => ?_)
  refine lv_goto (tgt := 66) hx hb dX1_init_88 (by decide) ?_
  refine lv_iload_n hx hb dX1_init_66 rfl (lv_at hl 0 rfl) ?_
  refine lv_bipush (v := 10) hx hb dX1_init_67 (by decide +kernel) ?_
  refine lv_icmp_ge (tgt := 91) hx hb dX1_init_69 (by decide) (fun c41 => absurd c41 (by decide +kernel)) (fun c41 => ?_)
  refine lv_aload_n hx hb dX1_init_72 rfl (lv_at hl 1 rfl) ?_
  refine va_get (D := (dC, dI)) (ci := 1) (v := .ref q3) (C := RX1) (T := TX1) (N := 5) hx hb hts inX1 hown hK hP 0 rfl rfl 1 (by decide) (hts _ pq217) (fun _ h9 => h9) rfl dX1_init_73 ?_
  refine lv_iload_n hx hb dX1_init_76 rfl (lv_at hl 0 rfl) ?_
  refine va_new (ci := 0) (fs := [.int 0, .int 0, .int 0, .int 0, .int 0, .int 0, .int 0, .int 0]) (C := RX0) (T := TX0) (N := 8) hx hb hts inX0 tyX0 tyX0_ok hown (hts _ pq109) (hts _ pq164) (hts _ pq77) hK hP hD hS hA rfl dfX0 (Nat.le_of_ble_eq_true rfl) (Nat.le_of_ble_eq_true rfl) dX1_init_77 (fun q42 H hP hD hS => ?_)
  have hP : va_P (dC, dI) vwCl [(h0, .inr (1, [.ref q1, .ref q3, .int 0, .int 0, .int 0])), (q1, .inl (k2, 8, .inr (.inr (.inr (.inr f36))))), (q3, .inl (k4, 10, .inr (.inr (.inr (.inr f40))))), (q42, .inr (0, [.int 0, .int 0, .int 0, .int 0, .int 0, .int 0, .int 0, .int 0]))] H := hP
  have hD : va_D A [(h0, .inr (1, [.ref q1, .ref q3, .int 0, .int 0, .int 0])), (q1, .inl (k2, 8, .inr (.inr (.inr (.inr f36))))), (q3, .inl (k4, 10, .inr (.inr (.inr (.inr f40))))), (q42, .inr (0, [.int 0, .int 0, .int 0, .int 0, .int 0, .int 0, .int 0, .int 0]))] := hD
  refine W.widen (k := 20) (n := 738) (Nat.le_of_ble_eq_true rfl) (Nat.le_of_ble_eq_true rfl) ?_
  refine lv_dup hx hb dX1_init_80 rfl ?_
  have hPc := hP.sub (ws' := [(q42, .inr (0, [.int 0, .int 0, .int 0, .int 0, .int 0, .int 0, .int 0, .int 0]))]) [3] rfl
  have hDc := hD.sub (ws' := [(q42, .inr (0, [.int 0, .int 0, .int 0, .int 0, .int 0, .int 0, .int 0, .int 0]))]) [3] (by decide) rfl
  have hKc := hK.sub (tys' := []) [] rfl
  refine ro_v (va_runIN (As := []) (rest := [.ref q42, .int 1, .ref q3]) ⟨hx, hb, hml, hown, hts⟩ (c_X0_init l dC dI q42 H.size  ) ⟨va_cnB 0 hts (gI pq167) rfl rfl rfl (xN_X1_34 hN) (hts _ pq77) (by decide +kernel) ⟨(Nat.le_of_ble_eq_true rfl), (Nat.le_of_ble_eq_true rfl)⟩, rfl, hts _ pq166⟩ (pc_S hPc hDc hKc hN) rfl rfl hl.1 rfl (lv_room (Nat.le_of_ble_eq_true rfl)) dX1_init_81 ⟨(Nat.le_of_ble_eq_true rfl), (Nat.le_of_ble_eq_true rfl)⟩) hS hP (fun H locs hP hS => ?_)
  refine va_astq hx hb hK hP hD hS 2 1 3 0 rfl rfl rfl rfl (in_d (by decide +kernel)) dX1_init_84 (fun H locs hP hD hS => ?_)
  obtain ⟨f43, hP, hD⟩ : ∃ f43 : Nat → Option Nat, va_P (dC, dI) vwCl [(h0, .inr (1, [.ref q1, .ref q3, .int 0, .int 0, .int 0])), (q1, .inl (k2, 8, .inr (.inr (.inr (.inr f36))))), (q3, .inl (k4, 10, .inr (.inr (.inr (.inr f43))))), (q42, .inr (0, [.int 0, .int 0, .int 0, .int 0, .int 0, .int 0, .int 0, .int 0]))] H ∧ va_D A [(h0, .inr (1, [.ref q1, .ref q3, .int 0, .int 0, .int 0])), (q1, .inl (k2, 8, .inr (.inr (.inr (.inr f36))))), (q3, .inl (k4, 10, .inr (.inr (.inr (.inr f43))))), (q42, .inr (0, [.int 0, .int 0, .int 0, .int 0, .int 0, .int 0, .int 0, .int 0]))] := ⟨_, hP, hD⟩
  have hP := hP.sub (ws' := [(h0, .inr (1, [.ref q1, .ref q3, .int 0, .int 0, .int 0])), (q1, .inl (k2, 8, .inr (.inr (.inr (.inr f36))))), (q3, .inl (k4, 10, .inr (.inr (.inr (.inr f43)))))]) [0, 1, 2] rfl
  have hD := hD.sub (ws' := [(h0, .inr (1, [.ref q1, .ref q3, .int 0, .int 0, .int 0])), (q1, .inl (k2, 8, .inr (.inr (.inr (.inr f36))))), (q3, .inl (k4, 10, .inr (.inr (.inr (.inr f43)))))]) [0, 1, 2] (by decide) rfl
  refine lv_iinc (v := 2) (lv' := [(1, .int 2), (0, .ref h0)]) hx hb dX1_init_85 hl (k := 0) rfl (by decide +kernel) (by decide) rfl (fun ls hl => ?_)
  refine lv_goto (tgt := 66) hx hb dX1_init_88 (by decide) ?_
  refine lv_iload_n hx hb dX1_init_66 rfl (lv_at hl 0 rfl) ?_
  refine lv_bipush (v := 10) hx hb dX1_init_67 (by decide +kernel) ?_
  refine lv_icmp_ge (tgt := 91) hx hb dX1_init_69 (by decide) (fun c44 => absurd c44 (by decide +kernel)) (fun c44 => ?_)
  refine lv_aload_n hx hb dX1_init_72 rfl (lv_at hl 1 rfl) ?_
  refine va_get (D := (dC, dI)) (ci := 1) (v := .ref q3) (C := RX1) (T := TX1) (N := 5) hx hb hts inX1 hown hK hP 0 rfl rfl 1 (by decide) (hts _ pq217) (fun _ h9 => h9) rfl dX1_init_73 ?_
  refine lv_iload_n hx hb dX1_init_76 rfl (lv_at hl 0 rfl) ?_
  refine va_new (ci := 0) (fs := [.int 0, .int 0, .int 0, .int 0, .int 0, .int 0, .int 0, .int 0]) (C := RX0) (T := TX0) (N := 8) hx hb hts inX0 tyX0 tyX0_ok hown (hts _ pq109) (hts _ pq164) (hts _ pq77) hK hP hD hS hA rfl dfX0 (Nat.le_of_ble_eq_true rfl) (Nat.le_of_ble_eq_true rfl) dX1_init_77 (fun q45 H hP hD hS => ?_)
  have hP : va_P (dC, dI) vwCl [(h0, .inr (1, [.ref q1, .ref q3, .int 0, .int 0, .int 0])), (q1, .inl (k2, 8, .inr (.inr (.inr (.inr f36))))), (q3, .inl (k4, 10, .inr (.inr (.inr (.inr f43))))), (q45, .inr (0, [.int 0, .int 0, .int 0, .int 0, .int 0, .int 0, .int 0, .int 0]))] H := hP
  have hD : va_D A [(h0, .inr (1, [.ref q1, .ref q3, .int 0, .int 0, .int 0])), (q1, .inl (k2, 8, .inr (.inr (.inr (.inr f36))))), (q3, .inl (k4, 10, .inr (.inr (.inr (.inr f43))))), (q45, .inr (0, [.int 0, .int 0, .int 0, .int 0, .int 0, .int 0, .int 0, .int 0]))] := hD
  refine W.widen (k := 21) (n := 746) (Nat.le_of_ble_eq_true rfl) (Nat.le_of_ble_eq_true rfl) ?_
  refine lv_dup hx hb dX1_init_80 rfl ?_
  have hPc := hP.sub (ws' := [(q45, .inr (0, [.int 0, .int 0, .int 0, .int 0, .int 0, .int 0, .int 0, .int 0]))]) [3] rfl
  have hDc := hD.sub (ws' := [(q45, .inr (0, [.int 0, .int 0, .int 0, .int 0, .int 0, .int 0, .int 0, .int 0]))]) [3] (by decide) rfl
  have hKc := hK.sub (tys' := []) [] rfl
  refine ro_v (va_runIN (As := []) (rest := [.ref q45, .int 2, .ref q3]) ⟨hx, hb, hml, hown, hts⟩ (c_X0_init l dC dI q45 H.size  ) ⟨va_cnB 0 hts (gI pq167) rfl rfl rfl (xN_X1_34 hN) (hts _ pq77) (by decide +kernel) ⟨(Nat.le_of_ble_eq_true rfl), (Nat.le_of_ble_eq_true rfl)⟩, rfl, hts _ pq166⟩ (pc_S hPc hDc hKc hN) rfl rfl hl.1 rfl (lv_room (Nat.le_of_ble_eq_true rfl)) dX1_init_81 ⟨(Nat.le_of_ble_eq_true rfl), (Nat.le_of_ble_eq_true rfl)⟩) hS hP (fun H locs hP hS => ?_)
  refine va_astq hx hb hK hP hD hS 2 1 3 0 rfl rfl rfl rfl (in_d (by decide +kernel)) dX1_init_84 (fun H locs hP hD hS => ?_)
  obtain ⟨f46, hP, hD⟩ : ∃ f46 : Nat → Option Nat, va_P (dC, dI) vwCl [(h0, .inr (1, [.ref q1, .ref q3, .int 0, .int 0, .int 0])), (q1, .inl (k2, 8, .inr (.inr (.inr (.inr f36))))), (q3, .inl (k4, 10, .inr (.inr (.inr (.inr f46))))), (q45, .inr (0, [.int 0, .int 0, .int 0, .int 0, .int 0, .int 0, .int 0, .int 0]))] H ∧ va_D A [(h0, .inr (1, [.ref q1, .ref q3, .int 0, .int 0, .int 0])), (q1, .inl (k2, 8, .inr (.inr (.inr (.inr f36))))), (q3, .inl (k4, 10, .inr (.inr (.inr (.inr f46))))), (q45, .inr (0, [.int 0, .int 0, .int 0, .int 0, .int 0, .int 0, .int 0, .int 0]))] := ⟨_, hP, hD⟩
  have hP := hP.sub (ws' := [(h0, .inr (1, [.ref q1, .ref q3, .int 0, .int 0, .int 0])), (q1, .inl (k2, 8, .inr (.inr (.inr (.inr f36))))), (q3, .inl (k4, 10, .inr (.inr (.inr (.inr f46)))))]) [0, 1, 2] rfl
  have hD := hD.sub (ws' := [(h0, .inr (1, [.ref q1, .ref q3, .int 0, .int 0, .int 0])), (q1, .inl (k2, 8, .inr (.inr (.inr (.inr f36))))), (q3, .inl (k4, 10, .inr (.inr (.inr (.inr f46)))))]) [0, 1, 2] (by decide) rfl
  refine lv_iinc (v := 3) (lv' := [(1, .int 3), (0, .ref h0)]) hx hb dX1_init_85 hl (k := 0) rfl (by decide +kernel) (by decide) rfl (fun ls hl => ?_)
  refine lv_goto (tgt := 66) hx hb dX1_init_88 (by decide) ?_
  refine lv_iload_n hx hb dX1_init_66 rfl (lv_at hl 0 rfl) ?_
  refine lv_bipush (v := 10) hx hb dX1_init_67 (by decide +kernel) ?_
  refine lv_icmp_ge (tgt := 91) hx hb dX1_init_69 (by decide) (fun c47 => absurd c47 (by decide +kernel)) (fun c47 => ?_)
  refine lv_aload_n hx hb dX1_init_72 rfl (lv_at hl 1 rfl) ?_
  refine va_get (D := (dC, dI)) (ci := 1) (v := .ref q3) (C := RX1) (T := TX1) (N := 5) hx hb hts inX1 hown hK hP 0 rfl rfl 1 (by decide) (hts _ pq217) (fun _ h9 => h9) rfl dX1_init_73 ?_
  refine lv_iload_n hx hb dX1_init_76 rfl (lv_at hl 0 rfl) ?_
  refine va_new (ci := 0) (fs := [.int 0, .int 0, .int 0, .int 0, .int 0, .int 0, .int 0, .int 0]) (C := RX0) (T := TX0) (N := 8) hx hb hts inX0 tyX0 tyX0_ok hown (hts _ pq109) (hts _ pq164) (hts _ pq77) hK hP hD hS hA rfl dfX0 (Nat.le_of_ble_eq_true rfl) (Nat.le_of_ble_eq_true rfl) dX1_init_77 (fun q48 H hP hD hS => ?_)
  have hP : va_P (dC, dI) vwCl [(h0, .inr (1, [.ref q1, .ref q3, .int 0, .int 0, .int 0])), (q1, .inl (k2, 8, .inr (.inr (.inr (.inr f36))))), (q3, .inl (k4, 10, .inr (.inr (.inr (.inr f46))))), (q48, .inr (0, [.int 0, .int 0, .int 0, .int 0, .int 0, .int 0, .int 0, .int 0]))] H := hP
  have hD : va_D A [(h0, .inr (1, [.ref q1, .ref q3, .int 0, .int 0, .int 0])), (q1, .inl (k2, 8, .inr (.inr (.inr (.inr f36))))), (q3, .inl (k4, 10, .inr (.inr (.inr (.inr f46))))), (q48, .inr (0, [.int 0, .int 0, .int 0, .int 0, .int 0, .int 0, .int 0, .int 0]))] := hD
  refine W.widen (k := 22) (n := 754) (Nat.le_of_ble_eq_true rfl) (Nat.le_of_ble_eq_true rfl) ?_
  refine lv_dup hx hb dX1_init_80 rfl ?_
  have hPc := hP.sub (ws' := [(q48, .inr (0, [.int 0, .int 0, .int 0, .int 0, .int 0, .int 0, .int 0, .int 0]))]) [3] rfl
  have hDc := hD.sub (ws' := [(q48, .inr (0, [.int 0, .int 0, .int 0, .int 0, .int 0, .int 0, .int 0, .int 0]))]) [3] (by decide) rfl
  have hKc := hK.sub (tys' := []) [] rfl
  refine ro_v (va_runIN (As := []) (rest := [.ref q48, .int 3, .ref q3]) ⟨hx, hb, hml, hown, hts⟩ (c_X0_init l dC dI q48 H.size  ) ⟨va_cnB 0 hts (gI pq167) rfl rfl rfl (xN_X1_34 hN) (hts _ pq77) (by decide +kernel) ⟨(Nat.le_of_ble_eq_true rfl), (Nat.le_of_ble_eq_true rfl)⟩, rfl, hts _ pq166⟩ (pc_S hPc hDc hKc hN) rfl rfl hl.1 rfl (lv_room (Nat.le_of_ble_eq_true rfl)) dX1_init_81 ⟨(Nat.le_of_ble_eq_true rfl), (Nat.le_of_ble_eq_true rfl)⟩) hS hP (fun H locs hP hS => ?_)
  refine va_astq hx hb hK hP hD hS 2 1 3 0 rfl rfl rfl rfl (in_d (by decide +kernel)) dX1_init_84 (fun H locs hP hD hS => ?_)
  obtain ⟨f49, hP, hD⟩ : ∃ f49 : Nat → Option Nat, va_P (dC, dI) vwCl [(h0, .inr (1, [.ref q1, .ref q3, .int 0, .int 0, .int 0])), (q1, .inl (k2, 8, .inr (.inr (.inr (.inr f36))))), (q3, .inl (k4, 10, .inr (.inr (.inr (.inr f49))))), (q48, .inr (0, [.int 0, .int 0, .int 0, .int 0, .int 0, .int 0, .int 0, .int 0]))] H ∧ va_D A [(h0, .inr (1, [.ref q1, .ref q3, .int 0, .int 0, .int 0])), (q1, .inl (k2, 8, .inr (.inr (.inr (.inr f36))))), (q3, .inl (k4, 10, .inr (.inr (.inr (.inr f49))))), (q48, .inr (0, [.int 0, .int 0, .int 0, .int 0, .int 0, .int 0, .int 0, .int 0]))] := ⟨_, hP, hD⟩
  have hP := hP.sub (ws' := [(h0, .inr (1, [.ref q1, .ref q3, .int 0, .int 0, .int 0])), (q1, .inl (k2, 8, .inr (.inr (.inr (.inr f36))))), (q3, .inl (k4, 10, .inr (.inr (.inr (.inr f49)))))]) [0, 1, 2] rfl
  have hD := hD.sub (ws' := [(h0, .inr (1, [.ref q1, .ref q3, .int 0, .int 0, .int 0])), (q1, .inl (k2, 8, .inr (.inr (.inr (.inr f36))))), (q3, .inl (k4, 10, .inr (.inr (.inr (.inr f49)))))]) [0, 1, 2] (by decide) rfl
  refine lv_iinc (v := 4) (lv' := [(1, .int 4), (0, .ref h0)]) hx hb dX1_init_85 hl (k := 0) rfl (by decide +kernel) (by decide) rfl (fun ls hl => ?_)
  refine lv_goto (tgt := 66) hx hb dX1_init_88 (by decide) ?_
  refine lv_iload_n hx hb dX1_init_66 rfl (lv_at hl 0 rfl) ?_
  refine lv_bipush (v := 10) hx hb dX1_init_67 (by decide +kernel) ?_
  refine lv_icmp_ge (tgt := 91) hx hb dX1_init_69 (by decide) (fun c50 => absurd c50 (by decide +kernel)) (fun c50 => ?_)
  refine lv_aload_n hx hb dX1_init_72 rfl (lv_at hl 1 rfl) ?_
  refine va_get (D := (dC, dI)) (ci := 1) (v := .ref q3) (C := RX1) (T := TX1) (N := 5) hx hb hts inX1 hown hK hP 0 rfl rfl 1 (by decide) (hts _ pq217) (fun _ h9 => h9) rfl dX1_init_73 ?_
  refine lv_iload_n hx hb dX1_init_76 rfl (lv_at hl 0 rfl) ?_
  refine va_new (ci := 0) (fs := [.int 0, .int 0, .int 0, .int 0, .int 0, .int 0, .int 0, .int 0]) (C := RX0) (T := TX0) (N := 8) hx hb hts inX0 tyX0 tyX0_ok hown (hts _ pq109) (hts _ pq164) (hts _ pq77) hK hP hD hS hA rfl dfX0 (Nat.le_of_ble_eq_true rfl) (Nat.le_of_ble_eq_true rfl) dX1_init_77 (fun q51 H hP hD hS => ?_)
  have hP : va_P (dC, dI) vwCl [(h0, .inr (1, [.ref q1, .ref q3, .int 0, .int 0, .int 0])), (q1, .inl (k2, 8, .inr (.inr (.inr (.inr f36))))), (q3, .inl (k4, 10, .inr (.inr (.inr (.inr f49))))), (q51, .inr (0, [.int 0, .int 0, .int 0, .int 0, .int 0, .int 0, .int 0, .int 0]))] H := hP
  have hD : va_D A [(h0, .inr (1, [.ref q1, .ref q3, .int 0, .int 0, .int 0])), (q1, .inl (k2, 8, .inr (.inr (.inr (.inr f36))))), (q3, .inl (k4, 10, .inr (.inr (.inr (.inr f49))))), (q51, .inr (0, [.int 0, .int 0, .int 0, .int 0, .int 0, .int 0, .int 0, .int 0]))] := hD
  refine W.widen (k := 23) (n := 762) (Nat.le_of_ble_eq_true rfl) (Nat.le_of_ble_eq_true rfl) ?_
  refine lv_dup hx hb dX1_init_80 rfl ?_
  have hPc := hP.sub (ws' := [(q51, .inr (0, [.int 0, .int 0, .int 0, .int 0, .int 0, .int 0, .int 0, .int 0]))]) [3] rfl
  have hDc := hD.sub (ws' := [(q51, .inr (0, [.int 0, .int 0, .int 0, .int 0, .int 0, .int 0, .int 0, .int 0]))]) [3] (by decide) rfl
  have hKc := hK.sub (tys' := []) [] rfl
  refine ro_v (va_runIN (As := []) (rest := [.ref q51, .int 4, .ref q3]) ⟨hx, hb, hml, hown, hts⟩ (c_X0_init l dC dI q51 H.size  ) ⟨va_cnB 0 hts (gI pq167) rfl rfl rfl (xN_X1_34 hN) (hts _ pq77) (by decide +kernel) ⟨(Nat.le_of_ble_eq_true rfl), (Nat.le_of_ble_eq_true rfl)⟩, rfl, hts _ pq166⟩ (pc_S hPc hDc hKc hN) rfl rfl hl.1 rfl (lv_room (Nat.le_of_ble_eq_true rfl)) dX1_init_81 ⟨(Nat.le_of_ble_eq_true rfl), (Nat.le_of_ble_eq_true rfl)⟩) hS hP (fun H locs hP hS => ?_)
  refine va_astq hx hb hK hP hD hS 2 1 3 0 rfl rfl rfl rfl (in_d (by decide +kernel)) dX1_init_84 (fun H locs hP hD hS => ?_)
  obtain ⟨f52, hP, hD⟩ : ∃ f52 : Nat → Option Nat, va_P (dC, dI) vwCl [(h0, .inr (1, [.ref q1, .ref q3, .int 0, .int 0, .int 0])), (q1, .inl (k2, 8, .inr (.inr (.inr (.inr f36))))), (q3, .inl (k4, 10, .inr (.inr (.inr (.inr f52))))), (q51, .inr (0, [.int 0, .int 0, .int 0, .int 0, .int 0, .int 0, .int 0, .int 0]))] H ∧ va_D A [(h0, .inr (1, [.ref q1, .ref q3, .int 0, .int 0, .int 0])), (q1, .inl (k2, 8, .inr (.inr (.inr (.inr f36))))), (q3, .inl (k4, 10, .inr (.inr (.inr (.inr f52))))), (q51, .inr (0, [.int 0, .int 0, .int 0, .int 0, .int 0, .int 0, .int 0, .int 0]))] := ⟨_, hP, hD⟩
  have hP := hP.sub (ws' := [(h0, .inr (1, [.ref q1, .ref q3, .int 0, .int 0, .int 0])), (q1, .inl (k2, 8, .inr (.inr (.inr (.inr f36))))), (q3, .inl (k4, 10, .inr (.inr (.inr (.inr f52)))))]) [0, 1, 2] rfl
  have hD := hD.sub (ws' := [(h0, .inr (1, [.ref q1, .ref q3, .int 0, .int 0, .int 0])), (q1, .inl (k2, 8, .inr (.inr (.inr (.inr f36))))), (q3, .inl (k4, 10, .inr (.inr (.inr (.inr f52)))))]) [0, 1, 2] (by decide) rfl
  refine lv_iinc (v := 5) (lv' := [(1, .int 5), (0, .ref h0)]) hx hb dX1_init_85 hl (k := 0) rfl (by decide +kernel) (by decide) rfl (fun ls hl => ?_)
  refine lv_goto (tgt := 66) hx hb dX1_init_88 (by decide) ?_
  refine lv_iload_n hx hb dX1_init_66 rfl (lv_at hl 0 rfl) ?_
  refine lv_bipush (v := 10) hx hb dX1_init_67 (by decide +kernel) ?_
  refine lv_icmp_ge (tgt := 91) hx hb dX1_init_69 (by decide) (fun c53 => absurd c53 (by decide +kernel)) (fun c53 => ?_)
  refine lv_aload_n hx hb dX1_init_72 rfl (lv_at hl 1 rfl) ?_
  refine va_get (D := (dC, dI)) (ci := 1) (v := .ref q3) (C := RX1) (T := TX1) (N := 5) hx hb hts inX1 hown hK hP 0 rfl rfl 1 (by decide) (hts _ pq217) (fun _ h9 => h9) rfl dX1_init_73 ?_
  refine lv_iload_n hx hb dX1_init_76 rfl (lv_at hl 0 rfl) ?_
  refine va_new (ci := 0) (fs := [.int 0, .int 0, .int 0, .int 0, .int 0, .int 0, .int 0, .int 0]) (C := RX0) (T := TX0) (N := 8) hx hb hts inX0 tyX0 tyX0_ok hown (hts _ pq109) (hts _ pq164) (hts _ pq77) hK hP hD hS hA rfl dfX0 (Nat.le_of_ble_eq_true rfl) (Nat.le_of_ble_eq_true rfl) dX1_init_77 (fun q54 H hP hD hS => ?_)
  have hP : va_P (dC, dI) vwCl [(h0, .inr (1, [.ref q1, .ref q3, .int 0, .int 0, .int 0])), (q1, .inl (k2, 8, .inr (.inr (.inr (.inr f36))))), (q3, .inl (k4, 10, .inr (.inr (.inr (.inr f52))))), (q54, .inr (0, [.int 0, .int 0, .int 0, .int 0, .int 0, .int 0, .int 0, .int 0]))] H := hP
  have hD : va_D A [(h0, .inr (1, [.ref q1, .ref q3, .int 0, .int 0, .int 0])), (q1, .inl (k2, 8, .inr (.inr (.inr (.inr f36))))), (q3, .inl (k4, 10, .inr (.inr (.inr (.inr f52))))), (q54, .inr (0, [.int 0, .int 0, .int 0, .int 0, .int 0, .int 0, .int 0, .int 0]))] := hD
  refine W.widen (k := 24) (n := 770) (Nat.le_of_ble_eq_true rfl) (Nat.le_of_ble_eq_true rfl) ?_
  refine lv_dup hx hb dX1_init_80 rfl ?_
  have hPc := hP.sub (ws' := [(q54, .inr (0, [.int 0, .int 0, .int 0, .int 0, .int 0, .int 0, .int 0, .int 0]))]) [3] rfl
  have hDc := hD.sub (ws' := [(q54, .inr (0, [.int 0, .int 0, .int 0, .int 0, .int 0, .int 0, .int 0, .int 0]))]) [3] (by decide) rfl
  have hKc := hK.sub (tys' := []) [] rfl
  refine ro_v (va_runIN (As := []) (rest := [.ref q54, .int 5, .ref q3]) ⟨hx, hb, hml, hown, hts⟩ (c_X0_init l dC dI q54 H.size  ) ⟨va_cnB 0 hts (gI pq167) rfl rfl rfl (xN_X1_34 hN) (hts _ pq77) (by decide +kernel) ⟨(Nat.le_of_ble_eq_true rfl), (Nat.le_of_ble_eq_true rfl)⟩, rfl, hts _ pq166⟩ (pc_S hPc hDc hKc hN) rfl rfl hl.1 rfl (lv_room (Nat.le_of_ble_eq_true rfl)) dX1_init_81 ⟨(Nat.le_of_ble_eq_true rfl), (Nat.le_of_ble_eq_true rfl)⟩) hS hP (fun H locs hP hS => ?_)
  refine va_astq hx hb hK hP hD hS 2 1 3 0 rfl rfl rfl rfl (in_d (by decide +kernel)) dX1_init_84 (fun H locs hP hD hS => ?_)
  obtain ⟨f55, hP, hD⟩ : ∃ f55 : Nat → Option Nat, va_P (dC, dI) vwCl [(h0, .inr (1, [.ref q1, .ref q3, .int 0, .int 0, .int 0])), (q1, .inl (k2, 8, .inr (.inr (.inr (.inr f36))))), (q3, .inl (k4, 10, .inr (.inr (.inr (.inr f55))))), (q54, .inr (0, [.int 0, .int 0, .int 0, .int 0, .int 0, .int 0, .int 0, .int 0]))] H ∧ va_D A [(h0, .inr (1, [.ref q1, .ref q3, .int 0, .int 0, .int 0])), (q1, .inl (k2, 8, .inr (.inr (.inr (.inr f36))))), (q3, .inl (k4, 10, .inr (.inr (.inr (.inr f55))))), (q54, .inr (0, [.int 0, .int 0, .int 0, .int 0, .int 0, .int 0, .int 0, .int 0]))] := ⟨_, hP, hD⟩
  have hP := hP.sub (ws' := [(h0, .inr (1, [.ref q1, .ref q3, .int 0, .int 0, .int 0])), (q1, .inl (k2, 8, .inr (.inr (.inr (.inr f36))))), (q3, .inl (k4, 10, .inr (.inr (.inr (.inr f55)))))]) [0, 1, 2] rfl
  have hD := hD.sub (ws' := [(h0, .inr (1, [.ref q1, .ref q3, .int 0, .int 0, .int 0])), (q1, .inl (k2, 8, .inr (.inr (.inr (.inr f36))))), (q3, .inl (k4, 10, .inr (.inr (.inr (.inr f55)))))]) [0, 1, 2] (by decide) rfl
  refine lv_iinc (v := 6) (lv' := [(1, .int 6), (0, .ref h0)]) hx hb dX1_init_85 hl (k := 0) rfl (by decide +kernel) (by decide) rfl (fun ls hl => ?_)
  refine lv_goto (tgt := 66) hx hb dX1_init_88 (by decide) ?_
  refine lv_iload_n hx hb dX1_init_66 rfl (lv_at hl 0 rfl) ?_
  refine lv_bipush (v := 10) hx hb dX1_init_67 (by decide +kernel) ?_
  refine lv_icmp_ge (tgt := 91) hx hb dX1_init_69 (by decide) (fun c56 => absurd c56 (by decide +kernel)) (fun c56 => ?_)
  refine lv_aload_n hx hb dX1_init_72 rfl (lv_at hl 1 rfl) ?_
  refine va_get (D := (dC, dI)) (ci := 1) (v := .ref q3) (C := RX1) (T := TX1) (N := 5) hx hb hts inX1 hown hK hP 0 rfl rfl 1 (by decide) (hts _ pq217) (fun _ h9 => h9) rfl dX1_init_73 ?_
  refine lv_iload_n hx hb dX1_init_76 rfl (lv_at hl 0 rfl) ?_
  refine va_new (ci := 0) (fs := [.int 0, .int 0, .int 0, .int 0, .int 0, .int 0, .int 0, .int 0]) (C := RX0) (T := TX0) (N := 8) hx hb hts inX0 tyX0 tyX0_ok hown (hts _ pq109) (hts _ pq164) (hts _ pq77) hK hP hD hS hA rfl dfX0 (Nat.le_of_ble_eq_true rfl) (Nat.le_of_ble_eq_true rfl) dX1_init_77 (fun q57 H hP hD hS => ?_)
  have hP : va_P (dC, dI) vwCl [(h0, .inr (1, [.ref q1, .ref q3, .int 0, .int 0, .int 0])), (q1, .inl (k2, 8, .inr (.inr (.inr (.inr f36))))), (q3, .inl (k4, 10, .inr (.inr (.inr (.inr f55))))), (q57, .inr (0, [.int 0, .int 0, .int 0, .int 0, .int 0, .int 0, .int 0, .int 0]))] H := hP
  have hD : va_D A [(h0, .inr (1, [.ref q1, .ref q3, .int 0, .int 0, .int 0])), (q1, .inl (k2, 8, .inr (.inr (.inr (.inr f36))))), (q3, .inl (k4, 10, .inr (.inr (.inr (.inr f55))))), (q57, .inr (0, [.int 0, .int 0, .int 0, .int 0, .int 0, .int 0, .int 0, .int 0]))] := hD
  refine W.widen (k := 25) (n := 778) (Nat.le_of_ble_eq_true rfl) (Nat.le_of_ble_eq_true rfl) ?_
  refine lv_dup hx hb dX1_init_80 rfl ?_
  have hPc := hP.sub (ws' := [(q57, .inr (0, [.int 0, .int 0, .int 0, .int 0, .int 0, .int 0, .int 0, .int 0]))]) [3] rfl
  have hDc := hD.sub (ws' := [(q57, .inr (0, [.int 0, .int 0, .int 0, .int 0, .int 0, .int 0, .int 0, .int 0]))]) [3] (by decide) rfl
  have hKc := hK.sub (tys' := []) [] rfl
  refine ro_v (va_runIN (As := []) (rest := [.ref q57, .int 6, .ref q3]) ⟨hx, hb, hml, hown, hts⟩ (c_X0_init l dC dI q57 H.size  ) ⟨va_cnB 0 hts (gI pq167) rfl rfl rfl (xN_X1_34 hN) (hts _ pq77) (by decide +kernel) ⟨(Nat.le_of_ble_eq_true rfl), (Nat.le_of_ble_eq_true rfl)⟩, rfl, hts _ pq166⟩ (pc_S hPc hDc hKc hN) rfl rfl hl.1 rfl (lv_room (Nat.le_of_ble_eq_true rfl)) dX1_init_81 ⟨(Nat.le_of_ble_eq_true rfl), (Nat.le_of_ble_eq_true rfl)⟩) hS hP (fun H locs hP hS => ?_)
  refine va_astq hx hb hK hP hD hS 2 1 3 0 rfl rfl rfl rfl (in_d (by decide +kernel)) dX1_init_84 (fun H locs hP hD hS => ?_)
  obtain ⟨f58, hP, hD⟩ : ∃ f58 : Nat → Option Nat, va_P (dC, dI) vwCl [(h0, .inr (1, [.ref q1, .ref q3, .int 0, .int 0, .int 0])), (q1, .inl (k2, 8, .inr (.inr (.inr (.inr f36))))), (q3, .inl (k4, 10, .inr (.inr (.inr (.inr f58))))), (q57, .inr (0, [.int 0, .int 0, .int 0, .int 0, .int 0, .int 0, .int 0, .int 0]))] H ∧ va_D A [(h0, .inr (1, [.ref q1, .ref q3, .int 0, .int 0, .int 0])), (q1, .inl (k2, 8, .inr (.inr (.inr (.inr f36))))), (q3, .inl (k4, 10, .inr (.inr (.inr (.inr f58))))), (q57, .inr (0, [.int 0, .int 0, .int 0, .int 0, .int 0, .int 0, .int 0, .int 0]))] := ⟨_, hP, hD⟩
  have hP := hP.sub (ws' := [(h0, .inr (1, [.ref q1, .ref q3, .int 0, .int 0, .int 0])), (q1, .inl (k2, 8, .inr (.inr (.inr (.inr f36))))), (q3, .inl (k4, 10, .inr (.inr (.inr (.inr f58)))))]) [0, 1, 2] rfl
  have hD := hD.sub (ws' := [(h0, .inr (1, [.ref q1, .ref q3, .int 0, .int 0, .int 0])), (q1, .inl (k2, 8, .inr (.inr (.inr (.inr f36))))), (q3, .inl (k4, 10, .inr (.inr (.inr (.inr f58)))))]) [0, 1, 2] (by decide) rfl
  refine lv_iinc (v := 7) (lv' := [(1, .int 7), (0, .ref h0)]) hx hb dX1_init_85 hl (k := 0) rfl (by decide +kernel) (by decide) rfl (fun ls hl => ?_)
  refine lv_goto (tgt := 66) hx hb dX1_init_88 (by decide) ?_
  refine lv_iload_n hx hb dX1_init_66 rfl (lv_at hl 0 rfl) ?_
  refine lv_bipush (v := 10) hx hb dX1_init_67 (by decide +kernel) ?_
  refine lv_icmp_ge (tgt := 91) hx hb dX1_init_69 (by decide) (fun c59 => absurd c59 (by decide +kernel)) (fun c59 => ?_)
  refine lv_aload_n hx hb dX1_init_72 rfl (lv_at hl 1 rfl) ?_
  refine va_get (D := (dC, dI)) (ci := 1) (v := .ref q3) (C := RX1) (T := TX1) (N := 5) hx hb hts inX1 hown hK hP 0 rfl rfl 1 (by decide) (hts _ pq217) (fun _ h9 => h9) rfl dX1_init_73 ?_
  refine lv_iload_n hx hb dX1_init_76 rfl (lv_at hl 0 rfl) ?_
  refine va_new (ci := 0) (fs := [.int 0, .int 0, .int 0, .int 0, .int 0, .int 0, .int 0, .int 0]) (C := RX0) (T := TX0) (N := 8) hx hb hts inX0 tyX0 tyX0_ok hown (hts _ pq109) (hts _ pq164) (hts _ pq77) hK hP hD hS hA rfl dfX0 (Nat.le_of_ble_eq_true rfl) (Nat.le_of_ble_eq_true rfl) dX1_init_77 (fun q60 H hP hD hS => ?_)
  have hP : va_P (dC, dI) vwCl [(h0, .inr (1, [.ref q1, .ref q3, .int 0, .int 0, .int 0])), (q1, .inl (k2, 8, .inr (.inr (.inr (.inr f36))))), (q3, .inl (k4, 10, .inr (.inr (.inr (.inr f58))))), (q60, .inr (0, [.int 0, .int 0, .int 0, .int 0, .int 0, .int 0, .int 0, .int 0]))] H := hP
  have hD : va_D A [(h0, .inr (1, [.ref q1, .ref q3, .int 0, .int 0, .int 0])), (q1, .inl (k2, 8, .inr (.inr (.inr (.inr f36))))), (q3, .inl (k4, 10, .inr (.inr (.inr (.inr f58))))), (q60, .inr (0, [.int 0, .int 0, .int 0, .int 0, .int 0, .int 0, .int 0, .int 0]))] := hD
  refine W.widen (k := 26) (n := 786) (Nat.le_of_ble_eq_true rfl) (Nat.le_of_ble_eq_true rfl) ?_
  refine lv_dup hx hb dX1_init_80 rfl ?_
  have hPc := hP.sub (ws' := [(q60, .inr (0, [.int 0, .int 0, .int 0, .int 0, .int 0, .int 0, .int 0, .int 0]))]) [3] rfl
  have hDc := hD.sub (ws' := [(q60, .inr (0, [.int 0, .int 0, .int 0, .int 0, .int 0, .int 0, .int 0, .int 0]))]) [3] (by decide) rfl
  have hKc := hK.sub (tys' := []) [] rfl
  refine ro_v (va_runIN (As := []) (rest := [.ref q60, .int 7, .ref q3]) ⟨hx, hb, hml, hown, hts⟩ (c_X0_init l dC dI q60 H.size  ) ⟨va_cnB 0 hts (gI pq167) rfl rfl rfl (xN_X1_34 hN) (hts _ pq77) (by decide +kernel) ⟨(Nat.le_of_ble_eq_true rfl), (Nat.le_of_ble_eq_true rfl)⟩, rfl, hts _ pq166⟩ (pc_S hPc hDc hKc hN) rfl rfl hl.1 rfl (lv_room (Nat.le_of_ble_eq_true rfl)) dX1_init_81 ⟨(Nat.le_of_ble_eq_true rfl), (Nat.le_of_ble_eq_true rfl)⟩) hS hP (fun H locs hP hS => ?_)
  refine va_astq hx hb hK hP hD hS 2 1 3 0 rfl rfl rfl rfl (in_d (by decide +kernel)) dX1_init_84 (fun H locs hP hD hS => ?_)
  obtain ⟨f61, hP, hD⟩ : ∃ f61 : Nat → Option Nat, va_P (dC, dI) vwCl [(h0, .inr (1, [.ref q1, .ref q3, .int 0, .int 0, .int 0])), (q1, .inl (k2, 8, .inr (.inr (.inr (.inr f36))))), (q3, .inl (k4, 10, .inr (.inr (.inr (.inr f61))))), (q60, .inr (0, [.int 0, .int 0, .int 0, .int 0, .int 0, .int 0, .int 0, .int 0]))] H ∧ va_D A [(h0, .inr (1, [.ref q1, .ref q3, .int 0, .int 0, .int 0])), (q1, .inl (k2, 8, .inr (.inr (.inr (.inr f36))))), (q3, .inl (k4, 10, .inr (.inr (.inr (.inr f61))))), (q60, .inr (0, [.int 0, .int 0, .int 0, .int 0, .int 0, .int 0, .int 0, .int 0]))] := ⟨_, hP, hD⟩
  have hP := hP.sub (ws' := [(h0, .inr (1, [.ref q1, .ref q3, .int 0, .int 0, .int 0])), (q1, .inl (k2, 8, .inr (.inr (.inr (.inr f36))))), (q3, .inl (k4, 10, .inr (.inr (.inr (.inr f61)))))]) [0, 1, 2] rfl
  have hD := hD.sub (ws' := [(h0, .inr (1, [.ref q1, .ref q3, .int 0, .int 0, .int 0])), (q1, .inl (k2, 8, .inr (.inr (.inr (.inr f36))))), (q3, .inl (k4, 10, .inr (.inr (.inr (.inr f61)))))]) [0, 1, 2] (by decide) rfl
  refine lv_iinc (v := 8) (lv' := [(1, .int 8), (0, .ref h0)]) hx hb dX1_init_85 hl (k := 0) rfl (by decide +kernel) (by decide) rfl (fun ls hl => ?_)
  refine lv_goto (tgt := 66) hx hb dX1_init_88 (by decide) ?_
  refine lv_iload_n hx hb dX1_init_66 rfl (lv_at hl 0 rfl) ?_
  refine lv_bipush (v := 10) hx hb dX1_init_67 (by decide +kernel) ?_
  refine lv_icmp_ge (tgt := 91) hx hb dX1_init_69 (by decide) (fun c62 => absurd c62 (by decide +kernel)) (fun c62 => ?_)
  refine lv_aload_n hx hb dX1_init_72 rfl (lv_at hl 1 rfl) ?_
  refine va_get (D := (dC, dI)) (ci := 1) (v := .ref q3) (C := RX1) (T := TX1) (N := 5) hx hb hts inX1 hown hK hP 0 rfl rfl 1 (by decide) (hts _ pq217) (fun _ h9 => h9) rfl dX1_init_73 ?_
  refine lv_iload_n hx hb dX1_init_76 rfl (lv_at hl 0 rfl) ?_
  refine va_new (ci := 0) (fs := [.int 0, .int 0, .int 0, .int 0, .int 0, .int 0, .int 0, .int 0]) (C := RX0) (T := TX0) (N := 8) hx hb hts inX0 tyX0 tyX0_ok hown (hts _ pq109) (hts _ pq164) (hts _ pq77) hK hP hD hS hA rfl dfX0 (Nat.le_of_ble_eq_true rfl) (Nat.le_of_ble_eq_true rfl) dX1_init_77 (fun q63 H hP hD hS => ?_)
  have hP : va_P (dC, dI) vwCl [(h0, .inr (1, [.ref q1, .ref q3, .int 0, .int 0, .int 0])), (q1, .inl (k2, 8, .inr (.inr (.inr (.inr f36))))), (q3, .inl (k4, 10, .inr (.inr (.inr (.inr f61))))), (q63, .inr (0, [.int 0, .int 0, .int 0, .int 0, .int 0, .int 0, .int 0, .int 0]))] H := hP
  have hD : va_D A [(h0, .inr (1, [.ref q1, .ref q3, .int 0, .int 0, .int 0])), (q1, .inl (k2, 8, .inr (.inr (.inr (.inr f36))))), (q3, .inl (k4, 10, .inr (.inr (.inr (.inr f61))))), (q63, .inr (0, [.int 0, .int 0, .int 0, .int 0, .int 0, .int 0, .int 0, .int 0]))] := hD
  refine W.widen (k := 27) (n := 794) (Nat.le_of_ble_eq_true rfl) (Nat.le_of_ble_eq_true rfl) ?_
  refine lv_dup hx hb dX1_init_80 rfl ?_
  have hPc := hP.sub (ws' := [(q63, .inr (0, [.int 0, .int 0, .int 0, .int 0, .int 0, .int 0, .int 0, .int 0]))]) [3] rfl
  have hDc := hD.sub (ws' := [(q63, .inr (0, [.int 0, .int 0, .int 0, .int 0, .int 0, .int 0, .int 0, .int 0]))]) [3] (by decide) rfl
  have hKc := hK.sub (tys' := []) [] rfl
  refine ro_v (va_runIN (As := []) (rest := [.ref q63, .int 8, .ref q3]) ⟨hx, hb, hml, hown, hts⟩ (c_X0_init l dC dI q63 H.size  ) ⟨va_cnB 0 hts (gI pq167) rfl rfl rfl (xN_X1_34 hN) (hts _ pq77) (by decide +kernel) ⟨(Nat.le_of_ble_eq_true rfl), (Nat.le_of_ble_eq_true rfl)⟩, rfl, hts _ pq166⟩ (pc_S hPc hDc hKc hN) rfl rfl hl.1 rfl (lv_room (Nat.le_of_ble_eq_true rfl)) dX1_init_81 ⟨(Nat.le_of_ble_eq_true rfl), (Nat.le_of_ble_eq_true rfl)⟩) hS hP (fun H locs hP hS => ?_)
  refine va_astq hx hb hK hP hD hS 2 1 3 0 rfl rfl rfl rfl (in_d (by decide +kernel)) dX1_init_84 (fun H locs hP hD hS => ?_)
  obtain ⟨f64, hP, hD⟩ : ∃ f64 : Nat → Option Nat, va_P (dC, dI) vwCl [(h0, .inr (1, [.ref q1, .ref q3, .int 0, .int 0, .int 0])), (q1, .inl (k2, 8, .inr (.inr (.inr (.inr f36))))), (q3, .inl (k4, 10, .inr (.inr (.inr (.inr f64))))), (q63, .inr (0, [.int 0, .int 0, .int 0, .int 0, .int 0, .int 0, .int 0, .int 0]))] H ∧ va_D A [(h0, .inr (1, [.ref q1, .ref q3, .int 0, .int 0, .int 0])), (q1, .inl (k2, 8, .inr (.inr (.inr (.inr f36))))), (q3, .inl (k4, 10, .inr (.inr (.inr (.inr f64))))), (q63, .inr (0, [.int 0, .int 0, .int 0, .int 0, .int 0, .int 0, .int 0, .int 0]))] := ⟨_, hP, hD⟩
  have hP := hP.sub (ws' := [(h0, .inr (1, [.ref q1, .ref q3, .int 0, .int 0, .int 0])), (q1, .inl (k2, 8, .inr (.inr (.inr (.inr f36))))), (q3, .inl (k4, 10, .inr (.inr (.inr (.inr f64)))))]) [0, 1, 2] rfl
  have hD := hD.sub (ws' := [(h0, .inr (1, [.ref q1, .ref q3, .int 0, .int 0, .int 0])), (q1, .inl (k2, 8, .inr (.inr (.inr (.inr f36))))), (q3, .inl (k4, 10, .inr (.inr (.inr (.inr f64)))))]) [0, 1, 2] (by decide) rfl
  refine lv_iinc (v := 9) (lv' := [(1, .int 9), (0, .ref h0)]) hx hb dX1_init_85 hl (k := 0) rfl (by decide +kernel) (by decide) rfl (fun ls hl => ?_)
  refine lv_goto (tgt := 66) hx hb dX1_init_88 (by decide) ?_
  refine lv_iload_n hx hb dX1_init_66 rfl (lv_at hl 0 rfl) ?_
  refine lv_bipush (v := 10) hx hb dX1_init_67 (by decide +kernel) ?_
  refine lv_icmp_ge (tgt := 91) hx hb dX1_init_69 (by decide) (fun c65 => absurd c65 (by decide +kernel)) (fun c65 => ?_)
  refine lv_aload_n hx hb dX1_init_72 rfl (lv_at hl 1 rfl) ?_
  refine va_get (D := (dC, dI)) (ci := 1) (v := .ref q3) (C := RX1) (T := TX1) (N := 5) hx hb hts inX1 hown hK hP 0 rfl rfl 1 (by decide) (hts _ pq217) (fun _ h9 => h9) rfl dX1_init_73 ?_
  refine lv_iload_n hx hb dX1_init_76 rfl (lv_at hl 0 rfl) ?_
  refine va_new (ci := 0) (fs := [.int 0, .int 0, .int 0, .int 0, .int 0, .int 0, .int 0, .int 0]) (C := RX0) (T := TX0) (N := 8) hx hb hts inX0 tyX0 tyX0_ok hown (hts _ pq109) (hts _ pq164) (hts _ pq77) hK hP hD hS hA rfl dfX0 (Nat.le_of_ble_eq_true rfl) (Nat.le_of_ble_eq_true rfl) dX1_init_77 (fun q66 H hP hD hS => ?_)
  have hP : va_P (dC, dI) vwCl [(h0, .inr (1, [.ref q1, .ref q3, .int 0, .int 0, .int 0])), (q1, .inl (k2, 8, .inr (.inr (.inr (.inr f36))))), (q3, .inl (k4, 10, .inr (.inr (.inr (.inr f64))))), (q66, .inr (0, [.int 0, .int 0, .int 0, .int 0, .int 0, .int 0, .int 0, .int 0]))] H := hP
  have hD : va_D A [(h0, .inr (1, [.ref q1, .ref q3, .int 0, .int 0, .int 0])), (q1, .inl (k2, 8, .inr (.inr (.inr (.inr f36))))), (q3, .inl (k4, 10, .inr (.inr (.inr (.inr f64))))), (q66, .inr (0, [.int 0, .int 0, .int 0, .int 0, .int 0, .int 0, .int 0, .int 0]))] := hD
  refine W.widen (k := 28) (n := 802) (Nat.le_of_ble_eq_true rfl) (Nat.le_of_ble_eq_true rfl) ?_
  refine lv_dup hx hb dX1_init_80 rfl ?_
  have hPc := hP.sub (ws' := [(q66, .inr (0, [.int 0, .int 0, .int 0, .int 0, .int 0, .int 0, .int 0, .int 0]))]) [3] rfl
  have hDc := hD.sub (ws' := [(q66, .inr (0, [.int 0, .int 0, .int 0, .int 0, .int 0, .int 0, .int 0, .int 0]))]) [3] (by decide) rfl
  have hKc := hK.sub (tys' := []) [] rfl
  refine ro_v (va_runIN (As := []) (rest := [.ref q66, .int 9, .ref q3]) ⟨hx, hb, hml, hown, hts⟩ (c_X0_init l dC dI q66 H.size  ) ⟨va_cnB 0 hts (gI pq167) rfl rfl rfl (xN_X1_34 hN) (hts _ pq77) (by decide +kernel) ⟨(Nat.le_of_ble_eq_true rfl), (Nat.le_of_ble_eq_true rfl)⟩, rfl, hts _ pq166⟩ (pc_S hPc hDc hKc hN) rfl rfl hl.1 rfl (lv_room (Nat.le_of_ble_eq_true rfl)) dX1_init_81 ⟨(Nat.le_of_ble_eq_true rfl), (Nat.le_of_ble_eq_true rfl)⟩) hS hP (fun H locs hP hS => ?_)
  refine va_astq hx hb hK hP hD hS 2 1 3 0 rfl rfl rfl rfl (in_d (by decide +kernel)) dX1_init_84 (fun H locs hP hD hS => ?_)
  obtain ⟨f67, hP, hD⟩ : ∃ f67 : Nat → Option Nat, va_P (dC, dI) vwCl [(h0, .inr (1, [.ref q1, .ref q3, .int 0, .int 0, .int 0])), (q1, .inl (k2, 8, .inr (.inr (.inr (.inr f36))))), (q3, .inl (k4, 10, .inr (.inr (.inr (.inr f67))))), (q66, .inr (0, [.int 0, .int 0, .int 0, .int 0, .int 0, .int 0, .int 0, .int 0]))] H ∧ va_D A [(h0, .inr (1, [.ref q1, .ref q3, .int 0, .int 0, .int 0])), (q1, .inl (k2, 8, .inr (.inr (.inr (.inr f36))))), (q3, .inl (k4, 10, .inr (.inr (.inr (.inr f67))))), (q66, .inr (0, [.int 0, .int 0, .int 0, .int 0, .int 0, .int 0, .int 0, .int 0]))] := ⟨_, hP, hD⟩
  have hP := hP.sub (ws' := [(h0, .inr (1, [.ref q1, .ref q3, .int 0, .int 0, .int 0])), (q1, .inl (k2, 8, .inr (.inr (.inr (.inr f36))))), (q3, .inl (k4, 10, .inr (.inr (.inr (.inr f67)))))]) [0, 1, 2] rfl
  have hD := hD.sub (ws' := [(h0, .inr (1, [.ref q1, .ref q3, .int 0, .int 0, .int 0])), (q1, .inl (k2, 8, .inr (.inr (.inr (.inr f36))))), (q3, .inl (k4, 10, .inr (.inr (.inr (.inr f67)))))]) [0, 1, 2] (by decide) rfl
  refine lv_iinc (v := 10) (lv' := [(1, .int 10), (0, .ref h0)]) hx hb dX1_init_85 hl (k := 0) rfl (by decide +kernel) (by decide) rfl (fun ls hl => ?_)
  refine lv_goto (tgt := 66) hx hb dX1_init_88 (by decide) ?_
  refine lv_iload_n hx hb dX1_init_66 rfl (lv_at hl 0 rfl) ?_
  refine lv_bipush (v := 10) hx hb dX1_init_67 (by decide +kernel) ?_
  refine lv_icmp_ge (tgt := 91) hx hb dX1_init_69 (by decide) (fun c68 => ?_) (fun c68 => absurd (by decide +kernel) c68)
  have hP9 := hP.sub (ws' := [(h0, .inr (1, [.ref q1, .ref q3, .int 0, .int 0, .int 0]))]) [0] rfl
  have hD9 := hD.sub (ws' := [(h0, .inr (1, [.ref q1, .ref q3, .int 0, .int 0, .int 0]))]) [0] (by decide) rfl
  have hK9 := hK.sub (tys' := []) [] rfl
  exact W.vret hx hb hr (fun t ht hW => ⟨⟨(), rfl, trivial, ⟨q1, q3, by rw [ht]; exact hP9, va_K.moved hW.alike hK9, hD9⟩⟩, hS.F ht⟩) hS.2.2 dX1_init_91
