abbrev cX0_init : ByteArray := prog_2_method_1_code
abbrev cX3_init : ByteArray := prog_5_method_1_code
theorem dX0_init_0 : decode cX0_init 0 = .ok (.aload_n 0, 1) := by decide +kernel
theorem dX0_init_1 : decode cX0_init 1 = .ok (.invokespecial 1, 3) := by decide +kernel
theorem dX0_init_4 : decode cX0_init 4 = .ok (.return_, 1) := by decide +kernel
theorem dX3_init_0 : decode cX3_init 0 = .ok (.aload_n 0, 1) := by decide +kernel
theorem dX3_init_1 : decode cX3_init 1 = .ok (.invokespecial 3, 3) := by decide +kernel
theorem dX3_init_4 : decode cX3_init 4 = .ok (.aload_n 0, 1) := by decide +kernel
theorem dX3_init_5 : decode cX3_init 5 = .ok (.bipush 80, 2) := by decide +kernel
theorem dX3_init_7 : decode cX3_init 7 = .ok (.newarray .long, 2) := by decide +kernel
theorem dX3_init_9 : decode cX3_init 9 = .ok (.putfield 9, 3) := by decide +kernel
theorem dX3_init_12 : decode cX3_init 12 = .ok (.return_, 1) := by decide +kernel
set_option maxRecDepth 100000 in
theorem pq99 : Cond.instanceMethod objectInit ∈ pw := pw_mem (i := 99) (by decide +kernel) rfl
set_option maxRecDepth 100000 in
theorem pq100 : Cond.code objectInit ⟨#[0xb1]⟩ 1 none ∈ pw := pw_mem (i := 100) (by rfl) rfl
set_option maxRecDepth 100000 in
theorem pq115 : Cond.methodLink RX3 3 objectInit ∈ pw := pw_mem (i := 115) (by decide +kernel) rfl
set_option maxRecDepth 100000 in
theorem pq163 : Cond.arrayClass .long ∈ pw := pw_mem (i := 163) (by decide +kernel) rfl
set_option maxRecDepth 100000 in
theorem pq168 : Cond.methodLink RX0 1 objectInit ∈ pw := pw_mem (i := 168) (by decide +kernel) rfl
set_option maxHeartbeats 4000000 in
set_option maxRecDepth 100000 in
theorem c_X0_init (l : Launch) (dC : Nat → ClassId) (dI : Nat → Nat → Nat) (h0 : Nat) (sz : Nat) : Met l yX0_init (.code yX0_init cX0_init 1 none :: pw) ({ frames := 1, cells := 0, slots := 0, locals := 12 }) (pc (dC, dI) [.ref h0] sz [(h0, .inr (0, [.int 0, .int 0, .int 0, .int 0, .int 0, .int 0, .int 0, .int 0]))] []) (va_Qv (fun (_ : Unit) => True) (fun _ _ => True) (fun _ => False)) 0 0 (fun _ => False) := by
  refine Met.ofW (cc := cX0_init) (maxL := 1) (ret := none) (by decide +kernel) rfl ?_
  intro p e s m args below meth c s₁ B hml hv
  obtain ⟨rfl, hsz, hP, hK, hD0, hN⟩ := hv
  have hx := B.exec
  have hb := B.bytes
  have hr := B.returns
  have hts := fun w (h : w ∈ pw) => atoms_spec (ws := Cond.code yX0_init cX0_init 1 none :: pw) B.pre w (List.mem_cons_of_mem _ h)
  have hown : s.vm.findClass RX0 = some m.cls := findClass_of_methodNamed B.named
  have hlocks := B.notSynchronized
  have hin : meth.name = "<init>" := (name_of_methodNamed B.named B.method).1
  subst hsz
  have hD := hD0
  obtain ⟨H, hHe⟩ : ∃ H : Heap, H = s.heap := ⟨_, rfl⟩
  have hS : va_S (fun _ => False) s.heap H [] := by rw [hHe]; exact va_S.rf
  rw [← hHe] at hP
  have hl := lv_entry ([.ref h0]) (n := 1) (Nat.le_of_ble_eq_true rfl)
  rw [lg_entry_eq]
  generalize (lg_sl ([.ref h0]) ++ List.replicate (1 - (lg_sl ([.ref h0])).length) Slot.unset).toArray = ls at hl ⊢
  have hl : lv_has ls 1 [(0, .ref h0)] := hl
  rw [← hHe]
  refine lv_aload_n hx hb dX0_init_0 rfl (lv_at hl 0 rfl) ?_
  refine W.objInit hx hb hown (hts _ pq168) (hts _ pq99) (hts _ pq100) rfl (by rw [hml]; exact hl.1) rfl dX0_init_1 (Nat.le_of_ble_eq_true rfl) (Nat.le_of_ble_eq_true rfl) ?_
  refine W.eq (g2 := F0 m 4 ls []) rfl ?_
  exact W.vret hx hb hr (fun t ht hW => ⟨⟨(), rfl, trivial, trivial⟩, hS.F ht⟩) hS.2.2 dX0_init_4

set_option maxHeartbeats 4000000 in
set_option maxRecDepth 100000 in
theorem c_X3_init (l : Launch) (dC : Nat → ClassId) (dI : Nat → Nat → Nat) (h0 : Nat) (sz : Nat) : Met l yX3_init (.code yX3_init cX3_init 1 none :: pw) ({ frames := 1, cells := 1, slots := 80, locals := 12 }) (pc (dC, dI) [.ref h0] sz [(h0, .inr (3, [.int 0, .int 0, .null, .int 0, .int 0, .int 0, .int 0, .int 0]))] []) (va_Qv (fun (_ : Unit) => True) (fun _ t => ∃ (w : Nat), ∃ (kJ : ClassId), wB (dC, dI) [(h0, .inr (3, [.int 0, .int 0, .ref w, .int 0, .int 0, .int 0, .int 0, .int 0])), (w, .inl (kJ, 80, .inr (.inl (fun _ => 0))))] [(kJ, .long)] (va_A [(h0, .inr (3, [.int 0, .int 0, .null, .int 0, .int 0, .int 0, .int 0, .int 0]))] sz) t) (va_A [(h0, .inr (3, [.int 0, .int 0, .null, .int 0, .int 0, .int 0, .int 0, .int 0]))] sz)) 1 80 (va_A [(h0, .inr (3, [.int 0, .int 0, .null, .int 0, .int 0, .int 0, .int 0, .int 0]))] sz) := by
  refine Met.ofW (cc := cX3_init) (maxL := 1) (ret := none) (by decide +kernel) rfl ?_
  intro p e s m args below meth c s₁ B hml hv
  obtain ⟨rfl, hsz, hP, hK, hD0, hN⟩ := hv
  have hx := B.exec
  have hb := B.bytes
  have hr := B.returns
  have hts := fun w (h : w ∈ pw) => atoms_spec (ws := Cond.code yX3_init cX3_init 1 none :: pw) B.pre w (List.mem_cons_of_mem _ h)
  have hown : s.vm.findClass RX3 = some m.cls := findClass_of_methodNamed B.named
  have hlocks := B.notSynchronized
  have hin : meth.name = "<init>" := (name_of_methodNamed B.named B.method).1
  subst hsz
  have hD := hD0.self (sz := s.heap.size)
  generalize hAe : va_A [(h0, .inr (3, [.int 0, .int 0, .null, .int 0, .int 0, .int 0, .int 0, .int 0]))] s.heap.size = A at hD ⊢
  have hA : ∀ q : Nat, s.heap.size ≤ q → A q := fun q h => by rw [← hAe]; exact Or.inr h
  obtain ⟨H, hHe⟩ : ∃ H : Heap, H = s.heap := ⟨_, rfl⟩
  have hS : va_S A s.heap H [] := by rw [hHe]; exact va_S.rf
  rw [← hHe] at hP
  have hl := lv_entry ([.ref h0]) (n := 1) (Nat.le_of_ble_eq_true rfl)
  rw [lg_entry_eq]
  generalize (lg_sl ([.ref h0]) ++ List.replicate (1 - (lg_sl ([.ref h0])).length) Slot.unset).toArray = ls at hl ⊢
  have hl : lv_has ls 1 [(0, .ref h0)] := hl
  rw [← hHe]
  refine lv_aload_n hx hb dX3_init_0 rfl (lv_at hl 0 rfl) ?_
  refine W.objInit hx hb hown (hts _ pq115) (hts _ pq99) (hts _ pq100) rfl (by rw [hml]; exact hl.1) rfl dX3_init_1 (Nat.le_of_ble_eq_true rfl) (Nat.le_of_ble_eq_true rfl) ?_
  refine W.eq (g2 := F0 m 4 ls []) rfl ?_
  refine lv_aload_n hx hb dX3_init_4 rfl (lv_at hl 0 rfl) ?_
  refine lv_bipush (v := 80) hx hb dX3_init_5 (by decide +kernel) ?_
  refine va_newa (atype := .long) (ty := .long) (a0 := (80, .inr (.inl (fun _ => 0)))) hx hb (hts _ pq163) rfl hK hP hD hS hA (fun _ => rfl) (by decide +kernel) (by decide +kernel) (Nat.le_of_ble_eq_true rfl) (Nat.le_of_ble_eq_true rfl) (Nat.le_of_ble_eq_true rfl) dX3_init_7 (fun q1 k2 H hK hP hD hS => ?_)
  have hP : va_P (dC, dI) vwCl [(h0, .inr (3, [.int 0, .int 0, .null, .int 0, .int 0, .int 0, .int 0, .int 0])), (q1, .inl (k2, 80, .inr (.inl (fun _ => 0))))] H := hP
  have hD : va_D A [(h0, .inr (3, [.int 0, .int 0, .null, .int 0, .int 0, .int 0, .int 0, .int 0])), (q1, .inl (k2, 80, .inr (.inl (fun _ => 0))))] := hD
  have hK : va_K (dC, dI) vwCl [(k2, .long)] s := hK
  refine W.widen (k := 1) (n := 80) (Nat.le_of_ble_eq_true rfl) (Nat.le_of_ble_eq_true rfl) ?_
  refine va_putF (D := (dC, dI)) (ci := 3) (v := .ref q1) (ty := tyX3 2) (C := RX3) (T := TX3) (N := 8) hx hb hts inX3 tyX3 tyX3_ok nmX3 hown hK hP hD hS 0 rfl rfl 2 (by decide) (hts _ pq124) (fun _ h9 => h9) rfl hin rfl (by decide +kernel) rfl rfl (Nat.le_of_ble_eq_true rfl) dX3_init_9 (fun H locs hP hD hS => ?_)
  have hP : va_P (dC, dI) vwCl [(h0, .inr (3, [.int 0, .int 0, .ref q1, .int 0, .int 0, .int 0, .int 0, .int 0])), (q1, .inl (k2, 80, .inr (.inl (fun _ => 0))))] H := hP
  have hD : va_D A [(h0, .inr (3, [.int 0, .int 0, .ref q1, .int 0, .int 0, .int 0, .int 0, .int 0])), (q1, .inl (k2, 80, .inr (.inl (fun _ => 0))))] := hD
  have hP9 := hP.sub (ws' := [(h0, .inr (3, [.int 0, .int 0, .ref q1, .int 0, .int 0, .int 0, .int 0, .int 0])), (q1, .inl (k2, 80, .inr (.inl (fun _ => 0))))]) [0, 1] rfl
  have hD9 := hD.sub (ws' := [(h0, .inr (3, [.int 0, .int 0, .ref q1, .int 0, .int 0, .int 0, .int 0, .int 0])), (q1, .inl (k2, 80, .inr (.inl (fun _ => 0))))]) [0, 1] (by decide) rfl
  have hK9 := hK.sub (tys' := [(k2, .long)]) [0] rfl
  exact W.vret hx hb hr (fun t ht hW => ⟨⟨(), rfl, trivial, ⟨q1, k2, by rw [ht]; exact hP9, va_K.moved hW.alike hK9, hD9⟩⟩, hS.F ht⟩) hS.2.2 dX3_init_12
