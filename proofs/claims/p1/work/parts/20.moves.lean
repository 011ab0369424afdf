def yX7_laysAside : MethodName := ⟨RX7, "laysAside", "()V"⟩
def yX7_remembersAside : MethodName := ⟨RX7, "remembersAside", "()V"⟩
def yX7_moves : MethodName := ⟨RX7, "moves", "([I[JI[I[JI)V"⟩
abbrev cX7_moves : ByteArray := prog_9_method_4_code
abbrev cX7_laysAside : ByteArray := prog_9_method_25_code
abbrev cX7_remembersAside : ByteArray := prog_9_method_27_code
abbrev cX7_keepsPast : ByteArray := prog_9_method_26_code
def yX7_keepsPast : MethodName := ⟨RX7, "keepsPast", "()V"⟩
theorem dX7_keepsPast_0 : decode cX7_keepsPast 0 = .ok (.aload_n 0, 1) := by decide +kernel
theorem dX7_keepsPast_1 : decode cX7_keepsPast 1 = .ok (.invokevirtual 190, 3) := by decide +kernel
theorem dX7_keepsPast_4 : decode cX7_keepsPast 4 = .ok (.aload_n 0, 1) := by decide +kernel
theorem dX7_keepsPast_5 : decode cX7_keepsPast 5 = .ok (.invokevirtual 193, 3) := by decide +kernel
theorem dX7_keepsPast_8 : decode cX7_keepsPast 8 = .ok (.return_, 1) := by decide +kernel
theorem dX7_laysAside_0 : decode cX7_laysAside 0 = .ok (.aload_n 0, 1) := by decide +kernel
theorem dX7_laysAside_1 : decode cX7_laysAside 1 = .ok (.getfield 9, 3) := by decide +kernel
theorem dX7_laysAside_4 : decode cX7_laysAside 4 = .ok (.aload_n 0, 1) := by decide +kernel
theorem dX7_laysAside_5 : decode cX7_laysAside 5 = .ok (.getfield 25, 3) := by decide +kernel
theorem dX7_laysAside_8 : decode cX7_laysAside 8 = .ok (.iconst 0, 1) := by decide +kernel
theorem dX7_laysAside_9 : decode cX7_laysAside 9 = .ok (.aload_n 0, 1) := by decide +kernel
theorem dX7_laysAside_10 : decode cX7_laysAside 10 = .ok (.getfield 16, 3) := by decide +kernel
theorem dX7_laysAside_13 : decode cX7_laysAside 13 = .ok (.aload_n 0, 1) := by decide +kernel
theorem dX7_laysAside_14 : decode cX7_laysAside 14 = .ok (.getfield 32, 3) := by decide +kernel
theorem dX7_laysAside_17 : decode cX7_laysAside 17 = .ok (.iconst 0, 1) := by decide +kernel
theorem dX7_laysAside_18 : decode cX7_laysAside 18 = .ok (.invokestatic 184, 3) := by decide +kernel
theorem dX7_laysAside_21 : decode cX7_laysAside 21 = .ok (.return_, 1) := by decide +kernel
theorem dX7_moves_0 : decode cX7_moves 0 = .ok (.iconst 0, 1) := by decide +kernel
theorem dX7_moves_1 : decode cX7_moves 1 = .ok (.istore 6, 2) := by decide +kernel
theorem dX7_moves_3 : decode cX7_moves 3 = .ok (.iload 6, 2) := by decide +kernel
theorem dX7_moves_5 : decode cX7_moves 5 = .ok (.bipush 99, 2) := by decide +kernel
theorem dX7_moves_7 : decode cX7_moves 7 = .ok (.if_icmp .ge 28, 3) := by decide +kernel
theorem dX7_moves_10 : decode cX7_moves 10 = .ok (.aload_n 3, 1) := by decide +kernel
theorem dX7_moves_11 : decode cX7_moves 11 = .ok (.bipush 99, 2) := by decide +kernel
theorem dX7_moves_13 : decode cX7_moves 13 = .ok (.iload 5, 2) := by decide +kernel
theorem dX7_moves_15 : decode cX7_moves 15 = .ok (.imul, 1) := by decide +kernel
theorem dX7_moves_16 : decode cX7_moves 16 = .ok (.iload 6, 2) := by decide +kernel
theorem dX7_moves_18 : decode cX7_moves 18 = .ok (.iadd, 1) := by decide +kernel
theorem dX7_moves_19 : decode cX7_moves 19 = .ok (.aload_n 0, 1) := by decide +kernel
theorem dX7_moves_20 : decode cX7_moves 20 = .ok (.bipush 99, 2) := by decide +kernel
theorem dX7_moves_22 : decode cX7_moves 22 = .ok (.iload_n 2, 1) := by decide +kernel
theorem dX7_moves_23 : decode cX7_moves 23 = .ok (.imul, 1) := by decide +kernel
theorem dX7_moves_24 : decode cX7_moves 24 = .ok (.iload 6, 2) := by decide +kernel
theorem dX7_moves_26 : decode cX7_moves 26 = .ok (.iadd, 1) := by decide +kernel
theorem dX7_moves_27 : decode cX7_moves 27 = .ok (.iaload, 1) := by decide +kernel
theorem dX7_moves_28 : decode cX7_moves 28 = .ok (.iastore, 1) := by decide +kernel
theorem dX7_moves_29 : decode cX7_moves 29 = .ok (.iinc 6 1, 3) := by decide +kernel
theorem dX7_moves_32 : decode cX7_moves 32 = .ok (.goto (-29), 3) := by decide +kernel
theorem dX7_moves_35 : decode cX7_moves 35 = .ok (.iconst 0, 1) := by decide +kernel
theorem dX7_moves_36 : decode cX7_moves 36 = .ok (.istore 6, 2) := by decide +kernel
theorem dX7_moves_38 : decode cX7_moves 38 = .ok (.iload 6, 2) := by decide +kernel
theorem dX7_moves_40 : decode cX7_moves 40 = .ok (.sipush 640, 3) := by decide +kernel
theorem dX7_moves_43 : decode cX7_moves 43 = .ok (.if_icmp .ge 31, 3) := by decide +kernel
theorem dX7_moves_46 : decode cX7_moves 46 = .ok (.aload 4, 2) := by decide +kernel
theorem dX7_moves_48 : decode cX7_moves 48 = .ok (.sipush 640, 3) := by decide +kernel
theorem dX7_moves_51 : decode cX7_moves 51 = .ok (.iload 5, 2) := by decide +kernel
theorem dX7_moves_53 : decode cX7_moves 53 = .ok (.imul, 1) := by decide +kernel
theorem dX7_moves_54 : decode cX7_moves 54 = .ok (.iload 6, 2) := by decide +kernel
theorem dX7_moves_56 : decode cX7_moves 56 = .ok (.iadd, 1) := by decide +kernel
theorem dX7_moves_57 : decode cX7_moves 57 = .ok (.aload_n 1, 1) := by decide +kernel
theorem dX7_moves_58 : decode cX7_moves 58 = .ok (.sipush 640, 3) := by decide +kernel
theorem dX7_moves_61 : decode cX7_moves 61 = .ok (.iload_n 2, 1) := by decide +kernel
theorem dX7_moves_62 : decode cX7_moves 62 = .ok (.imul, 1) := by decide +kernel
theorem dX7_moves_63 : decode cX7_moves 63 = .ok (.iload 6, 2) := by decide +kernel
theorem dX7_moves_65 : decode cX7_moves 65 = .ok (.iadd, 1) := by decide +kernel
theorem dX7_moves_66 : decode cX7_moves 66 = .ok (.laload, 1) := by decide +kernel
theorem dX7_moves_67 : decode cX7_moves 67 = .ok (.lastore, 1) := by decide +kernel
theorem dX7_moves_68 : decode cX7_moves 68 = .ok (.iinc 6 1, 3) := by decide +kernel
theorem dX7_moves_71 : decode cX7_moves 71 = .ok (.goto (-33), 3) := by decide +kernel
theorem dX7_moves_74 : decode cX7_moves 74 = .ok (.return_, 1) := by decide +kernel
theorem dX7_remembersAside_0 : decode cX7_remembersAside 0 = .ok (.aload_n 0, 1) := by decide +kernel
theorem dX7_remembersAside_1 : decode cX7_remembersAside 1 = .ok (.getfield 187, 3) := by decide +kernel
theorem dX7_remembersAside_4 : decode cX7_remembersAside 4 = .ok (.bipush 10, 2) := by decide +kernel
theorem dX7_remembersAside_6 : decode cX7_remembersAside 6 = .ok (.if_icmp .ne 50, 3) := by decide +kernel
theorem dX7_remembersAside_56 : decode cX7_remembersAside 56 = .ok (.aload_n 0, 1) := by decide +kernel
theorem dX7_remembersAside_57 : decode cX7_remembersAside 57 = .ok (.getfield 16, 3) := by decide +kernel
theorem dX7_remembersAside_60 : decode cX7_remembersAside 60 = .ok (.aload_n 0, 1) := by decide +kernel
theorem dX7_remembersAside_61 : decode cX7_remembersAside 61 = .ok (.getfield 32, 3) := by decide +kernel
theorem dX7_remembersAside_64 : decode cX7_remembersAside 64 = .ok (.iconst 0, 1) := by decide +kernel
theorem dX7_remembersAside_65 : decode cX7_remembersAside 65 = .ok (.aload_n 0, 1) := by decide +kernel
theorem dX7_remembersAside_66 : decode cX7_remembersAside 66 = .ok (.getfield 19, 3) := by decide +kernel
theorem dX7_remembersAside_69 : decode cX7_remembersAside 69 = .ok (.aload_n 0, 1) := by decide +kernel
theorem dX7_remembersAside_70 : decode cX7_remembersAside 70 = .ok (.getfield 35, 3) := by decide +kernel
theorem dX7_remembersAside_73 : decode cX7_remembersAside 73 = .ok (.aload_n 0, 1) := by decide +kernel
theorem dX7_remembersAside_74 : decode cX7_remembersAside 74 = .ok (.getfield 187, 3) := by decide +kernel
theorem dX7_remembersAside_77 : decode cX7_remembersAside 77 = .ok (.invokestatic 184, 3) := by decide +kernel
theorem dX7_remembersAside_80 : decode cX7_remembersAside 80 = .ok (.aload_n 0, 1) := by decide +kernel
theorem dX7_remembersAside_81 : decode cX7_remembersAside 81 = .ok (.dup, 1) := by decide +kernel
theorem dX7_remembersAside_82 : decode cX7_remembersAside 82 = .ok (.getfield 187, 3) := by decide +kernel
theorem dX7_remembersAside_85 : decode cX7_remembersAside 85 = .ok (.iconst 1, 1) := by decide +kernel
theorem dX7_remembersAside_86 : decode cX7_remembersAside 86 = .ok (.iadd, 1) := by decide +kernel
theorem dX7_remembersAside_87 : decode cX7_remembersAside 87 = .ok (.putfield 187, 3) := by decide +kernel
theorem dX7_remembersAside_90 : decode cX7_remembersAside 90 = .ok (.return_, 1) := by decide +kernel
set_option maxRecDepth 100000 in
theorem pq27 : Cond.selects RX7 yX7_laysAside yX7_laysAside ∈ pw := pw_mem (i := 27) (by decide +kernel) rfl
set_option maxRecDepth 100000 in
theorem pq28 : Cond.selects RX7 yX7_remembersAside yX7_remembersAside ∈ pw := pw_mem (i := 28) (by decide +kernel) rfl
set_option maxRecDepth 100000 in
theorem pq1291 : Cond.methodLink RX7 184 yX7_moves ∈ pw := pw_mem (i := 1291) (by decide +kernel) rfl
set_option maxRecDepth 100000 in
theorem pq1292 : Cond.static yX7_moves ∈ pw := pw_mem (i := 1292) (by decide +kernel) rfl
set_option maxRecDepth 100000 in
theorem pq1293 : Cond.code yX7_moves cX7_moves 7 none ∈ pw := pw_mem (i := 1293) (by rfl) rfl
set_option maxRecDepth 100000 in
theorem pq1328 : Cond.methodLink RX7 190 yX7_laysAside ∈ pw := pw_mem (i := 1328) (by decide +kernel) rfl
set_option maxRecDepth 100000 in
theorem pq1330 : Cond.instanceMethod yX7_laysAside ∈ pw := pw_mem (i := 1330) (by decide +kernel) rfl
set_option maxRecDepth 100000 in
theorem pq1331 : Cond.code yX7_laysAside cX7_laysAside 1 none ∈ pw := pw_mem (i := 1331) (by rfl) rfl
set_option maxRecDepth 100000 in
theorem pq1332 : Cond.methodLink RX7 193 yX7_remembersAside ∈ pw := pw_mem (i := 1332) (by decide +kernel) rfl
set_option maxRecDepth 100000 in
theorem pq1334 : Cond.instanceMethod yX7_remembersAside ∈ pw := pw_mem (i := 1334) (by decide +kernel) rfl
set_option maxRecDepth 100000 in
theorem pq1335 : Cond.code yX7_remembersAside cX7_remembersAside 2 none ∈ pw := pw_mem (i := 1335) (by rfl) rfl
set_option maxHeartbeats 4000000 in
set_option maxRecDepth 100000 in
theorem c_X7_moves_0 (l : Launch) (dC : Nat → ClassId) (dI : Nat → Nat → Nat) (p0 p1 p3 p4 : Nat) (k0 k1 k3 k4 : ClassId) (sz : Nat) (nT : Nat) (nD : Nat) (g0 : 99 ≤ nT ∧ nT < 2 ^ 31) (g1 : 640 ≤ nD ∧ nD < 2 ^ 31) : Met l yX7_moves (.code yX7_moves cX7_moves 7 none :: pw) ({ frames := 0, cells := 0, slots := 0, locals := 0 }) (pc (dC, dI) [.ref p0, .ref p1, .int 0, .ref p3, .ref p4, .int 0] sz [(p0, .inl (k0, 99, .inl (fun _ => 0))), (p1, .inl (k1, 640, .inr (.inl (fun _ => 0)))), (p3, .inl (k3, nT, .inl (fun _ => 0))), (p4, .inl (k4, nD, .inr (.inl (fun _ => 0))))] [(k0, .int), (k1, .long), (k3, .int), (k4, .long)]) (va_Qv (fun (_ : Unit) => True) (fun _ t => wB (dC, dI) [(p0, .inl (k0, 99, .inl (fun _ => 0))), (p1, .inl (k1, 640, .inr (.inl (fun _ => 0)))), (p3, .inl (k3, nT, .inl (fun _ => 0))), (p4, .inl (k4, nD, .inr (.inl (fun _ => 0))))] [(k0, .int), (k1, .long), (k3, .int), (k4, .long)] (va_A [(p0, .inl (k0, 99, .inl (fun _ => 0))), (p1, .inl (k1, 640, .inr (.inl (fun _ => 0)))), (p3, .inl (k3, nT, .inl (fun _ => 0))), (p4, .inl (k4, nD, .inr (.inl (fun _ => 0))))] sz) t) (va_A [(p0, .inl (k0, 99, .inl (fun _ => 0))), (p1, .inl (k1, 640, .inr (.inl (fun _ => 0)))), (p3, .inl (k3, nT, .inl (fun _ => 0))), (p4, .inl (k4, nD, .inr (.inl (fun _ => 0))))] sz)) 0 0 (va_A [(p0, .inl (k0, 99, .inl (fun _ => 0))), (p1, .inl (k1, 640, .inr (.inl (fun _ => 0)))), (p3, .inl (k3, nT, .inl (fun _ => 0))), (p4, .inl (k4, nD, .inr (.inl (fun _ => 0))))] sz) := by
  refine Met.ofW (cc := cX7_moves) (maxL := 7) (ret := none) (by decide +kernel) rfl ?_
  intro p e s m args below meth c s₁ B hml hv
  obtain ⟨rfl, hsz, hP, hK, hD0, hN⟩ := hv
  have hx := B.exec
  have hb := B.bytes
  have hr := B.returns
  have hts := fun w (h : w ∈ pw) => atoms_spec (ws := Cond.code yX7_moves cX7_moves 7 none :: pw) B.pre w (List.mem_cons_of_mem _ h)
  have hown : s.vm.findClass RX7 = some m.cls := findClass_of_methodNamed B.named
  have hlocks := B.notSynchronized
  subst hsz
  have hD := hD0.self (sz := s.heap.size)
  generalize hAe : va_A [(p0, .inl (k0, 99, .inl (fun _ => 0))), (p1, .inl (k1, 640, .inr (.inl (fun _ => 0)))), (p3, .inl (k3, nT, .inl (fun _ => 0))), (p4, .inl (k4, nD, .inr (.inl (fun _ => 0))))] s.heap.size = A at hD ⊢
  have hA : ∀ q : Nat, s.heap.size ≤ q → A q := fun q h => by rw [← hAe]; exact Or.inr h
  obtain ⟨H, hHe⟩ : ∃ H : Heap, H = s.heap := ⟨_, rfl⟩
  have hS : va_S A s.heap H [] := by rw [hHe]; exact va_S.rf
  rw [← hHe] at hP
  have hl := lv_entry ([.ref p0, .ref p1, .int 0, .ref p3, .ref p4, .int 0]) (n := 7) (Nat.le_of_ble_eq_true rfl)
  rw [lg_entry_eq]
  generalize (lg_sl ([.ref p0, .ref p1, .int 0, .ref p3, .ref p4, .int 0]) ++ List.replicate (7 - (lg_sl ([.ref p0, .ref p1, .int 0, .ref p3, .ref p4, .int 0])).length) Slot.unset).toArray = ls at hl ⊢
  have hl : lv_has ls 7 [(0, .ref p0), (1, .ref p1), (2, .int 0), (3, .ref p3), (4, .ref p4), (5, .int 0)] := hl
  rw [← hHe]
  refine lv_iconst (v := 0) hx hb dX7_moves_0 (by decide +kernel) ?_
  refine lv_istore (lv' := [(6, .int 0), (0, .ref p0), (1, .ref p1), (2, .int 0), (3, .ref p3), (4, .ref p4), (5, .int 0)]) hx hb dX7_moves_1 hl (by decide) rfl (fun ls hl => ?_)
  refine namedW (fun R Q hR hQ => ?_)
  refine loopW (α := Nat) (I := fun j ls H lo => j ≤ 99 ∧ va_P (dC, dI) vwCl [(p0, .inl (k0, 99, .inl (fun _ => 0))), (p1, .inl (k1, 640, .inr (.inl (fun _ => 0)))), (p3, .inl (k3, nT, .inl (fun _ => 0))), (p4, .inl (k4, nD, .inr (.inl (fun _ => 0))))] H ∧ va_D A [(p0, .inl (k0, 99, .inl (fun _ => 0))), (p1, .inl (k1, 640, .inr (.inl (fun _ => 0)))), (p3, .inl (k3, nT, .inl (fun _ => 0))), (p4, .inl (k4, nD, .inr (.inl (fun _ => 0))))] ∧ va_S A s.heap H lo ∧ lv_has ls 7 [(6, .int (nI j)), (0, .ref p0), (1, .ref p1), (2, .int 0), (3, .ref p3), (4, .ref p4), (5, .int 0)]) (G := fun j ls H lo => W p l e R s m (([.ref p0, .ref p1, .int 0, .ref p3, .ref p4, .int 0] : List Value).toArray) below meth c H lo 0 0 Q (F0 m 3 ls [])) (mu := fun j => 99 - j) ?_ 0 ls H _ ⟨Nat.zero_le _, hP, hD, hS, hl⟩
  intro j ls H locs hI ihj
  subst hR; subst hQ
  obtain ⟨hjj, hP, hD, hS, hl⟩ := hI
  have hl : lv_has ls 7 [(6, .int (nI j)), (0, .ref p0), (1, .ref p1), (2, .int 0), (3, .ref p3), (4, .ref p4), (5, .int 0)] := hl
  refine lv_iload hx hb dX7_moves_3 (lv_at hl 0 rfl) ?_
  refine lv_bipush (v := 99) hx hb dX7_moves_5 (by decide +kernel) ?_
  refine lv_icmp_ge (tgt := 35) hx hb dX7_moves_7 (by decide) (fun c1 => ?_) (fun c1 => ?_)
  · refine lv_iconst (v := 0) hx hb dX7_moves_35 (by decide +kernel) ?_
    refine lv_istore (lv' := [(6, .int 0), (0, .ref p0), (1, .ref p1), (2, .int 0), (3, .ref p3), (4, .ref p4), (5, .int 0)]) hx hb dX7_moves_36 hl (by decide) rfl (fun ls hl => ?_)
    refine namedW (fun R Q hR hQ => ?_)
    refine loopW (α := Nat) (I := fun i ls H lo => i ≤ 640 ∧ va_P (dC, dI) vwCl [(p0, .inl (k0, 99, .inl (fun _ => 0))), (p1, .inl (k1, 640, .inr (.inl (fun _ => 0)))), (p3, .inl (k3, nT, .inl (fun _ => 0))), (p4, .inl (k4, nD, .inr (.inl (fun _ => 0))))] H ∧ va_D A [(p0, .inl (k0, 99, .inl (fun _ => 0))), (p1, .inl (k1, 640, .inr (.inl (fun _ => 0)))), (p3, .inl (k3, nT, .inl (fun _ => 0))), (p4, .inl (k4, nD, .inr (.inl (fun _ => 0))))] ∧ va_S A s.heap H lo ∧ lv_has ls 7 [(6, .int (nI i)), (0, .ref p0), (1, .ref p1), (2, .int 0), (3, .ref p3), (4, .ref p4), (5, .int 0)]) (G := fun i ls H lo => W p l e R s m (([.ref p0, .ref p1, .int 0, .ref p3, .ref p4, .int 0] : List Value).toArray) below meth c H lo 0 0 Q (F0 m 38 ls [])) (mu := fun i => 640 - i) ?_ 0 ls H _ ⟨Nat.zero_le _, hP, hD, hS, hl⟩
    intro i ls H locs hI ihi
    subst hR; subst hQ
    obtain ⟨hji, hP, hD, hS, hl⟩ := hI
    have hl : lv_has ls 7 [(6, .int (nI i)), (0, .ref p0), (1, .ref p1), (2, .int 0), (3, .ref p3), (4, .ref p4), (5, .int 0)] := hl
    refine lv_iload hx hb dX7_moves_38 (lv_at hl 0 rfl) ?_
    refine lv_sipush (v := 640) hx hb dX7_moves_40 (by decide +kernel) ?_
    refine lv_icmp_ge (tgt := 74) hx hb dX7_moves_43 (by decide) (fun c2 => ?_) (fun c2 => ?_)
    · have hP9 := hP.sub (ws' := [(p0, .inl (k0, 99, .inl (fun _ => 0))), (p1, .inl (k1, 640, .inr (.inl (fun _ => 0)))), (p3, .inl (k3, nT, .inl (fun _ => 0))), (p4, .inl (k4, nD, .inr (.inl (fun _ => 0))))]) [0, 1, 2, 3] rfl
      have hD9 := hD.sub (ws' := [(p0, .inl (k0, 99, .inl (fun _ => 0))), (p1, .inl (k1, 640, .inr (.inl (fun _ => 0)))), (p3, .inl (k3, nT, .inl (fun _ => 0))), (p4, .inl (k4, nD, .inr (.inl (fun _ => 0))))]) [0, 1, 2, 3] (by decide) rfl
      have hK9 := hK.sub (tys' := [(k0, .int), (k1, .long), (k3, .int), (k4, .long)]) [0, 1, 2, 3] rfl
      exact W.vret hx hb hr (fun t ht hW => ⟨⟨(), rfl, trivial, ⟨by rw [ht]; exact hP9, va_K.moved hW.alike hK9, hD9⟩⟩, hS.F ht⟩) hS.2.2 dX7_moves_74
    · refine lv_aload hx hb dX7_moves_46 (lv_at hl 5 rfl) ?_
      refine lv_sipush (v := 640) hx hb dX7_moves_48 (by decide +kernel) ?_
      refine lv_iload hx hb dX7_moves_51 (lv_at hl 6 rfl) ?_
      refine lv_imul hx hb dX7_moves_53 ?_
      refine lv_topi (fun z3 ez3 => ?_)
      obtain rfl : z3 = 0 := ez3.trans (by decide +kernel)
      refine lv_iload hx hb dX7_moves_54 (lv_at hl 0 rfl) ?_
      refine lv_iadd hx hb dX7_moves_56 ?_
      refine lv_topi (fun z4 ez4 => ?_)
      refine lv_aload_n hx hb dX7_moves_57 rfl (lv_at hl 2 rfl) ?_
      refine lv_sipush (v := 640) hx hb dX7_moves_58 (by decide +kernel) ?_
      refine lv_iload_n hx hb dX7_moves_61 rfl (lv_at hl 3 rfl) ?_
      refine lv_imul hx hb dX7_moves_62 ?_
      refine lv_topi (fun z5 ez5 => ?_)
      obtain rfl : z5 = 0 := ez5.trans (by decide +kernel)
      refine lv_iload hx hb dX7_moves_63 (lv_at hl 0 rfl) ?_
      refine lv_iadd hx hb dX7_moves_65 ?_
      refine lv_topi (fun z6 ez6 => ?_)
      refine va_lald hx hb hK hP 1 1 rfl rfl (by rw [ez6]; exact in_add 0 i 640 0 rfl (by have := nI_ltb (n := 640) (by omega) c2; omega) (by omega)) dX7_moves_66 ?_
      refine lv_topl (fun z7 ez7 => ?_)
      obtain rfl : z7 = 0 := ez7.trans (by decide +kernel)
      refine va_last hx hb hK hP hD hS 3 3 rfl rfl (by rw [ez4]; exact in_add 0 i nD 0 rfl (by have := nI_ltb (n := 640) (by omega) c2; omega) (by omega)) dX7_moves_67 (fun H locs hP hD hS => ?_)
      have hP : va_P (dC, dI) vwCl [(p0, .inl (k0, 99, .inl (fun _ => 0))), (p1, .inl (k1, 640, .inr (.inl (fun _ => 0)))), (p3, .inl (k3, nT, .inl (fun _ => 0))), (p4, .inl (k4, nD, .inr (.inl (vp_updL (fun _ => 0) z4.toNatClampNeg 0))))] H := hP
      have hD : va_D A [(p0, .inl (k0, 99, .inl (fun _ => 0))), (p1, .inl (k1, 640, .inr (.inl (fun _ => 0)))), (p3, .inl (k3, nT, .inl (fun _ => 0))), (p4, .inl (k4, nD, .inr (.inl (vp_updL (fun _ => 0) z4.toNatClampNeg 0))))] := hD
      rw [updL00] at hP hD
      obtain ⟨z8, ez8⟩ : ∃ y : Int32, y = nI i + 1 := ⟨_, rfl⟩
      refine lv_iinc (v := z8) (lv' := [(6, .int z8), (0, .ref p0), (1, .ref p1), (2, .int 0), (3, .ref p3), (4, .ref p4), (5, .int 0)]) hx hb dX7_moves_68 hl (k := 0) rfl (by rw [ez8]; rfl) (by decide) rfl (fun ls hl => ?_)
      refine lv_goto (tgt := 38) hx hb dX7_moves_71 (by decide) ?_
      have hlt : i < 640 := nI_ltb (n := 640) (by omega) c2
      obtain rfl : z8 = nI (i + 1) := ez8.trans (nI_1 i)
      exact ihi (i + 1) _ _ _ ⟨by omega, hP, hD, hS, lv_sub hl [0, 1, 2, 3, 4, 5, 6] rfl⟩ (by omega)
  · refine lv_aload_n hx hb dX7_moves_10 rfl (lv_at hl 4 rfl) ?_
    refine lv_bipush (v := 99) hx hb dX7_moves_11 (by decide +kernel) ?_
    refine lv_iload hx hb dX7_moves_13 (lv_at hl 6 rfl) ?_
    refine lv_imul hx hb dX7_moves_15 ?_
    refine lv_topi (fun z9 ez9 => ?_)
    obtain rfl : z9 = 0 := ez9.trans (by decide +kernel)
    refine lv_iload hx hb dX7_moves_16 (lv_at hl 0 rfl) ?_
    refine lv_iadd hx hb dX7_moves_18 ?_
    refine lv_topi (fun z10 ez10 => ?_)
    refine lv_aload_n hx hb dX7_moves_19 rfl (lv_at hl 1 rfl) ?_
    refine lv_bipush (v := 99) hx hb dX7_moves_20 (by decide +kernel) ?_
    refine lv_iload_n hx hb dX7_moves_22 rfl (lv_at hl 3 rfl) ?_
    refine lv_imul hx hb dX7_moves_23 ?_
    refine lv_topi (fun z11 ez11 => ?_)
    obtain rfl : z11 = 0 := ez11.trans (by decide +kernel)
    refine lv_iload hx hb dX7_moves_24 (lv_at hl 0 rfl) ?_
    refine lv_iadd hx hb dX7_moves_26 ?_
    refine lv_topi (fun z12 ez12 => ?_)
    refine va_iald hx hb hK hP 0 0 rfl rfl (by rw [ez12]; exact in_add 0 j 99 0 rfl (by have := nI_ltb (n := 99) (by omega) c1; omega) (by omega)) dX7_moves_27 ?_
    refine lv_topi (fun z13 ez13 => ?_)
    obtain rfl : z13 = 0 := ez13.trans (by decide +kernel)
    refine va_iast hx hb hK hP hD hS 2 2 rfl rfl (by rw [ez10]; exact in_add 0 j nT 0 rfl (by have := nI_ltb (n := 99) (by omega) c1; omega) (by omega)) dX7_moves_28 (fun H locs hP hD hS => ?_)
    have hP : va_P (dC, dI) vwCl [(p0, .inl (k0, 99, .inl (fun _ => 0))), (p1, .inl (k1, 640, .inr (.inl (fun _ => 0)))), (p3, .inl (k3, nT, .inl (upd (fun _ => 0) z10.toNatClampNeg 0))), (p4, .inl (k4, nD, .inr (.inl (fun _ => 0))))] H := hP
    have hD : va_D A [(p0, .inl (k0, 99, .inl (fun _ => 0))), (p1, .inl (k1, 640, .inr (.inl (fun _ => 0)))), (p3, .inl (k3, nT, .inl (upd (fun _ => 0) z10.toNatClampNeg 0))), (p4, .inl (k4, nD, .inr (.inl (fun _ => 0))))] := hD
    rw [upd00] at hP hD
    obtain ⟨z14, ez14⟩ : ∃ y : Int32, y = nI j + 1 := ⟨_, rfl⟩
    refine lv_iinc (v := z14) (lv' := [(6, .int z14), (0, .ref p0), (1, .ref p1), (2, .int 0), (3, .ref p3), (4, .ref p4), (5, .int 0)]) hx hb dX7_moves_29 hl (k := 0) rfl (by rw [ez14]; rfl) (by decide) rfl (fun ls hl => ?_)
    refine lv_goto (tgt := 3) hx hb dX7_moves_32 (by decide) ?_
    have hlt : j < 99 := nI_ltb (n := 99) (by omega) c1
    obtain rfl : z14 = nI (j + 1) := ez14.trans (nI_1 j)
    exact ihj (j + 1) _ _ _ ⟨by omega, hP, hD, hS, lv_sub hl [0, 1, 2, 3, 4, 5, 6] rfl⟩ (by omega)

set_option maxHeartbeats 4000000 in
set_option maxRecDepth 100000 in
theorem c_X7_moves_1 (l : Launch) (dC : Nat → ClassId) (dI : Nat → Nat → Nat) (p0 p1 p3 p4 : Nat) (k0 k1 k3 k4 : ClassId) (sz : Nat) (nT : Nat) (nD : Nat) (g0 : 198 ≤ nT ∧ nT < 2 ^ 31) (g1 : 1280 ≤ nD ∧ nD < 2 ^ 31) : Met l yX7_moves (.code yX7_moves cX7_moves 7 none :: pw) ({ frames := 0, cells := 0, slots := 0, locals := 0 }) (pc (dC, dI) [.ref p0, .ref p1, .int 0, .ref p3, .ref p4, .int 1] sz [(p0, .inl (k0, 99, .inl (fun _ => 0))), (p1, .inl (k1, 640, .inr (.inl (fun _ => 0)))), (p3, .inl (k3, nT, .inl (fun _ => 0))), (p4, .inl (k4, nD, .inr (.inl (fun _ => 0))))] [(k0, .int), (k1, .long), (k3, .int), (k4, .long)]) (va_Qv (fun (_ : Unit) => True) (fun _ t => wB (dC, dI) [(p0, .inl (k0, 99, .inl (fun _ => 0))), (p1, .inl (k1, 640, .inr (.inl (fun _ => 0)))), (p3, .inl (k3, nT, .inl (fun _ => 0))), (p4, .inl (k4, nD, .inr (.inl (fun _ => 0))))] [(k0, .int), (k1, .long), (k3, .int), (k4, .long)] (va_A [(p0, .inl (k0, 99, .inl (fun _ => 0))), (p1, .inl (k1, 640, .inr (.inl (fun _ => 0)))), (p3, .inl (k3, nT, .inl (fun _ => 0))), (p4, .inl (k4, nD, .inr (.inl (fun _ => 0))))] sz) t) (va_A [(p0, .inl (k0, 99, .inl (fun _ => 0))), (p1, .inl (k1, 640, .inr (.inl (fun _ => 0)))), (p3, .inl (k3, nT, .inl (fun _ => 0))), (p4, .inl (k4, nD, .inr (.inl (fun _ => 0))))] sz)) 0 0 (va_A [(p0, .inl (k0, 99, .inl (fun _ => 0))), (p1, .inl (k1, 640, .inr (.inl (fun _ => 0)))), (p3, .inl (k3, nT, .inl (fun _ => 0))), (p4, .inl (k4, nD, .inr (.inl (fun _ => 0))))] sz) := by
  refine Met.ofW (cc := cX7_moves) (maxL := 7) (ret := none) (by decide +kernel) rfl ?_
  intro p e s m args below meth c s₁ B hml hv
  obtain ⟨rfl, hsz, hP, hK, hD0, hN⟩ := hv
  have hx := B.exec
  have hb := B.bytes
  have hr := B.returns
  have hts := fun w (h : w ∈ pw) => atoms_spec (ws := Cond.code yX7_moves cX7_moves 7 none :: pw) B.pre w (List.mem_cons_of_mem _ h)
  have hown : s.vm.findClass RX7 = some m.cls := findClass_of_methodNamed B.named
  have hlocks := B.notSynchronized
  subst hsz
  have hD := hD0.self (sz := s.heap.size)
  generalize hAe : va_A [(p0, .inl (k0, 99, .inl (fun _ => 0))), (p1, .inl (k1, 640, .inr (.inl (fun _ => 0)))), (p3, .inl (k3, nT, .inl (fun _ => 0))), (p4, .inl (k4, nD, .inr (.inl (fun _ => 0))))] s.heap.size = A at hD ⊢
  have hA : ∀ q : Nat, s.heap.size ≤ q → A q := fun q h => by rw [← hAe]; exact Or.inr h
  obtain ⟨H, hHe⟩ : ∃ H : Heap, H = s.heap := ⟨_, rfl⟩
  have hS : va_S A s.heap H [] := by rw [hHe]; exact va_S.rf
  rw [← hHe] at hP
  have hl := lv_entry ([.ref p0, .ref p1, .int 0, .ref p3, .ref p4, .int 1]) (n := 7) (Nat.le_of_ble_eq_true rfl)
  rw [lg_entry_eq]
  generalize (lg_sl ([.ref p0, .ref p1, .int 0, .ref p3, .ref p4, .int 1]) ++ List.replicate (7 - (lg_sl ([.ref p0, .ref p1, .int 0, .ref p3, .ref p4, .int 1])).length) Slot.unset).toArray = ls at hl ⊢
  have hl : lv_has ls 7 [(0, .ref p0), (1, .ref p1), (2, .int 0), (3, .ref p3), (4, .ref p4), (5, .int 1)] := hl
  rw [← hHe]
  refine lv_iconst (v := 0) hx hb dX7_moves_0 (by decide +kernel) ?_
  refine lv_istore (lv' := [(6, .int 0), (0, .ref p0), (1, .ref p1), (2, .int 0), (3, .ref p3), (4, .ref p4), (5, .int 1)]) hx hb dX7_moves_1 hl (by decide) rfl (fun ls hl => ?_)
  refine namedW (fun R Q hR hQ => ?_)
  refine loopW (α := Nat) (I := fun j ls H lo => j ≤ 99 ∧ va_P (dC, dI) vwCl [(p0, .inl (k0, 99, .inl (fun _ => 0))), (p1, .inl (k1, 640, .inr (.inl (fun _ => 0)))), (p3, .inl (k3, nT, .inl (fun _ => 0))), (p4, .inl (k4, nD, .inr (.inl (fun _ => 0))))] H ∧ va_D A [(p0, .inl (k0, 99, .inl (fun _ => 0))), (p1, .inl (k1, 640, .inr (.inl (fun _ => 0)))), (p3, .inl (k3, nT, .inl (fun _ => 0))), (p4, .inl (k4, nD, .inr (.inl (fun _ => 0))))] ∧ va_S A s.heap H lo ∧ lv_has ls 7 [(6, .int (nI j)), (0, .ref p0), (1, .ref p1), (2, .int 0), (3, .ref p3), (4, .ref p4), (5, .int 1)]) (G := fun j ls H lo => W p l e R s m (([.ref p0, .ref p1, .int 0, .ref p3, .ref p4, .int 1] : List Value).toArray) below meth c H lo 0 0 Q (F0 m 3 ls [])) (mu := fun j => 99 - j) ?_ 0 ls H _ ⟨Nat.zero_le _, hP, hD, hS, hl⟩
  intro j ls H locs hI ihj
  subst hR; subst hQ
  obtain ⟨hjj, hP, hD, hS, hl⟩ := hI
  have hl : lv_has ls 7 [(6, .int (nI j)), (0, .ref p0), (1, .ref p1), (2, .int 0), (3, .ref p3), (4, .ref p4), (5, .int 1)] := hl
  refine lv_iload hx hb dX7_moves_3 (lv_at hl 0 rfl) ?_
  refine lv_bipush (v := 99) hx hb dX7_moves_5 (by decide +kernel) ?_
  refine lv_icmp_ge (tgt := 35) hx hb dX7_moves_7 (by decide) (fun c1 => ?_) (fun c1 => ?_)
  · refine lv_iconst (v := 0) hx hb dX7_moves_35 (by decide +kernel) ?_
    refine lv_istore (lv' := [(6, .int 0), (0, .ref p0), (1, .ref p1), (2, .int 0), (3, .ref p3), (4, .ref p4), (5, .int 1)]) hx hb dX7_moves_36 hl (by decide) rfl (fun ls hl => ?_)
    refine namedW (fun R Q hR hQ => ?_)
    refine loopW (α := Nat) (I := fun i ls H lo => i ≤ 640 ∧ va_P (dC, dI) vwCl [(p0, .inl (k0, 99, .inl (fun _ => 0))), (p1, .inl (k1, 640, .inr (.inl (fun _ => 0)))), (p3, .inl (k3, nT, .inl (fun _ => 0))), (p4, .inl (k4, nD, .inr (.inl (fun _ => 0))))] H ∧ va_D A [(p0, .inl (k0, 99, .inl (fun _ => 0))), (p1, .inl (k1, 640, .inr (.inl (fun _ => 0)))), (p3, .inl (k3, nT, .inl (fun _ => 0))), (p4, .inl (k4, nD, .inr (.inl (fun _ => 0))))] ∧ va_S A s.heap H lo ∧ lv_has ls 7 [(6, .int (nI i)), (0, .ref p0), (1, .ref p1), (2, .int 0), (3, .ref p3), (4, .ref p4), (5, .int 1)]) (G := fun i ls H lo => W p l e R s m (([.ref p0, .ref p1, .int 0, .ref p3, .ref p4, .int 1] : List Value).toArray) below meth c H lo 0 0 Q (F0 m 38 ls [])) (mu := fun i => 640 - i) ?_ 0 ls H _ ⟨Nat.zero_le _, hP, hD, hS, hl⟩
    intro i ls H locs hI ihi
    subst hR; subst hQ
    obtain ⟨hji, hP, hD, hS, hl⟩ := hI
    have hl : lv_has ls 7 [(6, .int (nI i)), (0, .ref p0), (1, .ref p1), (2, .int 0), (3, .ref p3), (4, .ref p4), (5, .int 1)] := hl
    refine lv_iload hx hb dX7_moves_38 (lv_at hl 0 rfl) ?_
    refine lv_sipush (v := 640) hx hb dX7_moves_40 (by decide +kernel) ?_
    refine lv_icmp_ge (tgt := 74) hx hb dX7_moves_43 (by decide) (fun c2 => ?_) (fun c2 => ?_)
    · have hP9 := hP.sub (ws' := [(p0, .inl (k0, 99, .inl (fun _ => 0))), (p1, .inl (k1, 640, .inr (.inl (fun _ => 0)))), (p3, .inl (k3, nT, .inl (fun _ => 0))), (p4, .inl (k4, nD, .inr (.inl (fun _ => 0))))]) [0, 1, 2, 3] rfl
      have hD9 := hD.sub (ws' := [(p0, .inl (k0, 99, .inl (fun _ => 0))), (p1, .inl (k1, 640, .inr (.inl (fun _ => 0)))), (p3, .inl (k3, nT, .inl (fun _ => 0))), (p4, .inl (k4, nD, .inr (.inl (fun _ => 0))))]) [0, 1, 2, 3] (by decide) rfl
      have hK9 := hK.sub (tys' := [(k0, .int), (k1, .long), (k3, .int), (k4, .long)]) [0, 1, 2, 3] rfl
      exact W.vret hx hb hr (fun t ht hW => ⟨⟨(), rfl, trivial, ⟨by rw [ht]; exact hP9, va_K.moved hW.alike hK9, hD9⟩⟩, hS.F ht⟩) hS.2.2 dX7_moves_74
    · refine lv_aload hx hb dX7_moves_46 (lv_at hl 5 rfl) ?_
      refine lv_sipush (v := 640) hx hb dX7_moves_48 (by decide +kernel) ?_
      refine lv_iload hx hb dX7_moves_51 (lv_at hl 6 rfl) ?_
      refine lv_imul hx hb dX7_moves_53 ?_
      refine lv_topi (fun z3 ez3 => ?_)
      obtain rfl : z3 = 640 := ez3.trans (by decide +kernel)
      refine lv_iload hx hb dX7_moves_54 (lv_at hl 0 rfl) ?_
      refine lv_iadd hx hb dX7_moves_56 ?_
      refine lv_topi (fun z4 ez4 => ?_)
      refine lv_aload_n hx hb dX7_moves_57 rfl (lv_at hl 2 rfl) ?_
      refine lv_sipush (v := 640) hx hb dX7_moves_58 (by decide +kernel) ?_
      refine lv_iload_n hx hb dX7_moves_61 rfl (lv_at hl 3 rfl) ?_
      refine lv_imul hx hb dX7_moves_62 ?_
      refine lv_topi (fun z5 ez5 => ?_)
      obtain rfl : z5 = 0 := ez5.trans (by decide +kernel)
      refine lv_iload hx hb dX7_moves_63 (lv_at hl 0 rfl) ?_
      refine lv_iadd hx hb dX7_moves_65 ?_
      refine lv_topi (fun z6 ez6 => ?_)
      refine va_lald hx hb hK hP 1 1 rfl rfl (by rw [ez6]; exact in_add 0 i 640 0 rfl (by have := nI_ltb (n := 640) (by omega) c2; omega) (by omega)) dX7_moves_66 ?_
      refine lv_topl (fun z7 ez7 => ?_)
      obtain rfl : z7 = 0 := ez7.trans (by decide +kernel)
      refine va_last hx hb hK hP hD hS 3 3 rfl rfl (by rw [ez4]; exact in_add 640 i nD 640 rfl (by have := nI_ltb (n := 640) (by omega) c2; omega) (by omega)) dX7_moves_67 (fun H locs hP hD hS => ?_)
      have hP : va_P (dC, dI) vwCl [(p0, .inl (k0, 99, .inl (fun _ => 0))), (p1, .inl (k1, 640, .inr (.inl (fun _ => 0)))), (p3, .inl (k3, nT, .inl (fun _ => 0))), (p4, .inl (k4, nD, .inr (.inl (vp_updL (fun _ => 0) z4.toNatClampNeg 0))))] H := hP
      have hD : va_D A [(p0, .inl (k0, 99, .inl (fun _ => 0))), (p1, .inl (k1, 640, .inr (.inl (fun _ => 0)))), (p3, .inl (k3, nT, .inl (fun _ => 0))), (p4, .inl (k4, nD, .inr (.inl (vp_updL (fun _ => 0) z4.toNatClampNeg 0))))] := hD
      rw [updL00] at hP hD
      obtain ⟨z8, ez8⟩ : ∃ y : Int32, y = nI i + 1 := ⟨_, rfl⟩
      refine lv_iinc (v := z8) (lv' := [(6, .int z8), (0, .ref p0), (1, .ref p1), (2, .int 0), (3, .ref p3), (4, .ref p4), (5, .int 1)]) hx hb dX7_moves_68 hl (k := 0) rfl (by rw [ez8]; rfl) (by decide) rfl (fun ls hl => ?_)
      refine lv_goto (tgt := 38) hx hb dX7_moves_71 (by decide) ?_
      have hlt : i < 640 := nI_ltb (n := 640) (by omega) c2
      obtain rfl : z8 = nI (i + 1) := ez8.trans (nI_1 i)
      exact ihi (i + 1) _ _ _ ⟨by omega, hP, hD, hS, lv_sub hl [0, 1, 2, 3, 4, 5, 6] rfl⟩ (by omega)
  · refine lv_aload_n hx hb dX7_moves_10 rfl (lv_at hl 4 rfl) ?_
    refine lv_bipush (v := 99) hx hb dX7_moves_11 (by decide +kernel) ?_
    refine lv_iload hx hb dX7_moves_13 (lv_at hl 6 rfl) ?_
    refine lv_imul hx hb dX7_moves_15 ?_
    refine lv_topi (fun z9 ez9 => ?_)
    obtain rfl : z9 = 99 := ez9.trans (by decide +kernel)
    refine lv_iload hx hb dX7_moves_16 (lv_at hl 0 rfl) ?_
    refine lv_iadd hx hb dX7_moves_18 ?_
    refine lv_topi (fun z10 ez10 => ?_)
    refine lv_aload_n hx hb dX7_moves_19 rfl (lv_at hl 1 rfl) ?_
    refine lv_bipush (v := 99) hx hb dX7_moves_20 (by decide +kernel) ?_
    refine lv_iload_n hx hb dX7_moves_22 rfl (lv_at hl 3 rfl) ?_
    refine lv_imul hx hb dX7_moves_23 ?_
    refine lv_topi (fun z11 ez11 => ?_)
    obtain rfl : z11 = 0 := ez11.trans (by decide +kernel)
    refine lv_iload hx hb dX7_moves_24 (lv_at hl 0 rfl) ?_
    refine lv_iadd hx hb dX7_moves_26 ?_
    refine lv_topi (fun z12 ez12 => ?_)
    refine va_iald hx hb hK hP 0 0 rfl rfl (by rw [ez12]; exact in_add 0 j 99 0 rfl (by have := nI_ltb (n := 99) (by omega) c1; omega) (by omega)) dX7_moves_27 ?_
    refine lv_topi (fun z13 ez13 => ?_)
    obtain rfl : z13 = 0 := ez13.trans (by decide +kernel)
    refine va_iast hx hb hK hP hD hS 2 2 rfl rfl (by rw [ez10]; exact in_add 99 j nT 99 rfl (by have := nI_ltb (n := 99) (by omega) c1; omega) (by omega)) dX7_moves_28 (fun H locs hP hD hS => ?_)
    have hP : va_P (dC, dI) vwCl [(p0, .inl (k0, 99, .inl (fun _ => 0))), (p1, .inl (k1, 640, .inr (.inl (fun _ => 0)))), (p3, .inl (k3, nT, .inl (upd (fun _ => 0) z10.toNatClampNeg 0))), (p4, .inl (k4, nD, .inr (.inl (fun _ => 0))))] H := hP
    have hD : va_D A [(p0, .inl (k0, 99, .inl (fun _ => 0))), (p1, .inl (k1, 640, .inr (.inl (fun _ => 0)))), (p3, .inl (k3, nT, .inl (upd (fun _ => 0) z10.toNatClampNeg 0))), (p4, .inl (k4, nD, .inr (.inl (fun _ => 0))))] := hD
    rw [upd00] at hP hD
    obtain ⟨z14, ez14⟩ : ∃ y : Int32, y = nI j + 1 := ⟨_, rfl⟩
    refine lv_iinc (v := z14) (lv' := [(6, .int z14), (0, .ref p0), (1, .ref p1), (2, .int 0), (3, .ref p3), (4, .ref p4), (5, .int 1)]) hx hb dX7_moves_29 hl (k := 0) rfl (by rw [ez14]; rfl) (by decide) rfl (fun ls hl => ?_)
    refine lv_goto (tgt := 3) hx hb dX7_moves_32 (by decide) ?_
    have hlt : j < 99 := nI_ltb (n := 99) (by omega) c1
    obtain rfl : z14 = nI (j + 1) := ez14.trans (nI_1 j)
    exact ihj (j + 1) _ _ _ ⟨by omega, hP, hD, hS, lv_sub hl [0, 1, 2, 3, 4, 5, 6] rfl⟩ (by omega)

set_option maxHeartbeats 4000000 in
set_option maxRecDepth 100000 in
theorem c_X7_laysAside (l : Launch) (dC : Nat → ClassId) (dI : Nat → Nat → Nat) (h0 mnw mhd mas mps msf mdt mhdd masd mpsd msfd mkp mtp mld mmd men mil mqu mbx : Nat) (kI kJ kI3 kJ3 : ClassId) (sz : Nat) : Met l yX7_laysAside (.code yX7_laysAside cX7_laysAside 1 none :: pw) ({ frames := 1, cells := 0, slots := 0, locals := 26 }) (pc (dC, dI) [.ref h0] sz [(h0, .inr (7, [.ref mnw, .ref mhd, .ref mas, .ref mps, .ref msf, .ref mdt, .ref mhdd, .ref masd, .ref mpsd, .ref msfd, .ref mkp, .int 0, .ref mtp, .int 0, .int 0, .int 0, .int 0, .ref mld, .int 0, .ref mmd, .ref men, .ref mil, .ref mqu, .int 0, .int 0, .ref mbx])), (mnw, .inl (kI, 99, .inl (fun _ => 0))), (mdt, .inl (kJ, 640, .inr (.inl (fun _ => 0)))), (mas, .inl (kI3, 99, .inl (fun _ => 0))), (masd, .inl (kJ3, 640, .inr (.inl (fun _ => 0))))] [(kI, .int), (kJ, .long), (kI3, .int), (kJ3, .long)]) (va_Qv (fun (_ : Unit) => True) (fun _ t => wB (dC, dI) [(h0, .inr (7, [.ref mnw, .ref mhd, .ref mas, .ref mps, .ref msf, .ref mdt, .ref mhdd, .ref masd, .ref mpsd, .ref msfd, .ref mkp, .int 0, .ref mtp, .int 0, .int 0, .int 0, .int 0, .ref mld, .int 0, .ref mmd, .ref men, .ref mil, .ref mqu, .int 0, .int 0, .ref mbx])), (mnw, .inl (kI, 99, .inl (fun _ => 0))), (mdt, .inl (kJ, 640, .inr (.inl (fun _ => 0)))), (mas, .inl (kI3, 99, .inl (fun _ => 0))), (masd, .inl (kJ3, 640, .inr (.inl (fun _ => 0))))] [(kI, .int), (kJ, .long), (kI3, .int), (kJ3, .long)] (va_A [(h0, .inr (7, [.ref mnw, .ref mhd, .ref mas, .ref mps, .ref msf, .ref mdt, .ref mhdd, .ref masd, .ref mpsd, .ref msfd, .ref mkp, .int 0, .ref mtp, .int 0, .int 0, .int 0, .int 0, .ref mld, .int 0, .ref mmd, .ref men, .ref mil, .ref mqu, .int 0, .int 0, .ref mbx])), (mnw, .inl (kI, 99, .inl (fun _ => 0))), (mdt, .inl (kJ, 640, .inr (.inl (fun _ => 0)))), (mas, .inl (kI3, 99, .inl (fun _ => 0))), (masd, .inl (kJ3, 640, .inr (.inl (fun _ => 0))))] sz) t) (va_A [(h0, .inr (7, [.ref mnw, .ref mhd, .ref mas, .ref mps, .ref msf, .ref mdt, .ref mhdd, .ref masd, .ref mpsd, .ref msfd, .ref mkp, .int 0, .ref mtp, .int 0, .int 0, .int 0, .int 0, .ref mld, .int 0, .ref mmd, .ref men, .ref mil, .ref mqu, .int 0, .int 0, .ref mbx])), (mnw, .inl (kI, 99, .inl (fun _ => 0))), (mdt, .inl (kJ, 640, .inr (.inl (fun _ => 0)))), (mas, .inl (kI3, 99, .inl (fun _ => 0))), (masd, .inl (kJ3, 640, .inr (.inl (fun _ => 0))))] sz)) 0 0 (va_A [(h0, .inr (7, [.ref mnw, .ref mhd, .ref mas, .ref mps, .ref msf, .ref mdt, .ref mhdd, .ref masd, .ref mpsd, .ref msfd, .ref mkp, .int 0, .ref mtp, .int 0, .int 0, .int 0, .int 0, .ref mld, .int 0, .ref mmd, .ref men, .ref mil, .ref mqu, .int 0, .int 0, .ref mbx])), (mnw, .inl (kI, 99, .inl (fun _ => 0))), (mdt, .inl (kJ, 640, .inr (.inl (fun _ => 0)))), (mas, .inl (kI3, 99, .inl (fun _ => 0))), (masd, .inl (kJ3, 640, .inr (.inl (fun _ => 0))))] sz) := by
  refine Met.ofW (cc := cX7_laysAside) (maxL := 1) (ret := none) (by decide +kernel) rfl ?_
  intro p e s m args below meth c s₁ B hml hv
  obtain ⟨rfl, hsz, hP, hK, hD0, hN⟩ := hv
  have hx := B.exec
  have hb := B.bytes
  have hr := B.returns
  have hts := fun w (h : w ∈ pw) => atoms_spec (ws := Cond.code yX7_laysAside cX7_laysAside 1 none :: pw) B.pre w (List.mem_cons_of_mem _ h)
  have hown : s.vm.findClass RX7 = some m.cls := findClass_of_methodNamed B.named
  have hlocks := B.notSynchronized
  subst hsz
  have hD := hD0.self (sz := s.heap.size)
  generalize hAe : va_A [(h0, .inr (7, [.ref mnw, .ref mhd, .ref mas, .ref mps, .ref msf, .ref mdt, .ref mhdd, .ref masd, .ref mpsd, .ref msfd, .ref mkp, .int 0, .ref mtp, .int 0, .int 0, .int 0, .int 0, .ref mld, .int 0, .ref mmd, .ref men, .ref mil, .ref mqu, .int 0, .int 0, .ref mbx])), (mnw, .inl (kI, 99, .inl (fun _ => 0))), (mdt, .inl (kJ, 640, .inr (.inl (fun _ => 0)))), (mas, .inl (kI3, 99, .inl (fun _ => 0))), (masd, .inl (kJ3, 640, .inr (.inl (fun _ => 0))))] s.heap.size = A at hD ⊢
  have hA : ∀ q : Nat, s.heap.size ≤ q → A q := fun q h => by rw [← hAe]; exact Or.inr h
  obtain ⟨H, hHe⟩ : ∃ H : Heap, H = s.heap := ⟨_, rfl⟩
  have hS : va_S A s.heap H [] := by rw [hHe]; exact va_S.rf
  rw [← hHe] at hP
  have hl := lv_entry ([.ref h0]) (n := 1) (Nat.le_of_ble_eq_true rfl)
  rw [lg_entry_eq]
  generalize (lg_sl ([.ref h0]) ++ List.replicate (1 - (lg_sl ([.ref h0])).length) Slot.unset).toArray = ls at hl ⊢
  have hl : lv_has ls 1 [(0, .ref h0)] := hl
  rw [← hHe]
  refine lv_aload_n hx hb dX7_laysAside_0 rfl (lv_at hl 0 rfl) ?_
  refine va_get (D := (dC, dI)) (ci := 7) (v := .ref mnw) (C := RX7) (T := TX7) (N := 26) hx hb hts inX7 hown hK hP 0 rfl rfl 0 (by decide) (hts _ pq1115) (fun _ h9 => h9) rfl dX7_laysAside_1 ?_
  refine lv_aload_n hx hb dX7_laysAside_4 rfl (lv_at hl 0 rfl) ?_
  refine va_get (D := (dC, dI)) (ci := 7) (v := .ref mdt) (C := RX7) (T := TX7) (N := 26) hx hb hts inX7 hown hK hP 0 rfl rfl 5 (by decide) (hts _ pq1120) (fun _ h9 => h9) rfl dX7_laysAside_5 ?_
  refine lv_iconst (v := 0) hx hb dX7_laysAside_8 (by decide +kernel) ?_
  refine lv_aload_n hx hb dX7_laysAside_9 rfl (lv_at hl 0 rfl) ?_
  refine va_get (D := (dC, dI)) (ci := 7) (v := .ref mas) (C := RX7) (T := TX7) (N := 26) hx hb hts inX7 hown hK hP 0 rfl rfl 2 (by decide) (hts _ pq1117) (fun _ h9 => h9) rfl dX7_laysAside_10 ?_
  refine lv_aload_n hx hb dX7_laysAside_13 rfl (lv_at hl 0 rfl) ?_
  refine va_get (D := (dC, dI)) (ci := 7) (v := .ref masd) (C := RX7) (T := TX7) (N := 26) hx hb hts inX7 hown hK hP 0 rfl rfl 7 (by decide) (hts _ pq1122) (fun _ h9 => h9) rfl dX7_laysAside_14 ?_
  refine lv_iconst (v := 0) hx hb dX7_laysAside_17 (by decide +kernel) ?_
  have hPc := hP.sub (ws' := [(mnw, .inl (kI, 99, .inl (fun _ => 0))), (mdt, .inl (kJ, 640, .inr (.inl (fun _ => 0)))), (mas, .inl (kI3, 99, .inl (fun _ => 0))), (masd, .inl (kJ3, 640, .inr (.inl (fun _ => 0))))]) [1, 2, 3, 4] rfl
  have hDc := hD.sub (ws' := [(mnw, .inl (kI, 99, .inl (fun _ => 0))), (mdt, .inl (kJ, 640, .inr (.inl (fun _ => 0)))), (mas, .inl (kI3, 99, .inl (fun _ => 0))), (masd, .inl (kJ3, 640, .inr (.inl (fun _ => 0))))]) [1, 2, 3, 4] (by decide) rfl
  have hKc := hK.sub (tys' := [(kI, .int), (kJ, .long), (kI3, .int), (kJ3, .long)]) [0, 1, 2, 3] rfl
  have hFc := va_free (wc := [(mnw, .inl (kI, 99, .inl (fun _ => 0))), (mdt, .inl (kJ, 640, .inr (.inl (fun _ => 0)))), (mas, .inl (kI3, 99, .inl (fun _ => 0))), (masd, .inl (kJ3, 640, .inr (.inl (fun _ => 0))))]) hD hS hA [1, 2, 3, 4] rfl
  refine va_callv (va_runS (As := [.ref mnw, .ref mdt, .int 0, .ref mas, .ref masd, .int 0]) (rest := []) ⟨hx, hb, hml, hown, hts⟩ (c_X7_moves_0 l dC dI mnw mdt mas masd kI kJ kI3 kJ3 H.size 99 640 ((by decide)) ((by decide))) (va_cwS 6 hts (gS pq1291 pq1292 pq81 pq1293) rfl rfl rfl (by decide +kernel) ⟨(Nat.le_of_ble_eq_true rfl), (Nat.le_of_ble_eq_true rfl)⟩) (pc_S hPc hDc hKc hN) rfl rfl hl.1 rfl (lv_room (Nat.le_of_ble_eq_true rfl)) dX7_laysAside_18 ⟨(Nat.le_of_ble_eq_true rfl), (Nat.le_of_ble_eq_true rfl)⟩) hS (fun q _ h => hFc q h) hFc (fun u t H1 locs ht hvm hw hB hz1 hk1 hS => ?_)
  obtain ⟨hP1, hK1, hD1⟩ := hB
  rw [ht] at hP1
  have hK1 := va_K.moved hvm.symm hK1
  obtain ⟨hP, hD⟩ := va_join (wr := [(h0, .inr (7, [.ref mnw, .ref mhd, .ref mas, .ref mps, .ref msf, .ref mdt, .ref mhdd, .ref masd, .ref mpsd, .ref msfd, .ref mkp, .int 0, .ref mtp, .int 0, .int 0, .int 0, .int 0, .ref mld, .int 0, .ref mmd, .ref men, .ref mil, .ref mqu, .int 0, .int 0, .ref mbx]))]) (w1 := [(mnw, .inl (kI, 99, .inl (fun _ => 0))), (mdt, .inl (kJ, 640, .inr (.inl (fun _ => 0)))), (mas, .inl (kI3, 99, .inl (fun _ => 0))), (masd, .inl (kJ3, 640, .inr (.inl (fun _ => 0))))]) hP hD [1, 2, 3, 4] [0] rfl rfl (by decide) (by decide) hk1 hFc hP1 hD1
  generalize H1 = H at hP hS ⊢
  have hP : va_P (dC, dI) vwCl [(h0, .inr (7, [.ref mnw, .ref mhd, .ref mas, .ref mps, .ref msf, .ref mdt, .ref mhdd, .ref masd, .ref mpsd, .ref msfd, .ref mkp, .int 0, .ref mtp, .int 0, .int 0, .int 0, .int 0, .ref mld, .int 0, .ref mmd, .ref men, .ref mil, .ref mqu, .int 0, .int 0, .ref mbx])), (mnw, .inl (kI, 99, .inl (fun _ => 0))), (mdt, .inl (kJ, 640, .inr (.inl (fun _ => 0)))), (mas, .inl (kI3, 99, .inl (fun _ => 0))), (masd, .inl (kJ3, 640, .inr (.inl (fun _ => 0))))] H := hP
  have hD : va_D A [(h0, .inr (7, [.ref mnw, .ref mhd, .ref mas, .ref mps, .ref msf, .ref mdt, .ref mhdd, .ref masd, .ref mpsd, .ref msfd, .ref mkp, .int 0, .ref mtp, .int 0, .int 0, .int 0, .int 0, .ref mld, .int 0, .ref mmd, .ref men, .ref mil, .ref mqu, .int 0, .int 0, .ref mbx])), (mnw, .inl (kI, 99, .inl (fun _ => 0))), (mdt, .inl (kJ, 640, .inr (.inl (fun _ => 0)))), (mas, .inl (kI3, 99, .inl (fun _ => 0))), (masd, .inl (kJ3, 640, .inr (.inl (fun _ => 0))))] := hD
  have hP9 := hP.sub (ws' := [(h0, .inr (7, [.ref mnw, .ref mhd, .ref mas, .ref mps, .ref msf, .ref mdt, .ref mhdd, .ref masd, .ref mpsd, .ref msfd, .ref mkp, .int 0, .ref mtp, .int 0, .int 0, .int 0, .int 0, .ref mld, .int 0, .ref mmd, .ref men, .ref mil, .ref mqu, .int 0, .int 0, .ref mbx])), (mnw, .inl (kI, 99, .inl (fun _ => 0))), (mdt, .inl (kJ, 640, .inr (.inl (fun _ => 0)))), (mas, .inl (kI3, 99, .inl (fun _ => 0))), (masd, .inl (kJ3, 640, .inr (.inl (fun _ => 0))))]) [0, 1, 2, 3, 4] rfl
  have hD9 := hD.sub (ws' := [(h0, .inr (7, [.ref mnw, .ref mhd, .ref mas, .ref mps, .ref msf, .ref mdt, .ref mhdd, .ref masd, .ref mpsd, .ref msfd, .ref mkp, .int 0, .ref mtp, .int 0, .int 0, .int 0, .int 0, .ref mld, .int 0, .ref mmd, .ref men, .ref mil, .ref mqu, .int 0, .int 0, .ref mbx])), (mnw, .inl (kI, 99, .inl (fun _ => 0))), (mdt, .inl (kJ, 640, .inr (.inl (fun _ => 0)))), (mas, .inl (kI3, 99, .inl (fun _ => 0))), (masd, .inl (kJ3, 640, .inr (.inl (fun _ => 0))))]) [0, 1, 2, 3, 4] (by decide) rfl
  have hK9 := hK.sub (tys' := [(kI, .int), (kJ, .long), (kI3, .int), (kJ3, .long)]) [0, 1, 2, 3] rfl
  exact W.vret hx hb hr (fun t ht hW => ⟨⟨(), rfl, trivial, ⟨by rw [ht]; exact hP9, va_K.moved hW.alike hK9, hD9⟩⟩, hS.F ht⟩) hS.2.2 dX7_laysAside_21

set_option maxHeartbeats 4000000 in
set_option maxRecDepth 100000 in
theorem c_X7_remembersAside (l : Launch) (dC : Nat → ClassId) (dI : Nat → Nat → Nat) (h0 mnw mhd mas mps msf mdt mhdd masd mpsd msfd mkp mtp mld mmd men mil mqu mbx : Nat) (kI3 kJ3 kI4 kJ4 : ClassId) (sz : Nat) : Met l yX7_remembersAside (.code yX7_remembersAside cX7_remembersAside 2 none :: pw) ({ frames := 1, cells := 0, slots := 0, locals := 26 }) (pc (dC, dI) [.ref h0] sz [(h0, .inr (7, [.ref mnw, .ref mhd, .ref mas, .ref mps, .ref msf, .ref mdt, .ref mhdd, .ref masd, .ref mpsd, .ref msfd, .ref mkp, .int 0, .ref mtp, .int 0, .int 0, .int 0, .int 0, .ref mld, .int 0, .ref mmd, .ref men, .ref mil, .ref mqu, .int 0, .int 0, .ref mbx])), (mas, .inl (kI3, 99, .inl (fun _ => 0))), (masd, .inl (kJ3, 640, .inr (.inl (fun _ => 0)))), (mps, .inl (kI4, 990, .inl (fun _ => 0))), (mpsd, .inl (kJ4, 6400, .inr (.inl (fun _ => 0))))] [(kI3, .int), (kJ3, .long), (kI4, .int), (kJ4, .long)]) (va_Qv (fun (_ : Unit) => True) (fun _ t => wB (dC, dI) [(h0, .inr (7, [.ref mnw, .ref mhd, .ref mas, .ref mps, .ref msf, .ref mdt, .ref mhdd, .ref masd, .ref mpsd, .ref msfd, .ref mkp, .int 1, .ref mtp, .int 0, .int 0, .int 0, .int 0, .ref mld, .int 0, .ref mmd, .ref men, .ref mil, .ref mqu, .int 0, .int 0, .ref mbx]))] [] (va_A [(h0, .inr (7, [.ref mnw, .ref mhd, .ref mas, .ref mps, .ref msf, .ref mdt, .ref mhdd, .ref masd, .ref mpsd, .ref msfd, .ref mkp, .int 0, .ref mtp, .int 0, .int 0, .int 0, .int 0, .ref mld, .int 0, .ref mmd, .ref men, .ref mil, .ref mqu, .int 0, .int 0, .ref mbx])), (mas, .inl (kI3, 99, .inl (fun _ => 0))), (masd, .inl (kJ3, 640, .inr (.inl (fun _ => 0)))), (mps, .inl (kI4, 990, .inl (fun _ => 0))), (mpsd, .inl (kJ4, 6400, .inr (.inl (fun _ => 0))))] sz) t) (va_A [(h0, .inr (7, [.ref mnw, .ref mhd, .ref mas, .ref mps, .ref msf, .ref mdt, .ref mhdd, .ref masd, .ref mpsd, .ref msfd, .ref mkp, .int 0, .ref mtp, .int 0, .int 0, .int 0, .int 0, .ref mld, .int 0, .ref mmd, .ref men, .ref mil, .ref mqu, .int 0, .int 0, .ref mbx])), (mas, .inl (kI3, 99, .inl (fun _ => 0))), (masd, .inl (kJ3, 640, .inr (.inl (fun _ => 0)))), (mps, .inl (kI4, 990, .inl (fun _ => 0))), (mpsd, .inl (kJ4, 6400, .inr (.inl (fun _ => 0))))] sz)) 0 0 (va_A [(h0, .inr (7, [.ref mnw, .ref mhd, .ref mas, .ref mps, .ref msf, .ref mdt, .ref mhdd, .ref masd, .ref mpsd, .ref msfd, .ref mkp, .int 0, .ref mtp, .int 0, .int 0, .int 0, .int 0, .ref mld, .int 0, .ref mmd, .ref men, .ref mil, .ref mqu, .int 0, .int 0, .ref mbx])), (mas, .inl (kI3, 99, .inl (fun _ => 0))), (masd, .inl (kJ3, 640, .inr (.inl (fun _ => 0)))), (mps, .inl (kI4, 990, .inl (fun _ => 0))), (mpsd, .inl (kJ4, 6400, .inr (.inl (fun _ => 0))))] sz) := by
  refine Met.ofW (cc := cX7_remembersAside) (maxL := 2) (ret := none) (by decide +kernel) rfl ?_
  intro p e s m args below meth c s₁ B hml hv
  obtain ⟨rfl, hsz, hP, hK, hD0, hN⟩ := hv
  have hx := B.exec
  have hb := B.bytes
  have hr := B.returns
  have hts := fun w (h : w ∈ pw) => atoms_spec (ws := Cond.code yX7_remembersAside cX7_remembersAside 2 none :: pw) B.pre w (List.mem_cons_of_mem _ h)
  have hown : s.vm.findClass RX7 = some m.cls := findClass_of_methodNamed B.named
  have hlocks := B.notSynchronized
  subst hsz
  have hD := hD0.self (sz := s.heap.size)
  generalize hAe : va_A [(h0, .inr (7, [.ref mnw, .ref mhd, .ref mas, .ref mps, .ref msf, .ref mdt, .ref mhdd, .ref masd, .ref mpsd, .ref msfd, .ref mkp, .int 0, .ref mtp, .int 0, .int 0, .int 0, .int 0, .ref mld, .int 0, .ref mmd, .ref men, .ref mil, .ref mqu, .int 0, .int 0, .ref mbx])), (mas, .inl (kI3, 99, .inl (fun _ => 0))), (masd, .inl (kJ3, 640, .inr (.inl (fun _ => 0)))), (mps, .inl (kI4, 990, .inl (fun _ => 0))), (mpsd, .inl (kJ4, 6400, .inr (.inl (fun _ => 0))))] s.heap.size = A at hD ⊢
  have hA : ∀ q : Nat, s.heap.size ≤ q → A q := fun q h => by rw [← hAe]; exact Or.inr h
  obtain ⟨H, hHe⟩ : ∃ H : Heap, H = s.heap := ⟨_, rfl⟩
  have hS : va_S A s.heap H [] := by rw [hHe]; exact va_S.rf
  rw [← hHe] at hP
  have hl := lv_entry ([.ref h0]) (n := 2) (Nat.le_of_ble_eq_true rfl)
  rw [lg_entry_eq]
  generalize (lg_sl ([.ref h0]) ++ List.replicate (2 - (lg_sl ([.ref h0])).length) Slot.unset).toArray = ls at hl ⊢
  have hl : lv_has ls 2 [(0, .ref h0)] := hl
  rw [← hHe]
  refine lv_aload_n hx hb dX7_remembersAside_0 rfl (lv_at hl 0 rfl) ?_
  refine va_get (D := (dC, dI)) (ci := 7) (v := .int 0) (C := RX7) (T := TX7) (N := 26) hx hb hts inX7 hown hK hP 0 rfl rfl 11 (by decide) (hts _ pq1126) (fun _ h9 => h9) rfl dX7_remembersAside_1 ?_
  refine lv_bipush (v := 10) hx hb dX7_remembersAside_4 (by decide +kernel) ?_
  refine lv_icmp_ne (tgt := 56) hx hb dX7_remembersAside_6 (by decide) (fun c1 => ?_) (fun c1 => absurd c1 (by decide +kernel))
  refine lv_aload_n hx hb dX7_remembersAside_56 rfl (lv_at hl 0 rfl) ?_
  refine va_get (D := (dC, dI)) (ci := 7) (v := .ref mas) (C := RX7) (T := TX7) (N := 26) hx hb hts inX7 hown hK hP 0 rfl rfl 2 (by decide) (hts _ pq1117) (fun _ h9 => h9) rfl dX7_remembersAside_57 ?_
  refine lv_aload_n hx hb dX7_remembersAside_60 rfl (lv_at hl 0 rfl) ?_
  refine va_get (D := (dC, dI)) (ci := 7) (v := .ref masd) (C := RX7) (T := TX7) (N := 26) hx hb hts inX7 hown hK hP 0 rfl rfl 7 (by decide) (hts _ pq1122) (fun _ h9 => h9) rfl dX7_remembersAside_61 ?_
  refine lv_iconst (v := 0) hx hb dX7_remembersAside_64 (by decide +kernel) ?_
  refine lv_aload_n hx hb dX7_remembersAside_65 rfl (lv_at hl 0 rfl) ?_
  refine va_get (D := (dC, dI)) (ci := 7) (v := .ref mps) (C := RX7) (T := TX7) (N := 26) hx hb hts inX7 hown hK hP 0 rfl rfl 3 (by decide) (hts _ pq1118) (fun _ h9 => h9) rfl dX7_remembersAside_66 ?_
  refine lv_aload_n hx hb dX7_remembersAside_69 rfl (lv_at hl 0 rfl) ?_
  refine va_get (D := (dC, dI)) (ci := 7) (v := .ref mpsd) (C := RX7) (T := TX7) (N := 26) hx hb hts inX7 hown hK hP 0 rfl rfl 8 (by decide) (hts _ pq1123) (fun _ h9 => h9) rfl dX7_remembersAside_70 ?_
  refine lv_aload_n hx hb dX7_remembersAside_73 rfl (lv_at hl 0 rfl) ?_
  refine va_get (D := (dC, dI)) (ci := 7) (v := .int 0) (C := RX7) (T := TX7) (N := 26) hx hb hts inX7 hown hK hP 0 rfl rfl 11 (by decide) (hts _ pq1126) (fun _ h9 => h9) rfl dX7_remembersAside_74 ?_
  have hPc := hP.sub (ws' := [(mas, .inl (kI3, 99, .inl (fun _ => 0))), (masd, .inl (kJ3, 640, .inr (.inl (fun _ => 0)))), (mps, .inl (kI4, 990, .inl (fun _ => 0))), (mpsd, .inl (kJ4, 6400, .inr (.inl (fun _ => 0))))]) [1, 2, 3, 4] rfl
  have hDc := hD.sub (ws' := [(mas, .inl (kI3, 99, .inl (fun _ => 0))), (masd, .inl (kJ3, 640, .inr (.inl (fun _ => 0)))), (mps, .inl (kI4, 990, .inl (fun _ => 0))), (mpsd, .inl (kJ4, 6400, .inr (.inl (fun _ => 0))))]) [1, 2, 3, 4] (by decide) rfl
  have hKc := hK.sub (tys' := [(kI3, .int), (kJ3, .long), (kI4, .int), (kJ4, .long)]) [0, 1, 2, 3] rfl
  have hFc := va_free (wc := [(mas, .inl (kI3, 99, .inl (fun _ => 0))), (masd, .inl (kJ3, 640, .inr (.inl (fun _ => 0)))), (mps, .inl (kI4, 990, .inl (fun _ => 0))), (mpsd, .inl (kJ4, 6400, .inr (.inl (fun _ => 0))))]) hD hS hA [1, 2, 3, 4] rfl
  refine va_callv (va_runS (As := [.ref mas, .ref masd, .int 0, .ref mps, .ref mpsd, .int 0]) (rest := []) ⟨hx, hb, hml, hown, hts⟩ (c_X7_moves_0 l dC dI mas masd mps mpsd kI3 kJ3 kI4 kJ4 H.size 990 6400 ((by decide)) ((by decide))) (va_cwS 6 hts (gS pq1291 pq1292 pq81 pq1293) rfl rfl rfl (by decide +kernel) ⟨(Nat.le_of_ble_eq_true rfl), (Nat.le_of_ble_eq_true rfl)⟩) (pc_S hPc hDc hKc hN) rfl rfl hl.1 rfl (lv_room (Nat.le_of_ble_eq_true rfl)) dX7_remembersAside_77 ⟨(Nat.le_of_ble_eq_true rfl), (Nat.le_of_ble_eq_true rfl)⟩) hS (fun q _ h => hFc q h) hFc (fun u t H1 locs ht hvm hw hB hz1 hk1 hS => ?_)
  obtain ⟨hP1, hK1, hD1⟩ := hB
  rw [ht] at hP1
  have hK1 := va_K.moved hvm.symm hK1
  obtain ⟨hP, hD⟩ := va_join (wr := [(h0, .inr (7, [.ref mnw, .ref mhd, .ref mas, .ref mps, .ref msf, .ref mdt, .ref mhdd, .ref masd, .ref mpsd, .ref msfd, .ref mkp, .int 0, .ref mtp, .int 0, .int 0, .int 0, .int 0, .ref mld, .int 0, .ref mmd, .ref men, .ref mil, .ref mqu, .int 0, .int 0, .ref mbx]))]) (w1 := [(mas, .inl (kI3, 99, .inl (fun _ => 0))), (masd, .inl (kJ3, 640, .inr (.inl (fun _ => 0)))), (mps, .inl (kI4, 990, .inl (fun _ => 0))), (mpsd, .inl (kJ4, 6400, .inr (.inl (fun _ => 0))))]) hP hD [1, 2, 3, 4] [0] rfl rfl (by decide) (by decide) hk1 hFc hP1 hD1
  generalize H1 = H at hP hS ⊢
  have hP : va_P (dC, dI) vwCl [(h0, .inr (7, [.ref mnw, .ref mhd, .ref mas, .ref mps, .ref msf, .ref mdt, .ref mhdd, .ref masd, .ref mpsd, .ref msfd, .ref mkp, .int 0, .ref mtp, .int 0, .int 0, .int 0, .int 0, .ref mld, .int 0, .ref mmd, .ref men, .ref mil, .ref mqu, .int 0, .int 0, .ref mbx])), (mas, .inl (kI3, 99, .inl (fun _ => 0))), (masd, .inl (kJ3, 640, .inr (.inl (fun _ => 0)))), (mps, .inl (kI4, 990, .inl (fun _ => 0))), (mpsd, .inl (kJ4, 6400, .inr (.inl (fun _ => 0))))] H := hP
  have hD : va_D A [(h0, .inr (7, [.ref mnw, .ref mhd, .ref mas, .ref mps, .ref msf, .ref mdt, .ref mhdd, .ref masd, .ref mpsd, .ref msfd, .ref mkp, .int 0, .ref mtp, .int 0, .int 0, .int 0, .int 0, .ref mld, .int 0, .ref mmd, .ref men, .ref mil, .ref mqu, .int 0, .int 0, .ref mbx])), (mas, .inl (kI3, 99, .inl (fun _ => 0))), (masd, .inl (kJ3, 640, .inr (.inl (fun _ => 0)))), (mps, .inl (kI4, 990, .inl (fun _ => 0))), (mpsd, .inl (kJ4, 6400, .inr (.inl (fun _ => 0))))] := hD
  refine lv_aload_n hx hb dX7_remembersAside_80 rfl (lv_at hl 0 rfl) ?_
  refine lv_dup hx hb dX7_remembersAside_81 rfl ?_
  refine va_get (D := (dC, dI)) (ci := 7) (v := .int 0) (C := RX7) (T := TX7) (N := 26) hx hb hts inX7 hown hK hP 0 rfl rfl 11 (by decide) (hts _ pq1126) (fun _ h9 => h9) rfl dX7_remembersAside_82 ?_
  refine lv_iconst (v := 1) hx hb dX7_remembersAside_85 (by decide +kernel) ?_
  refine lv_iadd hx hb dX7_remembersAside_86 ?_
  refine lv_topi (fun z2 ez2 => ?_)
  obtain rfl : z2 = 1 := ez2.trans (by decide +kernel)
  refine va_put (D := (dC, dI)) (ci := 7) (v := .int 1) (ty := tyX7 11) (C := RX7) (T := TX7) (N := 26) hx hb hts inX7 tyX7 tyX7_ok nmX7 hown hK hP hD hS 0 rfl rfl 11 (by decide) (hts _ pq1126) (fun _ h9 => h9) rfl (by decide +kernel) rfl rfl (Nat.le_of_ble_eq_true rfl) dX7_remembersAside_87 (fun H locs hP hD hS => ?_)
  have hP : va_P (dC, dI) vwCl [(h0, .inr (7, [.ref mnw, .ref mhd, .ref mas, .ref mps, .ref msf, .ref mdt, .ref mhdd, .ref masd, .ref mpsd, .ref msfd, .ref mkp, .int 1, .ref mtp, .int 0, .int 0, .int 0, .int 0, .ref mld, .int 0, .ref mmd, .ref men, .ref mil, .ref mqu, .int 0, .int 0, .ref mbx])), (mas, .inl (kI3, 99, .inl (fun _ => 0))), (masd, .inl (kJ3, 640, .inr (.inl (fun _ => 0)))), (mps, .inl (kI4, 990, .inl (fun _ => 0))), (mpsd, .inl (kJ4, 6400, .inr (.inl (fun _ => 0))))] H := hP
  have hD : va_D A [(h0, .inr (7, [.ref mnw, .ref mhd, .ref mas, .ref mps, .ref msf, .ref mdt, .ref mhdd, .ref masd, .ref mpsd, .ref msfd, .ref mkp, .int 1, .ref mtp, .int 0, .int 0, .int 0, .int 0, .ref mld, .int 0, .ref mmd, .ref men, .ref mil, .ref mqu, .int 0, .int 0, .ref mbx])), (mas, .inl (kI3, 99, .inl (fun _ => 0))), (masd, .inl (kJ3, 640, .inr (.inl (fun _ => 0)))), (mps, .inl (kI4, 990, .inl (fun _ => 0))), (mpsd, .inl (kJ4, 6400, .inr (.inl (fun _ => 0))))] := hD
  have hP9 := hP.sub (ws' := [(h0, .inr (7, [.ref mnw, .ref mhd, .ref mas, .ref mps, .ref msf, .ref mdt, .ref mhdd, .ref masd, .ref mpsd, .ref msfd, .ref mkp, .int 1, .ref mtp, .int 0, .int 0, .int 0, .int 0, .ref mld, .int 0, .ref mmd, .ref men, .ref mil, .ref mqu, .int 0, .int 0, .ref mbx]))]) [0] rfl
  have hD9 := hD.sub (ws' := [(h0, .inr (7, [.ref mnw, .ref mhd, .ref mas, .ref mps, .ref msf, .ref mdt, .ref mhdd, .ref masd, .ref mpsd, .ref msfd, .ref mkp, .int 1, .ref mtp, .int 0, .int 0, .int 0, .int 0, .ref mld, .int 0, .ref mmd, .ref men, .ref mil, .ref mqu, .int 0, .int 0, .ref mbx]))]) [0] (by decide) rfl
  have hK9 := hK.sub (tys' := []) [] rfl
  exact W.vret hx hb hr (fun t ht hW => ⟨⟨(), rfl, trivial, ⟨by rw [ht]; exact hP9, va_K.moved hW.alike hK9, hD9⟩⟩, hS.F ht⟩) hS.2.2 dX7_remembersAside_90

set_option maxHeartbeats 4000000 in
set_option maxRecDepth 100000 in
theorem c_X7_keepsPast (l : Launch) (dC : Nat → ClassId) (dI : Nat → Nat → Nat) (h0 mnw mhd mas mps msf mdt mhdd masd mpsd msfd mkp mtp mld mmd men mil mqu mbx : Nat) (kI kJ kI3 kJ3 kI4 kJ4 : ClassId) (sz : Nat) : Met l yX7_keepsPast (.code yX7_keepsPast cX7_keepsPast 1 none :: pw) ({ frames := 2, cells := 0, slots := 0, locals := 47 }) (pc (dC, dI) [.ref h0] sz [(h0, .inr (7, [.ref mnw, .ref mhd, .ref mas, .ref mps, .ref msf, .ref mdt, .ref mhdd, .ref masd, .ref mpsd, .ref msfd, .ref mkp, .int 0, .ref mtp, .int 0, .int 0, .int 0, .int 0, .ref mld, .int 0, .ref mmd, .ref men, .ref mil, .ref mqu, .int 0, .int 0, .ref mbx])), (mnw, .inl (kI, 99, .inl (fun _ => 0))), (mdt, .inl (kJ, 640, .inr (.inl (fun _ => 0)))), (mas, .inl (kI3, 99, .inl (fun _ => 0))), (masd, .inl (kJ3, 640, .inr (.inl (fun _ => 0)))), (mps, .inl (kI4, 990, .inl (fun _ => 0))), (mpsd, .inl (kJ4, 6400, .inr (.inl (fun _ => 0))))] [(kI, .int), (kJ, .long), (kI3, .int), (kJ3, .long), (kI4, .int), (kJ4, .long)]) (va_Qv (fun (_ : Unit) => True) (fun _ t => wB (dC, dI) [(h0, .inr (7, [.ref mnw, .ref mhd, .ref mas, .ref mps, .ref msf, .ref mdt, .ref mhdd, .ref masd, .ref mpsd, .ref msfd, .ref mkp, .int 1, .ref mtp, .int 0, .int 0, .int 0, .int 0, .ref mld, .int 0, .ref mmd, .ref men, .ref mil, .ref mqu, .int 0, .int 0, .ref mbx])), (mnw, .inl (kI, 99, .inl (fun _ => 0)))] [(kI, .int)] (va_A [(h0, .inr (7, [.ref mnw, .ref mhd, .ref mas, .ref mps, .ref msf, .ref mdt, .ref mhdd, .ref masd, .ref mpsd, .ref msfd, .ref mkp, .int 0, .ref mtp, .int 0, .int 0, .int 0, .int 0, .ref mld, .int 0, .ref mmd, .ref men, .ref mil, .ref mqu, .int 0, .int 0, .ref mbx])), (mnw, .inl (kI, 99, .inl (fun _ => 0))), (mdt, .inl (kJ, 640, .inr (.inl (fun _ => 0)))), (mas, .inl (kI3, 99, .inl (fun _ => 0))), (masd, .inl (kJ3, 640, .inr (.inl (fun _ => 0)))), (mps, .inl (kI4, 990, .inl (fun _ => 0))), (mpsd, .inl (kJ4, 6400, .inr (.inl (fun _ => 0))))] sz) t) (va_A [(h0, .inr (7, [.ref mnw, .ref mhd, .ref mas, .ref mps, .ref msf, .ref mdt, .ref mhdd, .ref masd, .ref mpsd, .ref msfd, .ref mkp, .int 0, .ref mtp, .int 0, .int 0, .int 0, .int 0, .ref mld, .int 0, .ref mmd, .ref men, .ref mil, .ref mqu, .int 0, .int 0, .ref mbx])), (mnw, .inl (kI, 99, .inl (fun _ => 0))), (mdt, .inl (kJ, 640, .inr (.inl (fun _ => 0)))), (mas, .inl (kI3, 99, .inl (fun _ => 0))), (masd, .inl (kJ3, 640, .inr (.inl (fun _ => 0)))), (mps, .inl (kI4, 990, .inl (fun _ => 0))), (mpsd, .inl (kJ4, 6400, .inr (.inl (fun _ => 0))))] sz)) 0 0 (va_A [(h0, .inr (7, [.ref mnw, .ref mhd, .ref mas, .ref mps, .ref msf, .ref mdt, .ref mhdd, .ref masd, .ref mpsd, .ref msfd, .ref mkp, .int 0, .ref mtp, .int 0, .int 0, .int 0, .int 0, .ref mld, .int 0, .ref mmd, .ref men, .ref mil, .ref mqu, .int 0, .int 0, .ref mbx])), (mnw, .inl (kI, 99, .inl (fun _ => 0))), (mdt, .inl (kJ, 640, .inr (.inl (fun _ => 0)))), (mas, .inl (kI3, 99, .inl (fun _ => 0))), (masd, .inl (kJ3, 640, .inr (.inl (fun _ => 0)))), (mps, .inl (kI4, 990, .inl (fun _ => 0))), (mpsd, .inl (kJ4, 6400, .inr (.inl (fun _ => 0))))] sz) := by
  refine Met.ofW (cc := cX7_keepsPast) (maxL := 1) (ret := none) (by decide +kernel) rfl ?_
  intro p e s m args below meth c s₁ B hml hv
  obtain ⟨rfl, hsz, hP, hK, hD0, hN⟩ := hv
  have hx := B.exec
  have hb := B.bytes
  have hr := B.returns
  have hts := fun w (h : w ∈ pw) => atoms_spec (ws := Cond.code yX7_keepsPast cX7_keepsPast 1 none :: pw) B.pre w (List.mem_cons_of_mem _ h)
  have hown : s.vm.findClass RX7 = some m.cls := findClass_of_methodNamed B.named
  have hlocks := B.notSynchronized
  subst hsz
  have hD := hD0.self (sz := s.heap.size)
  generalize hAe : va_A [(h0, .inr (7, [.ref mnw, .ref mhd, .ref mas, .ref mps, .ref msf, .ref mdt, .ref mhdd, .ref masd, .ref mpsd, .ref msfd, .ref mkp, .int 0, .ref mtp, .int 0, .int 0, .int 0, .int 0, .ref mld, .int 0, .ref mmd, .ref men, .ref mil, .ref mqu, .int 0, .int 0, .ref mbx])), (mnw, .inl (kI, 99, .inl (fun _ => 0))), (mdt, .inl (kJ, 640, .inr (.inl (fun _ => 0)))), (mas, .inl (kI3, 99, .inl (fun _ => 0))), (masd, .inl (kJ3, 640, .inr (.inl (fun _ => 0)))), (mps, .inl (kI4, 990, .inl (fun _ => 0))), (mpsd, .inl (kJ4, 6400, .inr (.inl (fun _ => 0))))] s.heap.size = A at hD ⊢
  have hA : ∀ q : Nat, s.heap.size ≤ q → A q := fun q h => by rw [← hAe]; exact Or.inr h
  obtain ⟨H, hHe⟩ : ∃ H : Heap, H = s.heap := ⟨_, rfl⟩
  have hS : va_S A s.heap H [] := by rw [hHe]; exact va_S.rf
  rw [← hHe] at hP
  have hl := lv_entry ([.ref h0]) (n := 1) (Nat.le_of_ble_eq_true rfl)
  rw [lg_entry_eq]
  generalize (lg_sl ([.ref h0]) ++ List.replicate (1 - (lg_sl ([.ref h0])).length) Slot.unset).toArray = ls at hl ⊢
  have hl : lv_has ls 1 [(0, .ref h0)] := hl
  rw [← hHe]
  refine lv_aload_n hx hb dX7_keepsPast_0 rfl (lv_at hl 0 rfl) ?_
  have hPc := hP.sub (ws' := [(h0, .inr (7, [.ref mnw, .ref mhd, .ref mas, .ref mps, .ref msf, .ref mdt, .ref mhdd, .ref masd, .ref mpsd, .ref msfd, .ref mkp, .int 0, .ref mtp, .int 0, .int 0, .int 0, .int 0, .ref mld, .int 0, .ref mmd, .ref men, .ref mil, .ref mqu, .int 0, .int 0, .ref mbx])), (mnw, .inl (kI, 99, .inl (fun _ => 0))), (mdt, .inl (kJ, 640, .inr (.inl (fun _ => 0)))), (mas, .inl (kI3, 99, .inl (fun _ => 0))), (masd, .inl (kJ3, 640, .inr (.inl (fun _ => 0))))]) [0, 1, 2, 3, 4] rfl
  have hDc := hD.sub (ws' := [(h0, .inr (7, [.ref mnw, .ref mhd, .ref mas, .ref mps, .ref msf, .ref mdt, .ref mhdd, .ref masd, .ref mpsd, .ref msfd, .ref mkp, .int 0, .ref mtp, .int 0, .int 0, .int 0, .int 0, .ref mld, .int 0, .ref mmd, .ref men, .ref mil, .ref mqu, .int 0, .int 0, .ref mbx])), (mnw, .inl (kI, 99, .inl (fun _ => 0))), (mdt, .inl (kJ, 640, .inr (.inl (fun _ => 0)))), (mas, .inl (kI3, 99, .inl (fun _ => 0))), (masd, .inl (kJ3, 640, .inr (.inl (fun _ => 0))))]) [0, 1, 2, 3, 4] (by decide) rfl
  have hKc := hK.sub (tys' := [(kI, .int), (kJ, .long), (kI3, .int), (kJ3, .long)]) [0, 1, 2, 3] rfl
  have hFc := va_free (wc := [(h0, .inr (7, [.ref mnw, .ref mhd, .ref mas, .ref mps, .ref msf, .ref mdt, .ref mhdd, .ref masd, .ref mpsd, .ref msfd, .ref mkp, .int 0, .ref mtp, .int 0, .int 0, .int 0, .int 0, .ref mld, .int 0, .ref mmd, .ref men, .ref mil, .ref mqu, .int 0, .int 0, .ref mbx])), (mnw, .inl (kI, 99, .inl (fun _ => 0))), (mdt, .inl (kJ, 640, .inr (.inl (fun _ => 0)))), (mas, .inl (kI3, 99, .inl (fun _ => 0))), (masd, .inl (kJ3, 640, .inr (.inl (fun _ => 0))))]) hD hS hA [0, 1, 2, 3, 4] rfl
  refine va_callv (va_runV (As := []) (rest := []) ⟨hx, hb, hml, hown, hts⟩ (c_X7_laysAside l dC dI h0 mnw mhd mas mps msf mdt mhdd masd mpsd msfd mkp mtp mld mmd men mil mqu mbx kI kJ kI3 kJ3 H.size  ) (cwV 0 hts (gV pq1328 pq1330 pq27 pq81 pq1331) rfl rfl rfl (by decide +kernel) ⟨(Nat.le_of_ble_eq_true rfl), (Nat.le_of_ble_eq_true rfl)⟩) (pc_V hPc hDc hKc hN (va_recv hK hP (ci := 7) (q0 := 0) rfl rfl)) rfl rfl hl.1 rfl (lv_room (Nat.le_of_ble_eq_true rfl)) dX7_keepsPast_1 ⟨(Nat.le_of_ble_eq_true rfl), (Nat.le_of_ble_eq_true rfl)⟩) hS (fun q _ h => hFc q h) hFc (fun u t H1 locs ht hvm hw hB hz1 hk1 hS => ?_)
  obtain ⟨hP1, hK1, hD1⟩ := hB
  rw [ht] at hP1
  have hK1 := va_K.moved hvm.symm hK1
  obtain ⟨hP, hD⟩ := va_join (wr := [(mps, .inl (kI4, 990, .inl (fun _ => 0))), (mpsd, .inl (kJ4, 6400, .inr (.inl (fun _ => 0))))]) (w1 := [(h0, .inr (7, [.ref mnw, .ref mhd, .ref mas, .ref mps, .ref msf, .ref mdt, .ref mhdd, .ref masd, .ref mpsd, .ref msfd, .ref mkp, .int 0, .ref mtp, .int 0, .int 0, .int 0, .int 0, .ref mld, .int 0, .ref mmd, .ref men, .ref mil, .ref mqu, .int 0, .int 0, .ref mbx])), (mnw, .inl (kI, 99, .inl (fun _ => 0))), (mdt, .inl (kJ, 640, .inr (.inl (fun _ => 0)))), (mas, .inl (kI3, 99, .inl (fun _ => 0))), (masd, .inl (kJ3, 640, .inr (.inl (fun _ => 0))))]) hP hD [0, 1, 2, 3, 4] [5, 6] rfl rfl (by decide) (by decide) hk1 hFc hP1 hD1
  generalize H1 = H at hP hS ⊢
  have hP : va_P (dC, dI) vwCl [(mps, .inl (kI4, 990, .inl (fun _ => 0))), (mpsd, .inl (kJ4, 6400, .inr (.inl (fun _ => 0)))), (h0, .inr (7, [.ref mnw, .ref mhd, .ref mas, .ref mps, .ref msf, .ref mdt, .ref mhdd, .ref masd, .ref mpsd, .ref msfd, .ref mkp, .int 0, .ref mtp, .int 0, .int 0, .int 0, .int 0, .ref mld, .int 0, .ref mmd, .ref men, .ref mil, .ref mqu, .int 0, .int 0, .ref mbx])), (mnw, .inl (kI, 99, .inl (fun _ => 0))), (mdt, .inl (kJ, 640, .inr (.inl (fun _ => 0)))), (mas, .inl (kI3, 99, .inl (fun _ => 0))), (masd, .inl (kJ3, 640, .inr (.inl (fun _ => 0))))] H := hP
  have hD : va_D A [(mps, .inl (kI4, 990, .inl (fun _ => 0))), (mpsd, .inl (kJ4, 6400, .inr (.inl (fun _ => 0)))), (h0, .inr (7, [.ref mnw, .ref mhd, .ref mas, .ref mps, .ref msf, .ref mdt, .ref mhdd, .ref masd, .ref mpsd, .ref msfd, .ref mkp, .int 0, .ref mtp, .int 0, .int 0, .int 0, .int 0, .ref mld, .int 0, .ref mmd, .ref men, .ref mil, .ref mqu, .int 0, .int 0, .ref mbx])), (mnw, .inl (kI, 99, .inl (fun _ => 0))), (mdt, .inl (kJ, 640, .inr (.inl (fun _ => 0)))), (mas, .inl (kI3, 99, .inl (fun _ => 0))), (masd, .inl (kJ3, 640, .inr (.inl (fun _ => 0))))] := hD
  refine lv_aload_n hx hb dX7_keepsPast_4 rfl (lv_at hl 0 rfl) ?_
  have hPc := hP.sub (ws' := [(h0, .inr (7, [.ref mnw, .ref mhd, .ref mas, .ref mps, .ref msf, .ref mdt, .ref mhdd, .ref masd, .ref mpsd, .ref msfd, .ref mkp, .int 0, .ref mtp, .int 0, .int 0, .int 0, .int 0, .ref mld, .int 0, .ref mmd, .ref men, .ref mil, .ref mqu, .int 0, .int 0, .ref mbx])), (mas, .inl (kI3, 99, .inl (fun _ => 0))), (masd, .inl (kJ3, 640, .inr (.inl (fun _ => 0)))), (mps, .inl (kI4, 990, .inl (fun _ => 0))), (mpsd, .inl (kJ4, 6400, .inr (.inl (fun _ => 0))))]) [2, 5, 6, 0, 1] rfl
  have hDc := hD.sub (ws' := [(h0, .inr (7, [.ref mnw, .ref mhd, .ref mas, .ref mps, .ref msf, .ref mdt, .ref mhdd, .ref masd, .ref mpsd, .ref msfd, .ref mkp, .int 0, .ref mtp, .int 0, .int 0, .int 0, .int 0, .ref mld, .int 0, .ref mmd, .ref men, .ref mil, .ref mqu, .int 0, .int 0, .ref mbx])), (mas, .inl (kI3, 99, .inl (fun _ => 0))), (masd, .inl (kJ3, 640, .inr (.inl (fun _ => 0)))), (mps, .inl (kI4, 990, .inl (fun _ => 0))), (mpsd, .inl (kJ4, 6400, .inr (.inl (fun _ => 0))))]) [2, 5, 6, 0, 1] (by decide) rfl
  have hKc := hK.sub (tys' := [(kI3, .int), (kJ3, .long), (kI4, .int), (kJ4, .long)]) [2, 3, 4, 5] rfl
  have hFc := va_free (wc := [(h0, .inr (7, [.ref mnw, .ref mhd, .ref mas, .ref mps, .ref msf, .ref mdt, .ref mhdd, .ref masd, .ref mpsd, .ref msfd, .ref mkp, .int 0, .ref mtp, .int 0, .int 0, .int 0, .int 0, .ref mld, .int 0, .ref mmd, .ref men, .ref mil, .ref mqu, .int 0, .int 0, .ref mbx])), (mas, .inl (kI3, 99, .inl (fun _ => 0))), (masd, .inl (kJ3, 640, .inr (.inl (fun _ => 0)))), (mps, .inl (kI4, 990, .inl (fun _ => 0))), (mpsd, .inl (kJ4, 6400, .inr (.inl (fun _ => 0))))]) hD hS hA [2, 5, 6, 0, 1] rfl
  refine va_callv (va_runV (As := []) (rest := []) ⟨hx, hb, hml, hown, hts⟩ (c_X7_remembersAside l dC dI h0 mnw mhd mas mps msf mdt mhdd masd mpsd msfd mkp mtp mld mmd men mil mqu mbx kI3 kJ3 kI4 kJ4 H.size  ) (cwV 0 hts (gV pq1332 pq1334 pq28 pq81 pq1335) rfl rfl rfl (by decide +kernel) ⟨(Nat.le_of_ble_eq_true rfl), (Nat.le_of_ble_eq_true rfl)⟩) (pc_V hPc hDc hKc hN (va_recv hK hP (ci := 7) (q0 := 2) rfl rfl)) rfl rfl hl.1 rfl (lv_room (Nat.le_of_ble_eq_true rfl)) dX7_keepsPast_5 ⟨(Nat.le_of_ble_eq_true rfl), (Nat.le_of_ble_eq_true rfl)⟩) hS (fun q _ h => hFc q h) hFc (fun u t H1 locs ht hvm hw hB hz1 hk1 hS => ?_)
  obtain ⟨hP1, hK1, hD1⟩ := hB
  rw [ht] at hP1
  have hK1 := va_K.moved hvm.symm hK1
  obtain ⟨hP, hD⟩ := va_join (wr := [(mnw, .inl (kI, 99, .inl (fun _ => 0))), (mdt, .inl (kJ, 640, .inr (.inl (fun _ => 0))))]) (w1 := [(h0, .inr (7, [.ref mnw, .ref mhd, .ref mas, .ref mps, .ref msf, .ref mdt, .ref mhdd, .ref masd, .ref mpsd, .ref msfd, .ref mkp, .int 1, .ref mtp, .int 0, .int 0, .int 0, .int 0, .ref mld, .int 0, .ref mmd, .ref men, .ref mil, .ref mqu, .int 0, .int 0, .ref mbx]))]) hP hD [2, 5, 6, 0, 1] [3, 4] rfl rfl (by decide) (by decide) hk1 hFc hP1 hD1
  generalize H1 = H at hP hS ⊢
  have hP : va_P (dC, dI) vwCl [(mnw, .inl (kI, 99, .inl (fun _ => 0))), (mdt, .inl (kJ, 640, .inr (.inl (fun _ => 0)))), (h0, .inr (7, [.ref mnw, .ref mhd, .ref mas, .ref mps, .ref msf, .ref mdt, .ref mhdd, .ref masd, .ref mpsd, .ref msfd, .ref mkp, .int 1, .ref mtp, .int 0, .int 0, .int 0, .int 0, .ref mld, .int 0, .ref mmd, .ref men, .ref mil, .ref mqu, .int 0, .int 0, .ref mbx]))] H := hP
  have hD : va_D A [(mnw, .inl (kI, 99, .inl (fun _ => 0))), (mdt, .inl (kJ, 640, .inr (.inl (fun _ => 0)))), (h0, .inr (7, [.ref mnw, .ref mhd, .ref mas, .ref mps, .ref msf, .ref mdt, .ref mhdd, .ref masd, .ref mpsd, .ref msfd, .ref mkp, .int 1, .ref mtp, .int 0, .int 0, .int 0, .int 0, .ref mld, .int 0, .ref mmd, .ref men, .ref mil, .ref mqu, .int 0, .int 0, .ref mbx]))] := hD
  have hP9 := hP.sub (ws' := [(h0, .inr (7, [.ref mnw, .ref mhd, .ref mas, .ref mps, .ref msf, .ref mdt, .ref mhdd, .ref masd, .ref mpsd, .ref msfd, .ref mkp, .int 1, .ref mtp, .int 0, .int 0, .int 0, .int 0, .ref mld, .int 0, .ref mmd, .ref men, .ref mil, .ref mqu, .int 0, .int 0, .ref mbx])), (mnw, .inl (kI, 99, .inl (fun _ => 0)))]) [2, 0] rfl
  have hD9 := hD.sub (ws' := [(h0, .inr (7, [.ref mnw, .ref mhd, .ref mas, .ref mps, .ref msf, .ref mdt, .ref mhdd, .ref masd, .ref mpsd, .ref msfd, .ref mkp, .int 1, .ref mtp, .int 0, .int 0, .int 0, .int 0, .ref mld, .int 0, .ref mmd, .ref men, .ref mil, .ref mqu, .int 0, .int 0, .ref mbx])), (mnw, .inl (kI, 99, .inl (fun _ => 0)))]) [2, 0] (by decide) rfl
  have hK9 := hK.sub (tys' := [(kI, .int)]) [0] rfl
  exact W.vret hx hb hr (fun t ht hW => ⟨⟨(), rfl, trivial, ⟨by rw [ht]; exact hP9, va_K.moved hW.alike hK9, hD9⟩⟩, hS.F ht⟩) hS.2.2 dX7_keepsPast_8
