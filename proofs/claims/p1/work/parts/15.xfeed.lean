def yX6_tapeNumber : MethodName := ⟨RX6, "tapeNumber", "(I)V"⟩
abbrev cX6_tapeNumber : ByteArray := prog_1_method_3_code
abbrev cX6_feed : ByteArray := prog_1_method_2_code
def yX6_feed : MethodName := ⟨RX6, "feed", "(IIIII)I"⟩
theorem dX6_feed_0 : decode cX6_feed 0 = .ok (.aload_n 0, 1) := by decide +kernel
theorem dX6_feed_1 : decode cX6_feed 1 = .ok (.getfield 13, 3) := by decide +kernel
theorem dX6_feed_4 : decode cX6_feed 4 = .ok (.bipush 20, 2) := by decide +kernel
theorem dX6_feed_6 : decode cX6_feed 6 = .ok (.iadd, 1) := by decide +kernel
theorem dX6_feed_7 : decode cX6_feed 7 = .ok (.sipush 400, 3) := by decide +kernel
theorem dX6_feed_10 : decode cX6_feed 10 = .ok (.if_icmp .le 5, 3) := by decide +kernel
theorem dX6_feed_15 : decode cX6_feed 15 = .ok (.aload_n 0, 1) := by decide +kernel
theorem dX6_feed_16 : decode cX6_feed 16 = .ok (.iload_n 1, 1) := by decide +kernel
theorem dX6_feed_17 : decode cX6_feed 17 = .ok (.invokevirtual 72, 3) := by decide +kernel
theorem dX6_feed_20 : decode cX6_feed 20 = .ok (.aload_n 0, 1) := by decide +kernel
theorem dX6_feed_21 : decode cX6_feed 21 = .ok (.iload_n 2, 1) := by decide +kernel
theorem dX6_feed_22 : decode cX6_feed 22 = .ok (.invokevirtual 72, 3) := by decide +kernel
theorem dX6_feed_25 : decode cX6_feed 25 = .ok (.aload_n 0, 1) := by decide +kernel
theorem dX6_feed_26 : decode cX6_feed 26 = .ok (.iload_n 3, 1) := by decide +kernel
theorem dX6_feed_27 : decode cX6_feed 27 = .ok (.invokevirtual 72, 3) := by decide +kernel
theorem dX6_feed_30 : decode cX6_feed 30 = .ok (.aload_n 0, 1) := by decide +kernel
theorem dX6_feed_31 : decode cX6_feed 31 = .ok (.iload 4, 2) := by decide +kernel
theorem dX6_feed_33 : decode cX6_feed 33 = .ok (.invokevirtual 72, 3) := by decide +kernel
theorem dX6_feed_36 : decode cX6_feed 36 = .ok (.aload_n 0, 1) := by decide +kernel
theorem dX6_feed_37 : decode cX6_feed 37 = .ok (.iload 5, 2) := by decide +kernel
theorem dX6_feed_39 : decode cX6_feed 39 = .ok (.invokevirtual 72, 3) := by decide +kernel
theorem dX6_feed_42 : decode cX6_feed 42 = .ok (.aload_n 0, 1) := by decide +kernel
theorem dX6_feed_43 : decode cX6_feed 43 = .ok (.getfield 13, 3) := by decide +kernel
theorem dX6_feed_46 : decode cX6_feed 46 = .ok (.ireturn, 1) := by decide +kernel
theorem dX6_tapeNumber_0 : decode cX6_tapeNumber 0 = .ok (.bipush 24, 2) := by decide +kernel
theorem dX6_tapeNumber_2 : decode cX6_tapeNumber 2 = .ok (.istore_n 2, 1) := by decide +kernel
theorem dX6_tapeNumber_3 : decode cX6_tapeNumber 3 = .ok (.iload_n 2, 1) := by decide +kernel
theorem dX6_tapeNumber_4 : decode cX6_tapeNumber 4 = .ok (.ifCond .lt 42, 3) := by decide +kernel
theorem dX6_tapeNumber_7 : decode cX6_tapeNumber 7 = .ok (.aload_n 0, 1) := by decide +kernel
theorem dX6_tapeNumber_8 : decode cX6_tapeNumber 8 = .ok (.getfield 13, 3) := by decide +kernel
theorem dX6_tapeNumber_11 : decode cX6_tapeNumber 11 = .ok (.sipush 400, 3) := by decide +kernel
theorem dX6_tapeNumber_14 : decode cX6_tapeNumber 14 = .ok (.if_icmp .ge 32, 3) := by decide +kernel
theorem dX6_tapeNumber_17 : decode cX6_tapeNumber 17 = .ok (.aload_n 0, 1) := by decide +kernel
theorem dX6_tapeNumber_18 : decode cX6_tapeNumber 18 = .ok (.getfield 9, 3) := by decide +kernel
theorem dX6_tapeNumber_21 : decode cX6_tapeNumber 21 = .ok (.aload_n 0, 1) := by decide +kernel
theorem dX6_tapeNumber_22 : decode cX6_tapeNumber 22 = .ok (.getfield 13, 3) := by decide +kernel
theorem dX6_tapeNumber_25 : decode cX6_tapeNumber 25 = .ok (.iload_n 1, 1) := by decide +kernel
theorem dX6_tapeNumber_26 : decode cX6_tapeNumber 26 = .ok (.iload_n 2, 1) := by decide +kernel
theorem dX6_tapeNumber_27 : decode cX6_tapeNumber 27 = .ok (.ishr, 1) := by decide +kernel
theorem dX6_tapeNumber_28 : decode cX6_tapeNumber 28 = .ok (.i2b, 1) := by decide +kernel
theorem dX6_tapeNumber_29 : decode cX6_tapeNumber 29 = .ok (.bastore, 1) := by decide +kernel
theorem dX6_tapeNumber_30 : decode cX6_tapeNumber 30 = .ok (.aload_n 0, 1) := by decide +kernel
theorem dX6_tapeNumber_31 : decode cX6_tapeNumber 31 = .ok (.dup, 1) := by decide +kernel
theorem dX6_tapeNumber_32 : decode cX6_tapeNumber 32 = .ok (.getfield 13, 3) := by decide +kernel
theorem dX6_tapeNumber_35 : decode cX6_tapeNumber 35 = .ok (.iconst 1, 1) := by decide +kernel
theorem dX6_tapeNumber_36 : decode cX6_tapeNumber 36 = .ok (.iadd, 1) := by decide +kernel
theorem dX6_tapeNumber_37 : decode cX6_tapeNumber 37 = .ok (.putfield 13, 3) := by decide +kernel
theorem dX6_tapeNumber_40 : decode cX6_tapeNumber 40 = .ok (.iinc 2 (-8), 3) := by decide +kernel
theorem dX6_tapeNumber_43 : decode cX6_tapeNumber 43 = .ok (.goto (-40), 3) := by decide +kernel
theorem dX6_tapeNumber_46 : decode cX6_tapeNumber 46 = .ok (.return_, 1) := by decide +kernel
set_option maxRecDepth 100000 in
theorem pq0 : Cond.selects RX6 yX6_tapeNumber yX6_tapeNumber ∈ pw := pw_mem (i := 0) (by decide +kernel) rfl
set_option maxRecDepth 100000 in
theorem pq390 : Cond.methodLink RX6 72 yX6_tapeNumber ∈ pw := pw_mem (i := 390) (by decide +kernel) rfl
set_option maxRecDepth 100000 in
theorem pq392 : Cond.instanceMethod yX6_tapeNumber ∈ pw := pw_mem (i := 392) (by decide +kernel) rfl
set_option maxRecDepth 100000 in
theorem pq393 : Cond.code yX6_tapeNumber cX6_tapeNumber 3 none ∈ pw := pw_mem (i := 393) (by rfl) rfl
set_option maxHeartbeats 4000000 in
set_option maxRecDepth 100000 in
theorem c_X6_tapeNumber_0 (l : Launch) (dC : Nat → ClassId) (dI : Nat → Nat → Nat) (h0 tp nw dr rd sc sk fl ps sh : Nat) (kB : ClassId) (sz : Nat) (f : Nat → Int32) (p0 : Int32) : Met l yX6_tapeNumber (.code yX6_tapeNumber cX6_tapeNumber 3 none :: pw) ({ frames := 0, cells := 0, slots := 0, locals := 0 }) (pc (dC, dI) [.ref h0, .int p0] sz [(h0, .inr (6, [.ref tp, .int 0, .ref nw, .ref dr, .ref rd, .ref sc, .ref sk, .ref fl, .ref ps, .int 0, .int 0, .ref sh])), (tp, .inl (kB, 400, .inl f))] [(kB, .byte)]) (va_Qv (fun (_ : Unit) => True) (fun _ t => ∃ (g : Nat → Int32), wB (dC, dI) [(h0, .inr (6, [.ref tp, .int 4, .ref nw, .ref dr, .ref rd, .ref sc, .ref sk, .ref fl, .ref ps, .int 0, .int 0, .ref sh])), (tp, .inl (kB, 400, .inl g))] [(kB, .byte)] (va_A [(h0, .inr (6, [.ref tp, .int 0, .ref nw, .ref dr, .ref rd, .ref sc, .ref sk, .ref fl, .ref ps, .int 0, .int 0, .ref sh])), (tp, .inl (kB, 400, .inl f))] sz) t) (va_A [(h0, .inr (6, [.ref tp, .int 0, .ref nw, .ref dr, .ref rd, .ref sc, .ref sk, .ref fl, .ref ps, .int 0, .int 0, .ref sh])), (tp, .inl (kB, 400, .inl f))] sz)) 0 0 (va_A [(h0, .inr (6, [.ref tp, .int 0, .ref nw, .ref dr, .ref rd, .ref sc, .ref sk, .ref fl, .ref ps, .int 0, .int 0, .ref sh])), (tp, .inl (kB, 400, .inl f))] sz) := by
  refine Met.ofW (cc := cX6_tapeNumber) (maxL := 3) (ret := none) (by decide +kernel) rfl ?_
  intro p e s m args below meth c s₁ B hml hv
  obtain ⟨rfl, hsz, hP, hK, hD0, hN⟩ := hv
  have hx := B.exec
  have hb := B.bytes
  have hr := B.returns
  have hts := fun w (h : w ∈ pw) => atoms_spec (ws := Cond.code yX6_tapeNumber cX6_tapeNumber 3 none :: pw) B.pre w (List.mem_cons_of_mem _ h)
  have hown : s.vm.findClass RX6 = some m.cls := findClass_of_methodNamed B.named
  have hlocks := B.notSynchronized
  subst hsz
  have hD := hD0.self (sz := s.heap.size)
  generalize hAe : va_A [(h0, .inr (6, [.ref tp, .int 0, .ref nw, .ref dr, .ref rd, .ref sc, .ref sk, .ref fl, .ref ps, .int 0, .int 0, .ref sh])), (tp, .inl (kB, 400, .inl f))] s.heap.size = A at hD ⊢
  have hA : ∀ q : Nat, s.heap.size ≤ q → A q := fun q h => by rw [← hAe]; exact Or.inr h
  obtain ⟨H, hHe⟩ : ∃ H : Heap, H = s.heap := ⟨_, rfl⟩
  have hS : va_S A s.heap H [] := by rw [hHe]; exact va_S.rf
  rw [← hHe] at hP
  have hl := lv_entry ([.ref h0, .int p0]) (n := 3) (Nat.le_of_ble_eq_true rfl)
  rw [lg_entry_eq]
  generalize (lg_sl ([.ref h0, .int p0]) ++ List.replicate (3 - (lg_sl ([.ref h0, .int p0])).length) Slot.unset).toArray = ls at hl ⊢
  have hl : lv_has ls 3 [(0, .ref h0), (1, .int p0)] := hl
  rw [← hHe]
  refine lv_bipush (v := 24) hx hb dX6_tapeNumber_0 (by decide +kernel) ?_
  refine lv_istore_n (lv' := [(2, .int 24), (0, .ref h0), (1, .int p0)]) hx hb dX6_tapeNumber_2 rfl hl (by decide) rfl (fun ls hl => ?_)
  refine lv_iload_n hx hb dX6_tapeNumber_3 rfl (lv_at hl 0 rfl) ?_
  refine lv_if_lt (tgt := 46) hx hb dX6_tapeNumber_4 (by decide) (fun c1 => absurd c1 (by decide +kernel)) (fun c1 => ?_)
  refine lv_aload_n hx hb dX6_tapeNumber_7 rfl (lv_at hl 1 rfl) ?_
  refine va_get (D := (dC, dI)) (ci := 6) (v := .int 0) (C := RX6) (T := TX6) (N := 12) hx hb hts inX6 hown hK hP 0 rfl rfl 1 (by decide) (hts _ pq350) (fun _ h9 => h9) rfl dX6_tapeNumber_8 ?_
  refine lv_sipush (v := 400) hx hb dX6_tapeNumber_11 (by decide +kernel) ?_
  refine lv_icmp_ge (tgt := 46) hx hb dX6_tapeNumber_14 (by decide) (fun c2 => absurd c2 (by decide +kernel)) (fun c2 => ?_)
  refine lv_aload_n hx hb dX6_tapeNumber_17 rfl (lv_at hl 1 rfl) ?_
  refine va_get (D := (dC, dI)) (ci := 6) (v := .ref tp) (C := RX6) (T := TX6) (N := 12) hx hb hts inX6 hown hK hP 0 rfl rfl 0 (by decide) (hts _ pq349) (fun _ h9 => h9) rfl dX6_tapeNumber_18 ?_
  refine lv_aload_n hx hb dX6_tapeNumber_21 rfl (lv_at hl 1 rfl) ?_
  refine va_get (D := (dC, dI)) (ci := 6) (v := .int 0) (C := RX6) (T := TX6) (N := 12) hx hb hts inX6 hown hK hP 0 rfl rfl 1 (by decide) (hts _ pq350) (fun _ h9 => h9) rfl dX6_tapeNumber_22 ?_
  refine lv_iload_n hx hb dX6_tapeNumber_25 rfl (lv_at hl 2 rfl) ?_
  refine lv_iload_n hx hb dX6_tapeNumber_26 rfl (lv_at hl 0 rfl) ?_
  refine lv_ishr hx hb dX6_tapeNumber_27 ?_
  refine lv_topi (fun z3 ez3 => ?_)
  refine lv_i2b hx hb dX6_tapeNumber_28 rfl ?_
  refine lv_topi (fun z5 ez5 => ?_)
  refine va_bast hx hb hK hP hD hS 1 0 rfl rfl (in_d (by decide +kernel)) dX6_tapeNumber_29 (fun H locs hP hD hS => ?_)
  obtain ⟨f6, hP, hD⟩ : ∃ f6 : Nat → Int32, va_P (dC, dI) vwCl [(h0, .inr (6, [.ref tp, .int 0, .ref nw, .ref dr, .ref rd, .ref sc, .ref sk, .ref fl, .ref ps, .int 0, .int 0, .ref sh])), (tp, .inl (kB, 400, .inl f6))] H ∧ va_D A [(h0, .inr (6, [.ref tp, .int 0, .ref nw, .ref dr, .ref rd, .ref sc, .ref sk, .ref fl, .ref ps, .int 0, .int 0, .ref sh])), (tp, .inl (kB, 400, .inl f6))] := ⟨_, hP, hD⟩
  refine lv_aload_n hx hb dX6_tapeNumber_30 rfl (lv_at hl 1 rfl) ?_
  refine lv_dup hx hb dX6_tapeNumber_31 rfl ?_
  refine va_get (D := (dC, dI)) (ci := 6) (v := .int 0) (C := RX6) (T := TX6) (N := 12) hx hb hts inX6 hown hK hP 0 rfl rfl 1 (by decide) (hts _ pq350) (fun _ h9 => h9) rfl dX6_tapeNumber_32 ?_
  refine lv_iconst (v := 1) hx hb dX6_tapeNumber_35 (by decide +kernel) ?_
  refine lv_iadd hx hb dX6_tapeNumber_36 ?_
  refine lv_topi (fun z7 ez7 => ?_)
  obtain rfl : z7 = 1 := ez7.trans (by decide +kernel)
  refine va_put (D := (dC, dI)) (ci := 6) (v := .int 1) (ty := tyX6 1) (C := RX6) (T := TX6) (N := 12) hx hb hts inX6 tyX6 tyX6_ok nmX6 hown hK hP hD hS 0 rfl rfl 1 (by decide) (hts _ pq350) (fun _ h9 => h9) rfl (by decide +kernel) rfl rfl (Nat.le_of_ble_eq_true rfl) dX6_tapeNumber_37 (fun H locs hP hD hS => ?_)
  have hP : va_P (dC, dI) vwCl [(h0, .inr (6, [.ref tp, .int 1, .ref nw, .ref dr, .ref rd, .ref sc, .ref sk, .ref fl, .ref ps, .int 0, .int 0, .ref sh])), (tp, .inl (kB, 400, .inl f6))] H := hP
  have hD : va_D A [(h0, .inr (6, [.ref tp, .int 1, .ref nw, .ref dr, .ref rd, .ref sc, .ref sk, .ref fl, .ref ps, .int 0, .int 0, .ref sh])), (tp, .inl (kB, 400, .inl f6))] := hD
  refine lv_iinc (v := 16) (lv' := [(2, .int 16), (0, .ref h0), (1, .int p0)]) hx hb dX6_tapeNumber_40 hl (k := 0) rfl (by decide +kernel) (by decide) rfl (fun ls hl => ?_)
  refine lv_goto (tgt := 3) hx hb dX6_tapeNumber_43 (by decide) ?_
  refine lv_iload_n hx hb dX6_tapeNumber_3 rfl (lv_at hl 0 rfl) ?_
  refine lv_if_lt (tgt := 46) hx hb dX6_tapeNumber_4 (by decide) (fun c8 => absurd c8 (by decide +kernel)) (fun c8 => ?_)
  refine lv_aload_n hx hb dX6_tapeNumber_7 rfl (lv_at hl 1 rfl) ?_
  refine va_get (D := (dC, dI)) (ci := 6) (v := .int 1) (C := RX6) (T := TX6) (N := 12) hx hb hts inX6 hown hK hP 0 rfl rfl 1 (by decide) (hts _ pq350) (fun _ h9 => h9) rfl dX6_tapeNumber_8 ?_
  refine lv_sipush (v := 400) hx hb dX6_tapeNumber_11 (by decide +kernel) ?_
  refine lv_icmp_ge (tgt := 46) hx hb dX6_tapeNumber_14 (by decide) (fun c9 => absurd c9 (by decide +kernel)) (fun c9 => ?_)
  refine lv_aload_n hx hb dX6_tapeNumber_17 rfl (lv_at hl 1 rfl) ?_
  refine va_get (D := (dC, dI)) (ci := 6) (v := .ref tp) (C := RX6) (T := TX6) (N := 12) hx hb hts inX6 hown hK hP 0 rfl rfl 0 (by decide) (hts _ pq349) (fun _ h9 => h9) rfl dX6_tapeNumber_18 ?_
  refine lv_aload_n hx hb dX6_tapeNumber_21 rfl (lv_at hl 1 rfl) ?_
  refine va_get (D := (dC, dI)) (ci := 6) (v := .int 1) (C := RX6) (T := TX6) (N := 12) hx hb hts inX6 hown hK hP 0 rfl rfl 1 (by decide) (hts _ pq350) (fun _ h9 => h9) rfl dX6_tapeNumber_22 ?_
  refine lv_iload_n hx hb dX6_tapeNumber_25 rfl (lv_at hl 2 rfl) ?_
  refine lv_iload_n hx hb dX6_tapeNumber_26 rfl (lv_at hl 0 rfl) ?_
  refine lv_ishr hx hb dX6_tapeNumber_27 ?_
  refine lv_topi (fun z10 ez10 => ?_)
  refine lv_i2b hx hb dX6_tapeNumber_28 rfl ?_
  refine lv_topi (fun z12 ez12 => ?_)
  refine va_bast hx hb hK hP hD hS 1 0 rfl rfl (in_d (by decide +kernel)) dX6_tapeNumber_29 (fun H locs hP hD hS => ?_)
  obtain ⟨f13, hP, hD⟩ : ∃ f13 : Nat → Int32, va_P (dC, dI) vwCl [(h0, .inr (6, [.ref tp, .int 1, .ref nw, .ref dr, .ref rd, .ref sc, .ref sk, .ref fl, .ref ps, .int 0, .int 0, .ref sh])), (tp, .inl (kB, 400, .inl f13))] H ∧ va_D A [(h0, .inr (6, [.ref tp, .int 1, .ref nw, .ref dr, .ref rd, .ref sc, .ref sk, .ref fl, .ref ps, .int 0, .int 0, .ref sh])), (tp, .inl (kB, 400, .inl f13))] := ⟨_, hP, hD⟩
  refine lv_aload_n hx hb dX6_tapeNumber_30 rfl (lv_at hl 1 rfl) ?_
  refine lv_dup hx hb dX6_tapeNumber_31 rfl ?_
  refine va_get (D := (dC, dI)) (ci := 6) (v := .int 1) (C := RX6) (T := TX6) (N := 12) hx hb hts inX6 hown hK hP 0 rfl rfl 1 (by decide) (hts _ pq350) (fun _ h9 => h9) rfl dX6_tapeNumber_32 ?_
  refine lv_iconst (v := 1) hx hb dX6_tapeNumber_35 (by decide +kernel) ?_
  refine lv_iadd hx hb dX6_tapeNumber_36 ?_
  refine lv_topi (fun z14 ez14 => ?_)
  obtain rfl : z14 = 2 := ez14.trans (by decide +kernel)
  refine va_put (D := (dC, dI)) (ci := 6) (v := .int 2) (ty := tyX6 1) (C := RX6) (T := TX6) (N := 12) hx hb hts inX6 tyX6 tyX6_ok nmX6 hown hK hP hD hS 0 rfl rfl 1 (by decide) (hts _ pq350) (fun _ h9 => h9) rfl (by decide +kernel) rfl rfl (Nat.le_of_ble_eq_true rfl) dX6_tapeNumber_37 (fun H locs hP hD hS => ?_)
  have hP : va_P (dC, dI) vwCl [(h0, .inr (6, [.ref tp, .int 2, .ref nw, .ref dr, .ref rd, .ref sc, .ref sk, .ref fl, .ref ps, .int 0, .int 0, .ref sh])), (tp, .inl (kB, 400, .inl f13))] H := hP
  have hD : va_D A [(h0, .inr (6, [.ref tp, .int 2, .ref nw, .ref dr, .ref rd, .ref sc, .ref sk, .ref fl, .ref ps, .int 0, .int 0, .ref sh])), (tp, .inl (kB, 400, .inl f13))] := hD
  refine lv_iinc (v := 8) (lv' := [(2, .int 8), (0, .ref h0), (1, .int p0)]) hx hb dX6_tapeNumber_40 hl (k := 0) rfl (by decide +kernel) (by decide) rfl (fun ls hl => ?_)
  refine lv_goto (tgt := 3) hx hb dX6_tapeNumber_43 (by decide) ?_
  refine lv_iload_n hx hb dX6_tapeNumber_3 rfl (lv_at hl 0 rfl) ?_
  refine lv_if_lt (tgt := 46) hx hb dX6_tapeNumber_4 (by decide) (fun c15 => absurd c15 (by decide +kernel)) (fun c15 => ?_)
  refine lv_aload_n hx hb dX6_tapeNumber_7 rfl (lv_at hl 1 rfl) ?_
  refine va_get (D := (dC, dI)) (ci := 6) (v := .int 2) (C := RX6) (T := TX6) (N := 12) hx hb hts inX6 hown hK hP 0 rfl rfl 1 (by decide) (hts _ pq350) (fun _ h9 => h9) rfl dX6_tapeNumber_8 ?_
  refine lv_sipush (v := 400) hx hb dX6_tapeNumber_11 (by decide +kernel) ?_
  refine lv_icmp_ge (tgt := 46) hx hb dX6_tapeNumber_14 (by decide) (fun c16 => absurd c16 (by decide +kernel)) (fun c16 => ?_)
  refine lv_aload_n hx hb dX6_tapeNumber_17 rfl (lv_at hl 1 rfl) ?_
  refine va_get (D := (dC, dI)) (ci := 6) (v := .ref tp) (C := RX6) (T := TX6) (N := 12) hx hb hts inX6 hown hK hP 0 rfl rfl 0 (by decide) (hts _ pq349) (fun _ h9 => h9) rfl dX6_tapeNumber_18 ?_
  refine lv_aload_n hx hb dX6_tapeNumber_21 rfl (lv_at hl 1 rfl) ?_
  refine va_get (D := (dC, dI)) (ci := 6) (v := .int 2) (C := RX6) (T := TX6) (N := 12) hx hb hts inX6 hown hK hP 0 rfl rfl 1 (by decide) (hts _ pq350) (fun _ h9 => h9) rfl dX6_tapeNumber_22 ?_
  refine lv_iload_n hx hb dX6_tapeNumber_25 rfl (lv_at hl 2 rfl) ?_
  refine lv_iload_n hx hb dX6_tapeNumber_26 rfl (lv_at hl 0 rfl) ?_
  refine lv_ishr hx hb dX6_tapeNumber_27 ?_
  refine lv_topi (fun z17 ez17 => ?_)
  refine lv_i2b hx hb dX6_tapeNumber_28 rfl ?_
  refine lv_topi (fun z19 ez19 => ?_)
  refine va_bast hx hb hK hP hD hS 1 0 rfl rfl (in_d (by decide +kernel)) dX6_tapeNumber_29 (fun H locs hP hD hS => ?_)
  obtain ⟨f20, hP, hD⟩ : ∃ f20 : Nat → Int32, va_P (dC, dI) vwCl [(h0, .inr (6, [.ref tp, .int 2, .ref nw, .ref dr, .ref rd, .ref sc, .ref sk, .ref fl, .ref ps, .int 0, .int 0, .ref sh])), (tp, .inl (kB, 400, .inl f20))] H ∧ va_D A [(h0, .inr (6, [.ref tp, .int 2, .ref nw, .ref dr, .ref rd, .ref sc, .ref sk, .ref fl, .ref ps, .int 0, .int 0, .ref sh])), (tp, .inl (kB, 400, .inl f20))] := ⟨_, hP, hD⟩
  refine lv_aload_n hx hb dX6_tapeNumber_30 rfl (lv_at hl 1 rfl) ?_
  refine lv_dup hx hb dX6_tapeNumber_31 rfl ?_
  refine va_get (D := (dC, dI)) (ci := 6) (v := .int 2) (C := RX6) (T := TX6) (N := 12) hx hb hts inX6 hown hK hP 0 rfl rfl 1 (by decide) (hts _ pq350) (fun _ h9 => h9) rfl dX6_tapeNumber_32 ?_
  refine lv_iconst (v := 1) hx hb dX6_tapeNumber_35 (by decide +kernel) ?_
  refine lv_iadd hx hb dX6_tapeNumber_36 ?_
  refine lv_topi (fun z21 ez21 => ?_)
  obtain rfl : z21 = 3 := ez21.trans (by decide +kernel)
  refine va_put (D := (dC, dI)) (ci := 6) (v := .int 3) (ty := tyX6 1) (C := RX6) (T := TX6) (N := 12) hx hb hts inX6 tyX6 tyX6_ok nmX6 hown hK hP hD hS 0 rfl rfl 1 (by decide) (hts _ pq350) (fun _ h9 => h9) rfl (by decide +kernel) rfl rfl (Nat.le_of_ble_eq_true rfl) dX6_tapeNumber_37 (fun H locs hP hD hS => ?_)
  have hP : va_P (dC, dI) vwCl [(h0, .inr (6, [.ref tp, .int 3, .ref nw, .ref dr, .ref rd, .ref sc, .ref sk, .ref fl, .ref ps, .int 0, .int 0, .ref sh])), (tp, .inl (kB, 400, .inl f20))] H := hP
  have hD : va_D A [(h0, .inr (6, [.ref tp, .int 3, .ref nw, .ref dr, .ref rd, .ref sc, .ref sk, .ref fl, .ref ps, .int 0, .int 0, .ref sh])), (tp, .inl (kB, 400, .inl f20))] := hD
  refine lv_iinc (v := 0) (lv' := [(2, .int 0), (0, .ref h0), (1, .int p0)]) hx hb dX6_tapeNumber_40 hl (k := 0) rfl (by decide +kernel) (by decide) rfl (fun ls hl => ?_)
  refine lv_goto (tgt := 3) hx hb dX6_tapeNumber_43 (by decide) ?_
  refine lv_iload_n hx hb dX6_tapeNumber_3 rfl (lv_at hl 0 rfl) ?_
  refine lv_if_lt (tgt := 46) hx hb dX6_tapeNumber_4 (by decide) (fun c22 => absurd c22 (by decide +kernel)) (fun c22 => ?_)
  refine lv_aload_n hx hb dX6_tapeNumber_7 rfl (lv_at hl 1 rfl) ?_
  refine va_get (D := (dC, dI)) (ci := 6) (v := .int 3) (C := RX6) (T := TX6) (N := 12) hx hb hts inX6 hown hK hP 0 rfl rfl 1 (by decide) (hts _ pq350) (fun _ h9 => h9) rfl dX6_tapeNumber_8 ?_
  refine lv_sipush (v := 400) hx hb dX6_tapeNumber_11 (by decide +kernel) ?_
  refine lv_icmp_ge (tgt := 46) hx hb dX6_tapeNumber_14 (by decide) (fun c23 => absurd c23 (by decide +kernel)) (fun c23 => ?_)
  refine lv_aload_n hx hb dX6_tapeNumber_17 rfl (lv_at hl 1 rfl) ?_
  refine va_get (D := (dC, dI)) (ci := 6) (v := .ref tp) (C := RX6) (T := TX6) (N := 12) hx hb hts inX6 hown hK hP 0 rfl rfl 0 (by decide) (hts _ pq349) (fun _ h9 => h9) rfl dX6_tapeNumber_18 ?_
  refine lv_aload_n hx hb dX6_tapeNumber_21 rfl (lv_at hl 1 rfl) ?_
  refine va_get (D := (dC, dI)) (ci := 6) (v := .int 3) (C := RX6) (T := TX6) (N := 12) hx hb hts inX6 hown hK hP 0 rfl rfl 1 (by decide) (hts _ pq350) (fun _ h9 => h9) rfl dX6_tapeNumber_22 ?_
  refine lv_iload_n hx hb dX6_tapeNumber_25 rfl (lv_at hl 2 rfl) ?_
  refine lv_iload_n hx hb dX6_tapeNumber_26 rfl (lv_at hl 0 rfl) ?_
  refine lv_ishr hx hb dX6_tapeNumber_27 ?_
  refine lv_topi (fun z24 ez24 => ?_)
  refine lv_i2b hx hb dX6_tapeNumber_28 rfl ?_
  refine lv_topi (fun z26 ez26 => ?_)
  refine va_bast hx hb hK hP hD hS 1 0 rfl rfl (in_d (by decide +kernel)) dX6_tapeNumber_29 (fun H locs hP hD hS => ?_)
  obtain ⟨f27, hP, hD⟩ : ∃ f27 : Nat → Int32, va_P (dC, dI) vwCl [(h0, .inr (6, [.ref tp, .int 3, .ref nw, .ref dr, .ref rd, .ref sc, .ref sk, .ref fl, .ref ps, .int 0, .int 0, .ref sh])), (tp, .inl (kB, 400, .inl f27))] H ∧ va_D A [(h0, .inr (6, [.ref tp, .int 3, .ref nw, .ref dr, .ref rd, .ref sc, .ref sk, .ref fl, .ref ps, .int 0, .int 0, .ref sh])), (tp, .inl (kB, 400, .inl f27))] := ⟨_, hP, hD⟩
  refine lv_aload_n hx hb dX6_tapeNumber_30 rfl (lv_at hl 1 rfl) ?_
  refine lv_dup hx hb dX6_tapeNumber_31 rfl ?_
  refine va_get (D := (dC, dI)) (ci := 6) (v := .int 3) (C := RX6) (T := TX6) (N := 12) hx hb hts inX6 hown hK hP 0 rfl rfl 1 (by decide) (hts _ pq350) (fun _ h9 => h9) rfl dX6_tapeNumber_32 ?_
  refine lv_iconst (v := 1) hx hb dX6_tapeNumber_35 (by decide +kernel) ?_
  refine lv_iadd hx hb dX6_tapeNumber_36 ?_
  refine lv_topi (fun z28 ez28 => ?_)
  obtain rfl : z28 = 4 := ez28.trans (by decide +kernel)
  refine va_put (D := (dC, dI)) (ci := 6) (v := .int 4) (ty := tyX6 1) (C := RX6) (T := TX6) (N := 12) hx hb hts inX6 tyX6 tyX6_ok nmX6 hown hK hP hD hS 0 rfl rfl 1 (by decide) (hts _ pq350) (fun _ h9 => h9) rfl (by decide +kernel) rfl rfl (Nat.le_of_ble_eq_true rfl) dX6_tapeNumber_37 (fun H locs hP hD hS => ?_)
  have hP : va_P (dC, dI) vwCl [(h0, .inr (6, [.ref tp, .int 4, .ref nw, .ref dr, .ref rd, .ref sc, .ref sk, .ref fl, .ref ps, .int 0, .int 0, .ref sh])), (tp, .inl (kB, 400, .inl f27))] H := hP
  have hD : va_D A [(h0, .inr (6, [.ref tp, .int 4, .ref nw, .ref dr, .ref rd, .ref sc, .ref sk, .ref fl, .ref ps, .int 0, .int 0, .ref sh])), (tp, .inl (kB, 400, .inl f27))] := hD
  refine lv_iinc (v := (-8)) (lv' := [(2, .int (-8)), (0, .ref h0), (1, .int p0)]) hx hb dX6_tapeNumber_40 hl (k := 0) rfl (by decide +kernel) (by decide) rfl (fun ls hl => ?_)
  refine lv_goto (tgt := 3) hx hb dX6_tapeNumber_43 (by decide) ?_
  refine lv_iload_n hx hb dX6_tapeNumber_3 rfl (lv_at hl 0 rfl) ?_
  refine lv_if_lt (tgt := 46) hx hb dX6_tapeNumber_4 (by decide) (fun c29 => ?_) (fun c29 => absurd (by decide +kernel) c29)
  have hP9 := hP.sub (ws' := [(h0, .inr (6, [.ref tp, .int 4, .ref nw, .ref dr, .ref rd, .ref sc, .ref sk, .ref fl, .ref ps, .int 0, .int 0, .ref sh])), (tp, .inl (kB, 400, .inl f27))]) [0, 1] rfl
  have hD9 := hD.sub (ws' := [(h0, .inr (6, [.ref tp, .int 4, .ref nw, .ref dr, .ref rd, .ref sc, .ref sk, .ref fl, .ref ps, .int 0, .int 0, .ref sh])), (tp, .inl (kB, 400, .inl f27))]) [0, 1] (by decide) rfl
  have hK9 := hK.sub (tys' := [(kB, .byte)]) [0] rfl
  exact W.vret hx hb hr (fun t ht hW => ⟨⟨(), rfl, trivial, ⟨f27, by rw [ht]; exact hP9, va_K.moved hW.alike hK9, hD9⟩⟩, hS.F ht⟩) hS.2.2 dX6_tapeNumber_46

set_option maxHeartbeats 4000000 in
set_option maxRecDepth 100000 in
theorem c_X6_tapeNumber_4 (l : Launch) (dC : Nat → ClassId) (dI : Nat → Nat → Nat) (h0 tp nw dr rd sc sk fl ps sh : Nat) (kB : ClassId) (sz : Nat) (f : Nat → Int32) (p0 : Int32) : Met l yX6_tapeNumber (.code yX6_tapeNumber cX6_tapeNumber 3 none :: pw) ({ frames := 0, cells := 0, slots := 0, locals := 0 }) (pc (dC, dI) [.ref h0, .int p0] sz [(h0, .inr (6, [.ref tp, .int 4, .ref nw, .ref dr, .ref rd, .ref sc, .ref sk, .ref fl, .ref ps, .int 0, .int 0, .ref sh])), (tp, .inl (kB, 400, .inl f))] [(kB, .byte)]) (va_Qv (fun (_ : Unit) => True) (fun _ t => ∃ (g : Nat → Int32), wB (dC, dI) [(h0, .inr (6, [.ref tp, .int 8, .ref nw, .ref dr, .ref rd, .ref sc, .ref sk, .ref fl, .ref ps, .int 0, .int 0, .ref sh])), (tp, .inl (kB, 400, .inl g))] [(kB, .byte)] (va_A [(h0, .inr (6, [.ref tp, .int 4, .ref nw, .ref dr, .ref rd, .ref sc, .ref sk, .ref fl, .ref ps, .int 0, .int 0, .ref sh])), (tp, .inl (kB, 400, .inl f))] sz) t) (va_A [(h0, .inr (6, [.ref tp, .int 4, .ref nw, .ref dr, .ref rd, .ref sc, .ref sk, .ref fl, .ref ps, .int 0, .int 0, .ref sh])), (tp, .inl (kB, 400, .inl f))] sz)) 0 0 (va_A [(h0, .inr (6, [.ref tp, .int 4, .ref nw, .ref dr, .ref rd, .ref sc, .ref sk, .ref fl, .ref ps, .int 0, .int 0, .ref sh])), (tp, .inl (kB, 400, .inl f))] sz) := by
  refine Met.ofW (cc := cX6_tapeNumber) (maxL := 3) (ret := none) (by decide +kernel) rfl ?_
  intro p e s m args below meth c s₁ B hml hv
  obtain ⟨rfl, hsz, hP, hK, hD0, hN⟩ := hv
  have hx := B.exec
  have hb := B.bytes
  have hr := B.returns
  have hts := fun w (h : w ∈ pw) => atoms_spec (ws := Cond.code yX6_tapeNumber cX6_tapeNumber 3 none :: pw) B.pre w (List.mem_cons_of_mem _ h)
  have hown : s.vm.findClass RX6 = some m.cls := findClass_of_methodNamed B.named
  have hlocks := B.notSynchronized
  subst hsz
  have hD := hD0.self (sz := s.heap.size)
  generalize hAe : va_A [(h0, .inr (6, [.ref tp, .int 4, .ref nw, .ref dr, .ref rd, .ref sc, .ref sk, .ref fl, .ref ps, .int 0, .int 0, .ref sh])), (tp, .inl (kB, 400, .inl f))] s.heap.size = A at hD ⊢
  have hA : ∀ q : Nat, s.heap.size ≤ q → A q := fun q h => by rw [← hAe]; exact Or.inr h
  obtain ⟨H, hHe⟩ : ∃ H : Heap, H = s.heap := ⟨_, rfl⟩
  have hS : va_S A s.heap H [] := by rw [hHe]; exact va_S.rf
  rw [← hHe] at hP
  have hl := lv_entry ([.ref h0, .int p0]) (n := 3) (Nat.le_of_ble_eq_true rfl)
  rw [lg_entry_eq]
  generalize (lg_sl ([.ref h0, .int p0]) ++ List.replicate (3 - (lg_sl ([.ref h0, .int p0])).length) Slot.unset).toArray = ls at hl ⊢
  have hl : lv_has ls 3 [(0, .ref h0), (1, .int p0)] := hl
  rw [← hHe]
  refine lv_bipush (v := 24) hx hb dX6_tapeNumber_0 (by decide +kernel) ?_
  refine lv_istore_n (lv' := [(2, .int 24), (0, .ref h0), (1, .int p0)]) hx hb dX6_tapeNumber_2 rfl hl (by decide) rfl (fun ls hl => ?_)
  refine lv_iload_n hx hb dX6_tapeNumber_3 rfl (lv_at hl 0 rfl) ?_
  refine lv_if_lt (tgt := 46) hx hb dX6_tapeNumber_4 (by decide) (fun c1 => absurd c1 (by decide +kernel)) (fun c1 => ?_)
  refine lv_aload_n hx hb dX6_tapeNumber_7 rfl (lv_at hl 1 rfl) ?_
  refine va_get (D := (dC, dI)) (ci := 6) (v := .int 4) (C := RX6) (T := TX6) (N := 12) hx hb hts inX6 hown hK hP 0 rfl rfl 1 (by decide) (hts _ pq350) (fun _ h9 => h9) rfl dX6_tapeNumber_8 ?_
  refine lv_sipush (v := 400) hx hb dX6_tapeNumber_11 (by decide +kernel) ?_
  refine lv_icmp_ge (tgt := 46) hx hb dX6_tapeNumber_14 (by decide) (fun c2 => absurd c2 (by decide +kernel)) (fun c2 => ?_)
  refine lv_aload_n hx hb dX6_tapeNumber_17 rfl (lv_at hl 1 rfl) ?_
  refine va_get (D := (dC, dI)) (ci := 6) (v := .ref tp) (C := RX6) (T := TX6) (N := 12) hx hb hts inX6 hown hK hP 0 rfl rfl 0 (by decide) (hts _ pq349) (fun _ h9 => h9) rfl dX6_tapeNumber_18 ?_
  refine lv_aload_n hx hb dX6_tapeNumber_21 rfl (lv_at hl 1 rfl) ?_
  refine va_get (D := (dC, dI)) (ci := 6) (v := .int 4) (C := RX6) (T := TX6) (N := 12) hx hb hts inX6 hown hK hP 0 rfl rfl 1 (by decide) (hts _ pq350) (fun _ h9 => h9) rfl dX6_tapeNumber_22 ?_
  refine lv_iload_n hx hb dX6_tapeNumber_25 rfl (lv_at hl 2 rfl) ?_
  refine lv_iload_n hx hb dX6_tapeNumber_26 rfl (lv_at hl 0 rfl) ?_
  refine lv_ishr hx hb dX6_tapeNumber_27 ?_
  refine lv_topi (fun z3 ez3 => ?_)
  refine lv_i2b hx hb dX6_tapeNumber_28 rfl ?_
  refine lv_topi (fun z5 ez5 => ?_)
  refine va_bast hx hb hK hP hD hS 1 0 rfl rfl (in_d (by decide +kernel)) dX6_tapeNumber_29 (fun H locs hP hD hS => ?_)
  obtain ⟨f6, hP, hD⟩ : ∃ f6 : Nat → Int32, va_P (dC, dI) vwCl [(h0, .inr (6, [.ref tp, .int 4, .ref nw, .ref dr, .ref rd, .ref sc, .ref sk, .ref fl, .ref ps, .int 0, .int 0, .ref sh])), (tp, .inl (kB, 400, .inl f6))] H ∧ va_D A [(h0, .inr (6, [.ref tp, .int 4, .ref nw, .ref dr, .ref rd, .ref sc, .ref sk, .ref fl, .ref ps, .int 0, .int 0, .ref sh])), (tp, .inl (kB, 400, .inl f6))] := ⟨_, hP, hD⟩
  refine lv_aload_n hx hb dX6_tapeNumber_30 rfl (lv_at hl 1 rfl) ?_
  refine lv_dup hx hb dX6_tapeNumber_31 rfl ?_
  refine va_get (D := (dC, dI)) (ci := 6) (v := .int 4) (C := RX6) (T := TX6) (N := 12) hx hb hts inX6 hown hK hP 0 rfl rfl 1 (by decide) (hts _ pq350) (fun _ h9 => h9) rfl dX6_tapeNumber_32 ?_
  refine lv_iconst (v := 1) hx hb dX6_tapeNumber_35 (by decide +kernel) ?_
  refine lv_iadd hx hb dX6_tapeNumber_36 ?_
  refine lv_topi (fun z7 ez7 => ?_)
  obtain rfl : z7 = 5 := ez7.trans (by decide +kernel)
  refine va_put (D := (dC, dI)) (ci := 6) (v := .int 5) (ty := tyX6 1) (C := RX6) (T := TX6) (N := 12) hx hb hts inX6 tyX6 tyX6_ok nmX6 hown hK hP hD hS 0 rfl rfl 1 (by decide) (hts _ pq350) (fun _ h9 => h9) rfl (by decide +kernel) rfl rfl (Nat.le_of_ble_eq_true rfl) dX6_tapeNumber_37 (fun H locs hP hD hS => ?_)
  have hP : va_P (dC, dI) vwCl [(h0, .inr (6, [.ref tp, .int 5, .ref nw, .ref dr, .ref rd, .ref sc, .ref sk, .ref fl, .ref ps, .int 0, .int 0, .ref sh])), (tp, .inl (kB, 400, .inl f6))] H := hP
  have hD : va_D A [(h0, .inr (6, [.ref tp, .int 5, .ref nw, .ref dr, .ref rd, .ref sc, .ref sk, .ref fl, .ref ps, .int 0, .int 0, .ref sh])), (tp, .inl (kB, 400, .inl f6))] := hD
  refine lv_iinc (v := 16) (lv' := [(2, .int 16), (0, .ref h0), (1, .int p0)]) hx hb dX6_tapeNumber_40 hl (k := 0) rfl (by decide +kernel) (by decide) rfl (fun ls hl => ?_)
  refine lv_goto (tgt := 3) hx hb dX6_tapeNumber_43 (by decide) ?_
  refine lv_iload_n hx hb dX6_tapeNumber_3 rfl (lv_at hl 0 rfl) ?_
  refine lv_if_lt (tgt := 46) hx hb dX6_tapeNumber_4 (by decide) (fun c8 => absurd c8 (by decide +kernel)) (fun c8 => ?_)
  refine lv_aload_n hx hb dX6_tapeNumber_7 rfl (lv_at hl 1 rfl) ?_
  refine va_get (D := (dC, dI)) (ci := 6) (v := .int 5) (C := RX6) (T := TX6) (N := 12) hx hb hts inX6 hown hK hP 0 rfl rfl 1 (by decide) (hts _ pq350) (fun _ h9 => h9) rfl dX6_tapeNumber_8 ?_
  refine lv_sipush (v := 400) hx hb dX6_tapeNumber_11 (by decide +kernel) ?_
  refine lv_icmp_ge (tgt := 46) hx hb dX6_tapeNumber_14 (by decide) (fun c9 => absurd c9 (by decide +kernel)) (fun c9 => ?_)
  refine lv_aload_n hx hb dX6_tapeNumber_17 rfl (lv_at hl 1 rfl) ?_
  refine va_get (D := (dC, dI)) (ci := 6) (v := .ref tp) (C := RX6) (T := TX6) (N := 12) hx hb hts inX6 hown hK hP 0 rfl rfl 0 (by decide) (hts _ pq349) (fun _ h9 => h9) rfl dX6_tapeNumber_18 ?_
  refine lv_aload_n hx hb dX6_tapeNumber_21 rfl (lv_at hl 1 rfl) ?_
  refine va_get (D := (dC, dI)) (ci := 6) (v := .int 5) (C := RX6) (T := TX6) (N := 12) hx hb hts inX6 hown hK hP 0 rfl rfl 1 (by decide) (hts _ pq350) (fun _ h9 => h9) rfl dX6_tapeNumber_22 ?_
  refine lv_iload_n hx hb dX6_tapeNumber_25 rfl (lv_at hl 2 rfl) ?_
  refine lv_iload_n hx hb dX6_tapeNumber_26 rfl (lv_at hl 0 rfl) ?_
  refine lv_ishr hx hb dX6_tapeNumber_27 ?_
  refine lv_topi (fun z10 ez10 => ?_)
  refine lv_i2b hx hb dX6_tapeNumber_28 rfl ?_
  refine lv_topi (fun z12 ez12 => ?_)
  refine va_bast hx hb hK hP hD hS 1 0 rfl rfl (in_d (by decide +kernel)) dX6_tapeNumber_29 (fun H locs hP hD hS => ?_)
  obtain ⟨f13, hP, hD⟩ : ∃ f13 : Nat → Int32, va_P (dC, dI) vwCl [(h0, .inr (6, [.ref tp, .int 5, .ref nw, .ref dr, .ref rd, .ref sc, .ref sk, .ref fl, .ref ps, .int 0, .int 0, .ref sh])), (tp, .inl (kB, 400, .inl f13))] H ∧ va_D A [(h0, .inr (6, [.ref tp, .int 5, .ref nw, .ref dr, .ref rd, .ref sc, .ref sk, .ref fl, .ref ps, .int 0, .int 0, .ref sh])), (tp, .inl (kB, 400, .inl f13))] := ⟨_, hP, hD⟩
  refine lv_aload_n hx hb dX6_tapeNumber_30 rfl (lv_at hl 1 rfl) ?_
  refine lv_dup hx hb dX6_tapeNumber_31 rfl ?_
  refine va_get (D := (dC, dI)) (ci := 6) (v := .int 5) (C := RX6) (T := TX6) (N := 12) hx hb hts inX6 hown hK hP 0 rfl rfl 1 (by decide) (hts _ pq350) (fun _ h9 => h9) rfl dX6_tapeNumber_32 ?_
  refine lv_iconst (v := 1) hx hb dX6_tapeNumber_35 (by decide +kernel) ?_
  refine lv_iadd hx hb dX6_tapeNumber_36 ?_
  refine lv_topi (fun z14 ez14 => ?_)
  obtain rfl : z14 = 6 := ez14.trans (by decide +kernel)
  refine va_put (D := (dC, dI)) (ci := 6) (v := .int 6) (ty := tyX6 1) (C := RX6) (T := TX6) (N := 12) hx hb hts inX6 tyX6 tyX6_ok nmX6 hown hK hP hD hS 0 rfl rfl 1 (by decide) (hts _ pq350) (fun _ h9 => h9) rfl (by decide +kernel) rfl rfl (Nat.le_of_ble_eq_true rfl) dX6_tapeNumber_37 (fun H locs hP hD hS => ?_)
  have hP : va_P (dC, dI) vwCl [(h0, .inr (6, [.ref tp, .int 6, .ref nw, .ref dr, .ref rd, .ref sc, .ref sk, .ref fl, .ref ps, .int 0, .int 0, .ref sh])), (tp, .inl (kB, 400, .inl f13))] H := hP
  have hD : va_D A [(h0, .inr (6, [.ref tp, .int 6, .ref nw, .ref dr, .ref rd, .ref sc, .ref sk, .ref fl, .ref ps, .int 0, .int 0, .ref sh])), (tp, .inl (kB, 400, .inl f13))] := hD
  refine lv_iinc (v := 8) (lv' := [(2, .int 8), (0, .ref h0), (1, .int p0)]) hx hb dX6_tapeNumber_40 hl (k := 0) rfl (by decide +kernel) (by decide) rfl (fun ls hl => ?_)
  refine lv_goto (tgt := 3) hx hb dX6_tapeNumber_43 (by decide) ?_
  refine lv_iload_n hx hb dX6_tapeNumber_3 rfl (lv_at hl 0 rfl) ?_
  refine lv_if_lt (tgt := 46) hx hb dX6_tapeNumber_4 (by decide) (fun c15 => absurd c15 (by decide +kernel)) (fun c15 => ?_)
  refine lv_aload_n hx hb dX6_tapeNumber_7 rfl (lv_at hl 1 rfl) ?_
  refine va_get (D := (dC, dI)) (ci := 6) (v := .int 6) (C := RX6) (T := TX6) (N := 12) hx hb hts inX6 hown hK hP 0 rfl rfl 1 (by decide) (hts _ pq350) (fun _ h9 => h9) rfl dX6_tapeNumber_8 ?_
  refine lv_sipush (v := 400) hx hb dX6_tapeNumber_11 (by decide +kernel) ?_
  refine lv_icmp_ge (tgt := 46) hx hb dX6_tapeNumber_14 (by decide) (fun c16 => absurd c16 (by decide +kernel)) (fun c16 => ?_)
  refine lv_aload_n hx hb dX6_tapeNumber_17 rfl (lv_at hl 1 rfl) ?_
  refine va_get (D := (dC, dI)) (ci := 6) (v := .ref tp) (C := RX6) (T := TX6) (N := 12) hx hb hts inX6 hown hK hP 0 rfl rfl 0 (by decide) (hts _ pq349) (fun _ h9 => h9) rfl dX6_tapeNumber_18 ?_
  refine lv_aload_n hx hb dX6_tapeNumber_21 rfl (lv_at hl 1 rfl) ?_
  refine va_get (D := (dC, dI)) (ci := 6) (v := .int 6) (C := RX6) (T := TX6) (N := 12) hx hb hts inX6 hown hK hP 0 rfl rfl 1 (by decide) (hts _ pq350) (fun _ h9 => h9) rfl dX6_tapeNumber_22 ?_
  refine lv_iload_n hx hb dX6_tapeNumber_25 rfl (lv_at hl 2 rfl) ?_
  refine lv_iload_n hx hb dX6_tapeNumber_26 rfl (lv_at hl 0 rfl) ?_
  refine lv_ishr hx hb dX6_tapeNumber_27 ?_
  refine lv_topi (fun z17 ez17 => ?_)
  refine lv_i2b hx hb dX6_tapeNumber_28 rfl ?_
  refine lv_topi (fun z19 ez19 => ?_)
  refine va_bast hx hb hK hP hD hS 1 0 rfl rfl (in_d (by decide +kernel)) dX6_tapeNumber_29 (fun H locs hP hD hS => ?_)
  obtain ⟨f20, hP, hD⟩ : ∃ f20 : Nat → Int32, va_P (dC, dI) vwCl [(h0, .inr (6, [.ref tp, .int 6, .ref nw, .ref dr, .ref rd, .ref sc, .ref sk, .ref fl, .ref ps, .int 0, .int 0, .ref sh])), (tp, .inl (kB, 400, .inl f20))] H ∧ va_D A [(h0, .inr (6, [.ref tp, .int 6, .ref nw, .ref dr, .ref rd, .ref sc, .ref sk, .ref fl, .ref ps, .int 0, .int 0, .ref sh])), (tp, .inl (kB, 400, .inl f20))] := ⟨_, hP, hD⟩
  refine lv_aload_n hx hb dX6_tapeNumber_30 rfl (lv_at hl 1 rfl) ?_
  refine lv_dup hx hb dX6_tapeNumber_31 rfl ?_
  refine va_get (D := (dC, dI)) (ci := 6) (v := .int 6) (C := RX6) (T := TX6) (N := 12) hx hb hts inX6 hown hK hP 0 rfl rfl 1 (by decide) (hts _ pq350) (fun _ h9 => h9) rfl dX6_tapeNumber_32 ?_
  refine lv_iconst (v := 1) hx hb dX6_tapeNumber_35 (by decide +kernel) ?_
  refine lv_iadd hx hb dX6_tapeNumber_36 ?_
  refine lv_topi (fun z21 ez21 => ?_)
  obtain rfl : z21 = 7 := ez21.trans (by decide +kernel)
  refine va_put (D := (dC, dI)) (ci := 6) (v := .int 7) (ty := tyX6 1) (C := RX6) (T := TX6) (N := 12) hx hb hts inX6 tyX6 tyX6_ok nmX6 hown hK hP hD hS 0 rfl rfl 1 (by decide) (hts _ pq350) (fun _ h9 => h9) rfl (by decide +kernel) rfl rfl (Nat.le_of_ble_eq_true rfl) dX6_tapeNumber_37 (fun H locs hP hD hS => ?_)
  have hP : va_P (dC, dI) vwCl [(h0, .inr (6, [.ref tp, .int 7, .ref nw, .ref dr, .ref rd, .ref sc, .ref sk, .ref fl, .ref ps, .int 0, .int 0, .ref sh])), (tp, .inl (kB, 400, .inl f20))] H := hP
  have hD : va_D A [(h0, .inr (6, [.ref tp, .int 7, .ref nw, .ref dr, .ref rd, .ref sc, .ref sk, .ref fl, .ref ps, .int 0, .int 0, .ref sh])), (tp, .inl (kB, 400, .inl f20))] := hD
  refine lv_iinc (v := 0) (lv' := [(2, .int 0), (0, .ref h0), (1, .int p0)]) hx hb dX6_tapeNumber_40 hl (k := 0) rfl (by decide +kernel) (by decide) rfl (fun ls hl => ?_)
  refine lv_goto (tgt := 3) hx hb dX6_tapeNumber_43 (by decide) ?_
  refine lv_iload_n hx hb dX6_tapeNumber_3 rfl (lv_at hl 0 rfl) ?_
  refine lv_if_lt (tgt := 46) hx hb dX6_tapeNumber_4 (by decide) (fun c22 => absurd c22 (by decide +kernel)) (fun c22 => ?_)
  refine lv_aload_n hx hb dX6_tapeNumber_7 rfl (lv_at hl 1 rfl) ?_
  refine va_get (D := (dC, dI)) (ci := 6) (v := .int 7) (C := RX6) (T := TX6) (N := 12) hx hb hts inX6 hown hK hP 0 rfl rfl 1 (by decide) (hts _ pq350) (fun _ h9 => h9) rfl dX6_tapeNumber_8 ?_
  refine lv_sipush (v := 400) hx hb dX6_tapeNumber_11 (by decide +kernel) ?_
  refine lv_icmp_ge (tgt := 46) hx hb dX6_tapeNumber_14 (by decide) (fun c23 => absurd c23 (by decide +kernel)) (fun c23 => ?_)
  refine lv_aload_n hx hb dX6_tapeNumber_17 rfl (lv_at hl 1 rfl) ?_
  refine va_get (D := (dC, dI)) (ci := 6) (v := .ref tp) (C := RX6) (T := TX6) (N := 12) hx hb hts inX6 hown hK hP 0 rfl rfl 0 (by decide) (hts _ pq349) (fun _ h9 => h9) rfl dX6_tapeNumber_18 ?_
  refine lv_aload_n hx hb dX6_tapeNumber_21 rfl (lv_at hl 1 rfl) ?_
  refine va_get (D := (dC, dI)) (ci := 6) (v := .int 7) (C := RX6) (T := TX6) (N := 12) hx hb hts inX6 hown hK hP 0 rfl rfl 1 (by decide) (hts _ pq350) (fun _ h9 => h9) rfl dX6_tapeNumber_22 ?_
  refine lv_iload_n hx hb dX6_tapeNumber_25 rfl (lv_at hl 2 rfl) ?_
  refine lv_iload_n hx hb dX6_tapeNumber_26 rfl (lv_at hl 0 rfl) ?_
  refine lv_ishr hx hb dX6_tapeNumber_27 ?_
  refine lv_topi (fun z24 ez24 => ?_)
  refine lv_i2b hx hb dX6_tapeNumber_28 rfl ?_
  refine lv_topi (fun z26 ez26 => ?_)
  refine va_bast hx hb hK hP hD hS 1 0 rfl rfl (in_d (by decide +kernel)) dX6_tapeNumber_29 (fun H locs hP hD hS => ?_)
  obtain ⟨f27, hP, hD⟩ : ∃ f27 : Nat → Int32, va_P (dC, dI) vwCl [(h0, .inr (6, [.ref tp, .int 7, .ref nw, .ref dr, .ref rd, .ref sc, .ref sk, .ref fl, .ref ps, .int 0, .int 0, .ref sh])), (tp, .inl (kB, 400, .inl f27))] H ∧ va_D A [(h0, .inr (6, [.ref tp, .int 7, .ref nw, .ref dr, .ref rd, .ref sc, .ref sk, .ref fl, .ref ps, .int 0, .int 0, .ref sh])), (tp, .inl (kB, 400, .inl f27))] := ⟨_, hP, hD⟩
  refine lv_aload_n hx hb dX6_tapeNumber_30 rfl (lv_at hl 1 rfl) ?_
  refine lv_dup hx hb dX6_tapeNumber_31 rfl ?_
  refine va_get (D := (dC, dI)) (ci := 6) (v := .int 7) (C := RX6) (T := TX6) (N := 12) hx hb hts inX6 hown hK hP 0 rfl rfl 1 (by decide) (hts _ pq350) (fun _ h9 => h9) rfl dX6_tapeNumber_32 ?_
  refine lv_iconst (v := 1) hx hb dX6_tapeNumber_35 (by decide +kernel) ?_
  refine lv_iadd hx hb dX6_tapeNumber_36 ?_
  refine lv_topi (fun z28 ez28 => ?_)
  obtain rfl : z28 = 8 := ez28.trans (by decide +kernel)
  refine va_put (D := (dC, dI)) (ci := 6) (v := .int 8) (ty := tyX6 1) (C := RX6) (T := TX6) (N := 12) hx hb hts inX6 tyX6 tyX6_ok nmX6 hown hK hP hD hS 0 rfl rfl 1 (by decide) (hts _ pq350) (fun _ h9 => h9) rfl (by decide +kernel) rfl rfl (Nat.le_of_ble_eq_true rfl) dX6_tapeNumber_37 (fun H locs hP hD hS => ?_)
  have hP : va_P (dC, dI) vwCl [(h0, .inr (6, [.ref tp, .int 8, .ref nw, .ref dr, .ref rd, .ref sc, .ref sk, .ref fl, .ref ps, .int 0, .int 0, .ref sh])), (tp, .inl (kB, 400, .inl f27))] H := hP
  have hD : va_D A [(h0, .inr (6, [.ref tp, .int 8, .ref nw, .ref dr, .ref rd, .ref sc, .ref sk, .ref fl, .ref ps, .int 0, .int 0, .ref sh])), (tp, .inl (kB, 400, .inl f27))] := hD
  refine lv_iinc (v := (-8)) (lv' := [(2, .int (-8)), (0, .ref h0), (1, .int p0)]) hx hb dX6_tapeNumber_40 hl (k := 0) rfl (by decide +kernel) (by decide) rfl (fun ls hl => ?_)
  refine lv_goto (tgt := 3) hx hb dX6_tapeNumber_43 (by decide) ?_
  refine lv_iload_n hx hb dX6_tapeNumber_3 rfl (lv_at hl 0 rfl) ?_
  refine lv_if_lt (tgt := 46) hx hb dX6_tapeNumber_4 (by decide) (fun c29 => ?_) (fun c29 => absurd (by decide +kernel) c29)
  have hP9 := hP.sub (ws' := [(h0, .inr (6, [.ref tp, .int 8, .ref nw, .ref dr, .ref rd, .ref sc, .ref sk, .ref fl, .ref ps, .int 0, .int 0, .ref sh])), (tp, .inl (kB, 400, .inl f27))]) [0, 1] rfl
  have hD9 := hD.sub (ws' := [(h0, .inr (6, [.ref tp, .int 8, .ref nw, .ref dr, .ref rd, .ref sc, .ref sk, .ref fl, .ref ps, .int 0, .int 0, .ref sh])), (tp, .inl (kB, 400, .inl f27))]) [0, 1] (by decide) rfl
  have hK9 := hK.sub (tys' := [(kB, .byte)]) [0] rfl
  exact W.vret hx hb hr (fun t ht hW => ⟨⟨(), rfl, trivial, ⟨f27, by rw [ht]; exact hP9, va_K.moved hW.alike hK9, hD9⟩⟩, hS.F ht⟩) hS.2.2 dX6_tapeNumber_46

set_option maxHeartbeats 4000000 in
set_option maxRecDepth 100000 in
theorem c_X6_tapeNumber_8 (l : Launch) (dC : Nat → ClassId) (dI : Nat → Nat → Nat) (h0 tp nw dr rd sc sk fl ps sh : Nat) (kB : ClassId) (sz : Nat) (f : Nat → Int32) (p0 : Int32) : Met l yX6_tapeNumber (.code yX6_tapeNumber cX6_tapeNumber 3 none :: pw) ({ frames := 0, cells := 0, slots := 0, locals := 0 }) (pc (dC, dI) [.ref h0, .int p0] sz [(h0, .inr (6, [.ref tp, .int 8, .ref nw, .ref dr, .ref rd, .ref sc, .ref sk, .ref fl, .ref ps, .int 0, .int 0, .ref sh])), (tp, .inl (kB, 400, .inl f))] [(kB, .byte)]) (va_Qv (fun (_ : Unit) => True) (fun _ t => ∃ (g : Nat → Int32), wB (dC, dI) [(h0, .inr (6, [.ref tp, .int 12, .ref nw, .ref dr, .ref rd, .ref sc, .ref sk, .ref fl, .ref ps, .int 0, .int 0, .ref sh])), (tp, .inl (kB, 400, .inl g))] [(kB, .byte)] (va_A [(h0, .inr (6, [.ref tp, .int 8, .ref nw, .ref dr, .ref rd, .ref sc, .ref sk, .ref fl, .ref ps, .int 0, .int 0, .ref sh])), (tp, .inl (kB, 400, .inl f))] sz) t) (va_A [(h0, .inr (6, [.ref tp, .int 8, .ref nw, .ref dr, .ref rd, .ref sc, .ref sk, .ref fl, .ref ps, .int 0, .int 0, .ref sh])), (tp, .inl (kB, 400, .inl f))] sz)) 0 0 (va_A [(h0, .inr (6, [.ref tp, .int 8, .ref nw, .ref dr, .ref rd, .ref sc, .ref sk, .ref fl, .ref ps, .int 0, .int 0, .ref sh])), (tp, .inl (kB, 400, .inl f))] sz) := by
  refine Met.ofW (cc := cX6_tapeNumber) (maxL := 3) (ret := none) (by decide +kernel) rfl ?_
  intro p e s m args below meth c s₁ B hml hv
  obtain ⟨rfl, hsz, hP, hK, hD0, hN⟩ := hv
  have hx := B.exec
  have hb := B.bytes
  have hr := B.returns
  have hts := fun w (h : w ∈ pw) => atoms_spec (ws := Cond.code yX6_tapeNumber cX6_tapeNumber 3 none :: pw) B.pre w (List.mem_cons_of_mem _ h)
  have hown : s.vm.findClass RX6 = some m.cls := findClass_of_methodNamed B.named
  have hlocks := B.notSynchronized
  subst hsz
  have hD := hD0.self (sz := s.heap.size)
  generalize hAe : va_A [(h0, .inr (6, [.ref tp, .int 8, .ref nw, .ref dr, .ref rd, .ref sc, .ref sk, .ref fl, .ref ps, .int 0, .int 0, .ref sh])), (tp, .inl (kB, 400, .inl f))] s.heap.size = A at hD ⊢
  have hA : ∀ q : Nat, s.heap.size ≤ q → A q := fun q h => by rw [← hAe]; exact Or.inr h
  obtain ⟨H, hHe⟩ : ∃ H : Heap, H = s.heap := ⟨_, rfl⟩
  have hS : va_S A s.heap H [] := by rw [hHe]; exact va_S.rf
  rw [← hHe] at hP
  have hl := lv_entry ([.ref h0, .int p0]) (n := 3) (Nat.le_of_ble_eq_true rfl)
  rw [lg_entry_eq]
  generalize (lg_sl ([.ref h0, .int p0]) ++ List.replicate (3 - (lg_sl ([.ref h0, .int p0])).length) Slot.unset).toArray = ls at hl ⊢
  have hl : lv_has ls 3 [(0, .ref h0), (1, .int p0)] := hl
  rw [← hHe]
  refine lv_bipush (v := 24) hx hb dX6_tapeNumber_0 (by decide +kernel) ?_
  refine lv_istore_n (lv' := [(2, .int 24), (0, .ref h0), (1, .int p0)]) hx hb dX6_tapeNumber_2 rfl hl (by decide) rfl (fun ls hl => ?_)
  refine lv_iload_n hx hb dX6_tapeNumber_3 rfl (lv_at hl 0 rfl) ?_
  refine lv_if_lt (tgt := 46) hx hb dX6_tapeNumber_4 (by decide) (fun c1 => absurd c1 (by decide +kernel)) (fun c1 => ?_)
  refine lv_aload_n hx hb dX6_tapeNumber_7 rfl (lv_at hl 1 rfl) ?_
  refine va_get (D := (dC, dI)) (ci := 6) (v := .int 8) (C := RX6) (T := TX6) (N := 12) hx hb hts inX6 hown hK hP 0 rfl rfl 1 (by decide) (hts _ pq350) (fun _ h9 => h9) rfl dX6_tapeNumber_8 ?_
  refine lv_sipush (v := 400) hx hb dX6_tapeNumber_11 (by decide +kernel) ?_
  refine lv_icmp_ge (tgt := 46) hx hb dX6_tapeNumber_14 (by decide) (fun c2 => absurd c2 (by decide +kernel)) (fun c2 => ?_)
  refine lv_aload_n hx hb dX6_tapeNumber_17 rfl (lv_at hl 1 rfl) ?_
  refine va_get (D := (dC, dI)) (ci := 6) (v := .ref tp) (C := RX6) (T := TX6) (N := 12) hx hb hts inX6 hown hK hP 0 rfl rfl 0 (by decide) (hts _ pq349) (fun _ h9 => h9) rfl dX6_tapeNumber_18 ?_
  refine lv_aload_n hx hb dX6_tapeNumber_21 rfl (lv_at hl 1 rfl) ?_
  refine va_get (D := (dC, dI)) (ci := 6) (v := .int 8) (C := RX6) (T := TX6) (N := 12) hx hb hts inX6 hown hK hP 0 rfl rfl 1 (by decide) (hts _ pq350) (fun _ h9 => h9) rfl dX6_tapeNumber_22 ?_
  refine lv_iload_n hx hb dX6_tapeNumber_25 rfl (lv_at hl 2 rfl) ?_
  refine lv_iload_n hx hb dX6_tapeNumber_26 rfl (lv_at hl 0 rfl) ?_
  refine lv_ishr hx hb dX6_tapeNumber_27 ?_
  refine lv_topi (fun z3 ez3 => ?_)
  refine lv_i2b hx hb dX6_tapeNumber_28 rfl ?_
  refine lv_topi (fun z5 ez5 => ?_)
  refine va_bast hx hb hK hP hD hS 1 0 rfl rfl (in_d (by decide +kernel)) dX6_tapeNumber_29 (fun H locs hP hD hS => ?_)
  obtain ⟨f6, hP, hD⟩ : ∃ f6 : Nat → Int32, va_P (dC, dI) vwCl [(h0, .inr (6, [.ref tp, .int 8, .ref nw, .ref dr, .ref rd, .ref sc, .ref sk, .ref fl, .ref ps, .int 0, .int 0, .ref sh])), (tp, .inl (kB, 400, .inl f6))] H ∧ va_D A [(h0, .inr (6, [.ref tp, .int 8, .ref nw, .ref dr, .ref rd, .ref sc, .ref sk, .ref fl, .ref ps, .int 0, .int 0, .ref sh])), (tp, .inl (kB, 400, .inl f6))] := ⟨_, hP, hD⟩
  refine lv_aload_n hx hb dX6_tapeNumber_30 rfl (lv_at hl 1 rfl) ?_
  refine lv_dup hx hb dX6_tapeNumber_31 rfl ?_
  refine va_get (D := (dC, dI)) (ci := 6) (v := .int 8) (C := RX6) (T := TX6) (N := 12) hx hb hts inX6 hown hK hP 0 rfl rfl 1 (by decide) (hts _ pq350) (fun _ h9 => h9) rfl dX6_tapeNumber_32 ?_
  refine lv_iconst (v := 1) hx hb dX6_tapeNumber_35 (by decide +kernel) ?_
  refine lv_iadd hx hb dX6_tapeNumber_36 ?_
  refine lv_topi (fun z7 ez7 => ?_)
  obtain rfl : z7 = 9 := ez7.trans (by decide +kernel)
  refine va_put (D := (dC, dI)) (ci := 6) (v := .int 9) (ty := tyX6 1) (C := RX6) (T := TX6) (N := 12) hx hb hts inX6 tyX6 tyX6_ok nmX6 hown hK hP hD hS 0 rfl rfl 1 (by decide) (hts _ pq350) (fun _ h9 => h9) rfl (by decide +kernel) rfl rfl (Nat.le_of_ble_eq_true rfl) dX6_tapeNumber_37 (fun H locs hP hD hS => ?_)
  have hP : va_P (dC, dI) vwCl [(h0, .inr (6, [.ref tp, .int 9, .ref nw, .ref dr, .ref rd, .ref sc, .ref sk, .ref fl, .ref ps, .int 0, .int 0, .ref sh])), (tp, .inl (kB, 400, .inl f6))] H := hP
  have hD : va_D A [(h0, .inr (6, [.ref tp, .int 9, .ref nw, .ref dr, .ref rd, .ref sc, .ref sk, .ref fl, .ref ps, .int 0, .int 0, .ref sh])), (tp, .inl (kB, 400, .inl f6))] := hD
  refine lv_iinc (v := 16) (lv' := [(2, .int 16), (0, .ref h0), (1, .int p0)]) hx hb dX6_tapeNumber_40 hl (k := 0) rfl (by decide +kernel) (by decide) rfl (fun ls hl => ?_)
  refine lv_goto (tgt := 3) hx hb dX6_tapeNumber_43 (by decide) ?_
  refine lv_iload_n hx hb dX6_tapeNumber_3 rfl (lv_at hl 0 rfl) ?_
  refine lv_if_lt (tgt := 46) hx hb dX6_tapeNumber_4 (by decide) (fun c8 => absurd c8 (by decide +kernel)) (fun c8 => ?_)
  refine lv_aload_n hx hb dX6_tapeNumber_7 rfl (lv_at hl 1 rfl) ?_
  refine va_get (D := (dC, dI)) (ci := 6) (v := .int 9) (C := RX6) (T := TX6) (N := 12) hx hb hts inX6 hown hK hP 0 rfl rfl 1 (by decide) (hts _ pq350) (fun _ h9 => h9) rfl dX6_tapeNumber_8 ?_
  refine lv_sipush (v := 400) hx hb dX6_tapeNumber_11 (by decide +kernel) ?_
  refine lv_icmp_ge (tgt := 46) hx hb dX6_tapeNumber_14 (by decide) (fun c9 => absurd c9 (by decide +kernel)) (fun c9 => ?_)
  refine lv_aload_n hx hb dX6_tapeNumber_17 rfl (lv_at hl 1 rfl) ?_
  refine va_get (D := (dC, dI)) (ci := 6) (v := .ref tp) (C := RX6) (T := TX6) (N := 12) hx hb hts inX6 hown hK hP 0 rfl rfl 0 (by decide) (hts _ pq349) (fun _ h9 => h9) rfl dX6_tapeNumber_18 ?_
  refine lv_aload_n hx hb dX6_tapeNumber_21 rfl (lv_at hl 1 rfl) ?_
  refine va_get (D := (dC, dI)) (ci := 6) (v := .int 9) (C := RX6) (T := TX6) (N := 12) hx hb hts inX6 hown hK hP 0 rfl rfl 1 (by decide) (hts _ pq350) (fun _ h9 => h9) rfl dX6_tapeNumber_22 ?_
  refine lv_iload_n hx hb dX6_tapeNumber_25 rfl (lv_at hl 2 rfl) ?_
  refine lv_iload_n hx hb dX6_tapeNumber_26 rfl (lv_at hl 0 rfl) ?_
  refine lv_ishr hx hb dX6_tapeNumber_27 ?_
  refine lv_topi (fun z10 ez10 => ?_)
  refine lv_i2b hx hb dX6_tapeNumber_28 rfl ?_
  refine lv_topi (fun z12 ez12 => ?_)
  refine va_bast hx hb hK hP hD hS 1 0 rfl rfl (in_d (by decide +kernel)) dX6_tapeNumber_29 (fun H locs hP hD hS => ?_)
  obtain ⟨f13, hP, hD⟩ : ∃ f13 : Nat → Int32, va_P (dC, dI) vwCl [(h0, .inr (6, [.ref tp, .int 9, .ref nw, .ref dr, .ref rd, .ref sc, .ref sk, .ref fl, .ref ps, .int 0, .int 0, .ref sh])), (tp, .inl (kB, 400, .inl f13))] H ∧ va_D A [(h0, .inr (6, [.ref tp, .int 9, .ref nw, .ref dr, .ref rd, .ref sc, .ref sk, .ref fl, .ref ps, .int 0, .int 0, .ref sh])), (tp, .inl (kB, 400, .inl f13))] := ⟨_, hP, hD⟩
  refine lv_aload_n hx hb dX6_tapeNumber_30 rfl (lv_at hl 1 rfl) ?_
  refine lv_dup hx hb dX6_tapeNumber_31 rfl ?_
  refine va_get (D := (dC, dI)) (ci := 6) (v := .int 9) (C := RX6) (T := TX6) (N := 12) hx hb hts inX6 hown hK hP 0 rfl rfl 1 (by decide) (hts _ pq350) (fun _ h9 => h9) rfl dX6_tapeNumber_32 ?_
  refine lv_iconst (v := 1) hx hb dX6_tapeNumber_35 (by decide +kernel) ?_
  refine lv_iadd hx hb dX6_tapeNumber_36 ?_
  refine lv_topi (fun z14 ez14 => ?_)
  obtain rfl : z14 = 10 := ez14.trans (by decide +kernel)
  refine va_put (D := (dC, dI)) (ci := 6) (v := .int 10) (ty := tyX6 1) (C := RX6) (T := TX6) (N := 12) hx hb hts inX6 tyX6 tyX6_ok nmX6 hown hK hP hD hS 0 rfl rfl 1 (by decide) (hts _ pq350) (fun _ h9 => h9) rfl (by decide +kernel) rfl rfl (Nat.le_of_ble_eq_true rfl) dX6_tapeNumber_37 (fun H locs hP hD hS => ?_)
  have hP : va_P (dC, dI) vwCl [(h0, .inr (6, [.ref tp, .int 10, .ref nw, .ref dr, .ref rd, .ref sc, .ref sk, .ref fl, .ref ps, .int 0, .int 0, .ref sh])), (tp, .inl (kB, 400, .inl f13))] H := hP
  have hD : va_D A [(h0, .inr (6, [.ref tp, .int 10, .ref nw, .ref dr, .ref rd, .ref sc, .ref sk, .ref fl, .ref ps, .int 0, .int 0, .ref sh])), (tp, .inl (kB, 400, .inl f13))] := hD
  refine lv_iinc (v := 8) (lv' := [(2, .int 8), (0, .ref h0), (1, .int p0)]) hx hb dX6_tapeNumber_40 hl (k := 0) rfl (by decide +kernel) (by decide) rfl (fun ls hl => ?_)
  refine lv_goto (tgt := 3) hx hb dX6_tapeNumber_43 (by decide) ?_
  refine lv_iload_n hx hb dX6_tapeNumber_3 rfl (lv_at hl 0 rfl) ?_
  refine lv_if_lt (tgt := 46) hx hb dX6_tapeNumber_4 (by decide) (fun c15 => absurd c15 (by decide +kernel)) (fun c15 => ?_)
  refine lv_aload_n hx hb dX6_tapeNumber_7 rfl (lv_at hl 1 rfl) ?_
  refine va_get (D := (dC, dI)) (ci := 6) (v := .int 10) (C := RX6) (T := TX6) (N := 12) hx hb hts inX6 hown hK hP 0 rfl rfl 1 (by decide) (hts _ pq350) (fun _ h9 => h9) rfl dX6_tapeNumber_8 ?_
  refine lv_sipush (v := 400) hx hb dX6_tapeNumber_11 (by decide +kernel) ?_
  refine lv_icmp_ge (tgt := 46) hx hb dX6_tapeNumber_14 (by decide) (fun c16 => absurd c16 (by decide +kernel)) (fun c16 => ?_)
  refine lv_aload_n hx hb dX6_tapeNumber_17 rfl (lv_at hl 1 rfl) ?_
  refine va_get (D := (dC, dI)) (ci := 6) (v := .ref tp) (C := RX6) (T := TX6) (N := 12) hx hb hts inX6 hown hK hP 0 rfl rfl 0 (by decide) (hts _ pq349) (fun _ h9 => h9) rfl dX6_tapeNumber_18 ?_
  refine lv_aload_n hx hb dX6_tapeNumber_21 rfl (lv_at hl 1 rfl) ?_
  refine va_get (D := (dC, dI)) (ci := 6) (v := .int 10) (C := RX6) (T := TX6) (N := 12) hx hb hts inX6 hown hK hP 0 rfl rfl 1 (by decide) (hts _ pq350) (fun _ h9 => h9) rfl dX6_tapeNumber_22 ?_
  refine lv_iload_n hx hb dX6_tapeNumber_25 rfl (lv_at hl 2 rfl) ?_
  refine lv_iload_n hx hb dX6_tapeNumber_26 rfl (lv_at hl 0 rfl) ?_
  refine lv_ishr hx hb dX6_tapeNumber_27 ?_
  refine lv_topi (fun z17 ez17 => ?_)
  refine lv_i2b hx hb dX6_tapeNumber_28 rfl ?_
  refine lv_topi (fun z19 ez19 => ?_)
  refine va_bast hx hb hK hP hD hS 1 0 rfl rfl (in_d (by decide +kernel)) dX6_tapeNumber_29 (fun H locs hP hD hS => ?_)
  obtain ⟨f20, hP, hD⟩ : ∃ f20 : Nat → Int32, va_P (dC, dI) vwCl [(h0, .inr (6, [.ref tp, .int 10, .ref nw, .ref dr, .ref rd, .ref sc, .ref sk, .ref fl, .ref ps, .int 0, .int 0, .ref sh])), (tp, .inl (kB, 400, .inl f20))] H ∧ va_D A [(h0, .inr (6, [.ref tp, .int 10, .ref nw, .ref dr, .ref rd, .ref sc, .ref sk, .ref fl, .ref ps, .int 0, .int 0, .ref sh])), (tp, .inl (kB, 400, .inl f20))] := ⟨_, hP, hD⟩
  refine lv_aload_n hx hb dX6_tapeNumber_30 rfl (lv_at hl 1 rfl) ?_
  refine lv_dup hx hb dX6_tapeNumber_31 rfl ?_
  refine va_get (D := (dC, dI)) (ci := 6) (v := .int 10) (C := RX6) (T := TX6) (N := 12) hx hb hts inX6 hown hK hP 0 rfl rfl 1 (by decide) (hts _ pq350) (fun _ h9 => h9) rfl dX6_tapeNumber_32 ?_
  refine lv_iconst (v := 1) hx hb dX6_tapeNumber_35 (by decide +kernel) ?_
  refine lv_iadd hx hb dX6_tapeNumber_36 ?_
  refine lv_topi (fun z21 ez21 => ?_)
  obtain rfl : z21 = 11 := ez21.trans (by decide +kernel)
  refine va_put (D := (dC, dI)) (ci := 6) (v := .int 11) (ty := tyX6 1) (C := RX6) (T := TX6) (N := 12) hx hb hts inX6 tyX6 tyX6_ok nmX6 hown hK hP hD hS 0 rfl rfl 1 (by decide) (hts _ pq350) (fun _ h9 => h9) rfl (by decide +kernel) rfl rfl (Nat.le_of_ble_eq_true rfl) dX6_tapeNumber_37 (fun H locs hP hD hS => ?_)
  have hP : va_P (dC, dI) vwCl [(h0, .inr (6, [.ref tp, .int 11, .ref nw, .ref dr, .ref rd, .ref sc, .ref sk, .ref fl, .ref ps, .int 0, .int 0, .ref sh])), (tp, .inl (kB, 400, .inl f20))] H := hP
  have hD : va_D A [(h0, .inr (6, [.ref tp, .int 11, .ref nw, .ref dr, .ref rd, .ref sc, .ref sk, .ref fl, .ref ps, .int 0, .int 0, .ref sh])), (tp, .inl (kB, 400, .inl f20))] := hD
  refine lv_iinc (v := 0) (lv' := [(2, .int 0), (0, .ref h0), (1, .int p0)]) hx hb dX6_tapeNumber_40 hl (k := 0) rfl (by decide +kernel) (by decide) rfl (fun ls hl => ?_)
  refine lv_goto (tgt := 3) hx hb dX6_tapeNumber_43 (by decide) ?_
  refine lv_iload_n hx hb dX6_tapeNumber_3 rfl (lv_at hl 0 rfl) ?_
  refine lv_if_lt (tgt := 46) hx hb dX6_tapeNumber_4 (by decide) (fun c22 => absurd c22 (by decide +kernel)) (fun c22 => ?_)
  refine lv_aload_n hx hb dX6_tapeNumber_7 rfl (lv_at hl 1 rfl) ?_
  refine va_get (D := (dC, dI)) (ci := 6) (v := .int 11) (C := RX6) (T := TX6) (N := 12) hx hb hts inX6 hown hK hP 0 rfl rfl 1 (by decide) (hts _ pq350) (fun _ h9 => h9) rfl dX6_tapeNumber_8 ?_
  refine lv_sipush (v := 400) hx hb dX6_tapeNumber_11 (by decide +kernel) ?_
  refine lv_icmp_ge (tgt := 46) hx hb dX6_tapeNumber_14 (by decide) (fun c23 => absurd c23 (by decide +kernel)) (fun c23 => ?_)
  refine lv_aload_n hx hb dX6_tapeNumber_17 rfl (lv_at hl 1 rfl) ?_
  refine va_get (D := (dC, dI)) (ci := 6) (v := .ref tp) (C := RX6) (T := TX6) (N := 12) hx hb hts inX6 hown hK hP 0 rfl rfl 0 (by decide) (hts _ pq349) (fun _ h9 => h9) rfl dX6_tapeNumber_18 ?_
  refine lv_aload_n hx hb dX6_tapeNumber_21 rfl (lv_at hl 1 rfl) ?_
  refine va_get (D := (dC, dI)) (ci := 6) (v := .int 11) (C := RX6) (T := TX6) (N := 12) hx hb hts inX6 hown hK hP 0 rfl rfl 1 (by decide) (hts _ pq350) (fun _ h9 => h9) rfl dX6_tapeNumber_22 ?_
  refine lv_iload_n hx hb dX6_tapeNumber_25 rfl (lv_at hl 2 rfl) ?_
  refine lv_iload_n hx hb dX6_tapeNumber_26 rfl (lv_at hl 0 rfl) ?_
  refine lv_ishr hx hb dX6_tapeNumber_27 ?_
  refine lv_topi (fun z24 ez24 => ?_)
  refine lv_i2b hx hb dX6_tapeNumber_28 rfl ?_
  refine lv_topi (fun z26 ez26 => ?_)
  refine va_bast hx hb hK hP hD hS 1 0 rfl rfl (in_d (by decide +kernel)) dX6_tapeNumber_29 (fun H locs hP hD hS => ?_)
  obtain ⟨f27, hP, hD⟩ : ∃ f27 : Nat → Int32, va_P (dC, dI) vwCl [(h0, .inr (6, [.ref tp, .int 11, .ref nw, .ref dr, .ref rd, .ref sc, .ref sk, .ref fl, .ref ps, .int 0, .int 0, .ref sh])), (tp, .inl (kB, 400, .inl f27))] H ∧ va_D A [(h0, .inr (6, [.ref tp, .int 11, .ref nw, .ref dr, .ref rd, .ref sc, .ref sk, .ref fl, .ref ps, .int 0, .int 0, .ref sh])), (tp, .inl (kB, 400, .inl f27))] := ⟨_, hP, hD⟩
  refine lv_aload_n hx hb dX6_tapeNumber_30 rfl (lv_at hl 1 rfl) ?_
  refine lv_dup hx hb dX6_tapeNumber_31 rfl ?_
  refine va_get (D := (dC, dI)) (ci := 6) (v := .int 11) (C := RX6) (T := TX6) (N := 12) hx hb hts inX6 hown hK hP 0 rfl rfl 1 (by decide) (hts _ pq350) (fun _ h9 => h9) rfl dX6_tapeNumber_32 ?_
  refine lv_iconst (v := 1) hx hb dX6_tapeNumber_35 (by decide +kernel) ?_
  refine lv_iadd hx hb dX6_tapeNumber_36 ?_
  refine lv_topi (fun z28 ez28 => ?_)
  obtain rfl : z28 = 12 := ez28.trans (by decide +kernel)
  refine va_put (D := (dC, dI)) (ci := 6) (v := .int 12) (ty := tyX6 1) (C := RX6) (T := TX6) (N := 12) hx hb hts inX6 tyX6 tyX6_ok nmX6 hown hK hP hD hS 0 rfl rfl 1 (by decide) (hts _ pq350) (fun _ h9 => h9) rfl (by decide +kernel) rfl rfl (Nat.le_of_ble_eq_true rfl) dX6_tapeNumber_37 (fun H locs hP hD hS => ?_)
  have hP : va_P (dC, dI) vwCl [(h0, .inr (6, [.ref tp, .int 12, .ref nw, .ref dr, .ref rd, .ref sc, .ref sk, .ref fl, .ref ps, .int 0, .int 0, .ref sh])), (tp, .inl (kB, 400, .inl f27))] H := hP
  have hD : va_D A [(h0, .inr (6, [.ref tp, .int 12, .ref nw, .ref dr, .ref rd, .ref sc, .ref sk, .ref fl, .ref ps, .int 0, .int 0, .ref sh])), (tp, .inl (kB, 400, .inl f27))] := hD
  refine lv_iinc (v := (-8)) (lv' := [(2, .int (-8)), (0, .ref h0), (1, .int p0)]) hx hb dX6_tapeNumber_40 hl (k := 0) rfl (by decide +kernel) (by decide) rfl (fun ls hl => ?_)
  refine lv_goto (tgt := 3) hx hb dX6_tapeNumber_43 (by decide) ?_
  refine lv_iload_n hx hb dX6_tapeNumber_3 rfl (lv_at hl 0 rfl) ?_
  refine lv_if_lt (tgt := 46) hx hb dX6_tapeNumber_4 (by decide) (fun c29 => ?_) (fun c29 => absurd (by decide +kernel) c29)
  have hP9 := hP.sub (ws' := [(h0, .inr (6, [.ref tp, .int 12, .ref nw, .ref dr, .ref rd, .ref sc, .ref sk, .ref fl, .ref ps, .int 0, .int 0, .ref sh])), (tp, .inl (kB, 400, .inl f27))]) [0, 1] rfl
  have hD9 := hD.sub (ws' := [(h0, .inr (6, [.ref tp, .int 12, .ref nw, .ref dr, .ref rd, .ref sc, .ref sk, .ref fl, .ref ps, .int 0, .int 0, .ref sh])), (tp, .inl (kB, 400, .inl f27))]) [0, 1] (by decide) rfl
  have hK9 := hK.sub (tys' := [(kB, .byte)]) [0] rfl
  exact W.vret hx hb hr (fun t ht hW => ⟨⟨(), rfl, trivial, ⟨f27, by rw [ht]; exact hP9, va_K.moved hW.alike hK9, hD9⟩⟩, hS.F ht⟩) hS.2.2 dX6_tapeNumber_46

set_option maxHeartbeats 4000000 in
set_option maxRecDepth 100000 in
theorem c_X6_tapeNumber_12 (l : Launch) (dC : Nat → ClassId) (dI : Nat → Nat → Nat) (h0 tp nw dr rd sc sk fl ps sh : Nat) (kB : ClassId) (sz : Nat) (f : Nat → Int32) (p0 : Int32) : Met l yX6_tapeNumber (.code yX6_tapeNumber cX6_tapeNumber 3 none :: pw) ({ frames := 0, cells := 0, slots := 0, locals := 0 }) (pc (dC, dI) [.ref h0, .int p0] sz [(h0, .inr (6, [.ref tp, .int 12, .ref nw, .ref dr, .ref rd, .ref sc, .ref sk, .ref fl, .ref ps, .int 0, .int 0, .ref sh])), (tp, .inl (kB, 400, .inl f))] [(kB, .byte)]) (va_Qv (fun (_ : Unit) => True) (fun _ t => ∃ (g : Nat → Int32), wB (dC, dI) [(h0, .inr (6, [.ref tp, .int 16, .ref nw, .ref dr, .ref rd, .ref sc, .ref sk, .ref fl, .ref ps, .int 0, .int 0, .ref sh])), (tp, .inl (kB, 400, .inl g))] [(kB, .byte)] (va_A [(h0, .inr (6, [.ref tp, .int 12, .ref nw, .ref dr, .ref rd, .ref sc, .ref sk, .ref fl, .ref ps, .int 0, .int 0, .ref sh])), (tp, .inl (kB, 400, .inl f))] sz) t) (va_A [(h0, .inr (6, [.ref tp, .int 12, .ref nw, .ref dr, .ref rd, .ref sc, .ref sk, .ref fl, .ref ps, .int 0, .int 0, .ref sh])), (tp, .inl (kB, 400, .inl f))] sz)) 0 0 (va_A [(h0, .inr (6, [.ref tp, .int 12, .ref nw, .ref dr, .ref rd, .ref sc, .ref sk, .ref fl, .ref ps, .int 0, .int 0, .ref sh])), (tp, .inl (kB, 400, .inl f))] sz) := by
  refine Met.ofW (cc := cX6_tapeNumber) (maxL := 3) (ret := none) (by decide +kernel) rfl ?_
  intro p e s m args below meth c s₁ B hml hv
  obtain ⟨rfl, hsz, hP, hK, hD0, hN⟩ := hv
  have hx := B.exec
  have hb := B.bytes
  have hr := B.returns
  have hts := fun w (h : w ∈ pw) => atoms_spec (ws := Cond.code yX6_tapeNumber cX6_tapeNumber 3 none :: pw) B.pre w (List.mem_cons_of_mem _ h)
  have hown : s.vm.findClass RX6 = some m.cls := findClass_of_methodNamed B.named
  have hlocks := B.notSynchronized
  subst hsz
  have hD := hD0.self (sz := s.heap.size)
  generalize hAe : va_A [(h0, .inr (6, [.ref tp, .int 12, .ref nw, .ref dr, .ref rd, .ref sc, .ref sk, .ref fl, .ref ps, .int 0, .int 0, .ref sh])), (tp, .inl (kB, 400, .inl f))] s.heap.size = A at hD ⊢
  have hA : ∀ q : Nat, s.heap.size ≤ q → A q := fun q h => by rw [← hAe]; exact Or.inr h
  obtain ⟨H, hHe⟩ : ∃ H : Heap, H = s.heap := ⟨_, rfl⟩
  have hS : va_S A s.heap H [] := by rw [hHe]; exact va_S.rf
  rw [← hHe] at hP
  have hl := lv_entry ([.ref h0, .int p0]) (n := 3) (Nat.le_of_ble_eq_true rfl)
  rw [lg_entry_eq]
  generalize (lg_sl ([.ref h0, .int p0]) ++ List.replicate (3 - (lg_sl ([.ref h0, .int p0])).length) Slot.unset).toArray = ls at hl ⊢
  have hl : lv_has ls 3 [(0, .ref h0), (1, .int p0)] := hl
  rw [← hHe]
  refine lv_bipush (v := 24) hx hb dX6_tapeNumber_0 (by decide +kernel) ?_
  refine lv_istore_n (lv' := [(2, .int 24), (0, .ref h0), (1, .int p0)]) hx hb dX6_tapeNumber_2 rfl hl (by decide) rfl (fun ls hl => ?_)
  refine lv_iload_n hx hb dX6_tapeNumber_3 rfl (lv_at hl 0 rfl) ?_
  refine lv_if_lt (tgt := 46) hx hb dX6_tapeNumber_4 (by decide) (fun c1 => absurd c1 (by decide +kernel)) (fun c1 => ?_)
  refine lv_aload_n hx hb dX6_tapeNumber_7 rfl (lv_at hl 1 rfl) ?_
  refine va_get (D := (dC, dI)) (ci := 6) (v := .int 12) (C := RX6) (T := TX6) (N := 12) hx hb hts inX6 hown hK hP 0 rfl rfl 1 (by decide) (hts _ pq350) (fun _ h9 => h9) rfl dX6_tapeNumber_8 ?_
  refine lv_sipush (v := 400) hx hb dX6_tapeNumber_11 (by decide +kernel) ?_
  refine lv_icmp_ge (tgt := 46) hx hb dX6_tapeNumber_14 (by decide) (fun c2 => absurd c2 (by decide +kernel)) (fun c2 => ?_)
  refine lv_aload_n hx hb dX6_tapeNumber_17 rfl (lv_at hl 1 rfl) ?_
  refine va_get (D := (dC, dI)) (ci := 6) (v := .ref tp) (C := RX6) (T := TX6) (N := 12) hx hb hts inX6 hown hK hP 0 rfl rfl 0 (by decide) (hts _ pq349) (fun _ h9 => h9) rfl dX6_tapeNumber_18 ?_
  refine lv_aload_n hx hb dX6_tapeNumber_21 rfl (lv_at hl 1 rfl) ?_
  refine va_get (D := (dC, dI)) (ci := 6) (v := .int 12) (C := RX6) (T := TX6) (N := 12) hx hb hts inX6 hown hK hP 0 rfl rfl 1 (by decide) (hts _ pq350) (fun _ h9 => h9) rfl dX6_tapeNumber_22 ?_
  refine lv_iload_n hx hb dX6_tapeNumber_25 rfl (lv_at hl 2 rfl) ?_
  refine lv_iload_n hx hb dX6_tapeNumber_26 rfl (lv_at hl 0 rfl) ?_
  refine lv_ishr hx hb dX6_tapeNumber_27 ?_
  refine lv_topi (fun z3 ez3 => ?_)
  refine lv_i2b hx hb dX6_tapeNumber_28 rfl ?_
  refine lv_topi (fun z5 ez5 => ?_)
  refine va_bast hx hb hK hP hD hS 1 0 rfl rfl (in_d (by decide +kernel)) dX6_tapeNumber_29 (fun H locs hP hD hS => ?_)
  obtain ⟨f6, hP, hD⟩ : ∃ f6 : Nat → Int32, va_P (dC, dI) vwCl [(h0, .inr (6, [.ref tp, .int 12, .ref nw, .ref dr, .ref rd, .ref sc, .ref sk, .ref fl, .ref ps, .int 0, .int 0, .ref sh])), (tp, .inl (kB, 400, .inl f6))] H ∧ va_D A [(h0, .inr (6, [.ref tp, .int 12, .ref nw, .ref dr, .ref rd, .ref sc, .ref sk, .ref fl, .ref ps, .int 0, .int 0, .ref sh])), (tp, .inl (kB, 400, .inl f6))] := ⟨_, hP, hD⟩
  refine lv_aload_n hx hb dX6_tapeNumber_30 rfl (lv_at hl 1 rfl) ?_
  refine lv_dup hx hb dX6_tapeNumber_31 rfl ?_
  refine va_get (D := (dC, dI)) (ci := 6) (v := .int 12) (C := RX6) (T := TX6) (N := 12) hx hb hts inX6 hown hK hP 0 rfl rfl 1 (by decide) (hts _ pq350) (fun _ h9 => h9) rfl dX6_tapeNumber_32 ?_
  refine lv_iconst (v := 1) hx hb dX6_tapeNumber_35 (by decide +kernel) ?_
  refine lv_iadd hx hb dX6_tapeNumber_36 ?_
  refine lv_topi (fun z7 ez7 => ?_)
  obtain rfl : z7 = 13 := ez7.trans (by decide +kernel)
  refine va_put (D := (dC, dI)) (ci := 6) (v := .int 13) (ty := tyX6 1) (C := RX6) (T := TX6) (N := 12) hx hb hts inX6 tyX6 tyX6_ok nmX6 hown hK hP hD hS 0 rfl rfl 1 (by decide) (hts _ pq350) (fun _ h9 => h9) rfl (by decide +kernel) rfl rfl (Nat.le_of_ble_eq_true rfl) dX6_tapeNumber_37 (fun H locs hP hD hS => ?_)
  have hP : va_P (dC, dI) vwCl [(h0, .inr (6, [.ref tp, .int 13, .ref nw, .ref dr, .ref rd, .ref sc, .ref sk, .ref fl, .ref ps, .int 0, .int 0, .ref sh])), (tp, .inl (kB, 400, .inl f6))] H := hP
  have hD : va_D A [(h0, .inr (6, [.ref tp, .int 13, .ref nw, .ref dr, .ref rd, .ref sc, .ref sk, .ref fl, .ref ps, .int 0, .int 0, .ref sh])), (tp, .inl (kB, 400, .inl f6))] := hD
  refine lv_iinc (v := 16) (lv' := [(2, .int 16), (0, .ref h0), (1, .int p0)]) hx hb dX6_tapeNumber_40 hl (k := 0) rfl (by decide +kernel) (by decide) rfl (fun ls hl => ?_)
  refine lv_goto (tgt := 3) hx hb dX6_tapeNumber_43 (by decide) ?_
  refine lv_iload_n hx hb dX6_tapeNumber_3 rfl (lv_at hl 0 rfl) ?_
  refine lv_if_lt (tgt := 46) hx hb dX6_tapeNumber_4 (by decide) (fun c8 => absurd c8 (by decide +kernel)) (fun c8 => ?_)
  refine lv_aload_n hx hb dX6_tapeNumber_7 rfl (lv_at hl 1 rfl) ?_
  refine va_get (D := (dC, dI)) (ci := 6) (v := .int 13) (C := RX6) (T := TX6) (N := 12) hx hb hts inX6 hown hK hP 0 rfl rfl 1 (by decide) (hts _ pq350) (fun _ h9 => h9) rfl dX6_tapeNumber_8 ?_
  refine lv_sipush (v := 400) hx hb dX6_tapeNumber_11 (by decide +kernel) ?_
  refine lv_icmp_ge (tgt := 46) hx hb dX6_tapeNumber_14 (by decide) (fun c9 => absurd c9 (by decide +kernel)) (fun c9 => ?_)
  refine lv_aload_n hx hb dX6_tapeNumber_17 rfl (lv_at hl 1 rfl) ?_
  refine va_get (D := (dC, dI)) (ci := 6) (v := .ref tp) (C := RX6) (T := TX6) (N := 12) hx hb hts inX6 hown hK hP 0 rfl rfl 0 (by decide) (hts _ pq349) (fun _ h9 => h9) rfl dX6_tapeNumber_18 ?_
  refine lv_aload_n hx hb dX6_tapeNumber_21 rfl (lv_at hl 1 rfl) ?_
  refine va_get (D := (dC, dI)) (ci := 6) (v := .int 13) (C := RX6) (T := TX6) (N := 12) hx hb hts inX6 hown hK hP 0 rfl rfl 1 (by decide) (hts _ pq350) (fun _ h9 => h9) rfl dX6_tapeNumber_22 ?_
  refine lv_iload_n hx hb dX6_tapeNumber_25 rfl (lv_at hl 2 rfl) ?_
  refine lv_iload_n hx hb dX6_tapeNumber_26 rfl (lv_at hl 0 rfl) ?_
  refine lv_ishr hx hb dX6_tapeNumber_27 ?_
  refine lv_topi (fun z10 ez10 => ?_)
  refine lv_i2b hx hb dX6_tapeNumber_28 rfl ?_
  refine lv_topi (fun z12 ez12 => ?_)
  refine va_bast hx hb hK hP hD hS 1 0 rfl rfl (in_d (by decide +kernel)) dX6_tapeNumber_29 (fun H locs hP hD hS => ?_)
  obtain ⟨f13, hP, hD⟩ : ∃ f13 : Nat → Int32, va_P (dC, dI) vwCl [(h0, .inr (6, [.ref tp, .int 13, .ref nw, .ref dr, .ref rd, .ref sc, .ref sk, .ref fl, .ref ps, .int 0, .int 0, .ref sh])), (tp, .inl (kB, 400, .inl f13))] H ∧ va_D A [(h0, .inr (6, [.ref tp, .int 13, .ref nw, .ref dr, .ref rd, .ref sc, .ref sk, .ref fl, .ref ps, .int 0, .int 0, .ref sh])), (tp, .inl (kB, 400, .inl f13))] := ⟨_, hP, hD⟩
  refine lv_aload_n hx hb dX6_tapeNumber_30 rfl (lv_at hl 1 rfl) ?_
  refine lv_dup hx hb dX6_tapeNumber_31 rfl ?_
  refine va_get (D := (dC, dI)) (ci := 6) (v := .int 13) (C := RX6) (T := TX6) (N := 12) hx hb hts inX6 hown hK hP 0 rfl rfl 1 (by decide) (hts _ pq350) (fun _ h9 => h9) rfl dX6_tapeNumber_32 ?_
  refine lv_iconst (v := 1) hx hb dX6_tapeNumber_35 (by decide +kernel) ?_
  refine lv_iadd hx hb dX6_tapeNumber_36 ?_
  refine lv_topi (fun z14 ez14 => ?_)
  obtain rfl : z14 = 14 := ez14.trans (by decide +kernel)
  refine va_put (D := (dC, dI)) (ci := 6) (v := .int 14) (ty := tyX6 1) (C := RX6) (T := TX6) (N := 12) hx hb hts inX6 tyX6 tyX6_ok nmX6 hown hK hP hD hS 0 rfl rfl 1 (by decide) (hts _ pq350) (fun _ h9 => h9) rfl (by decide +kernel) rfl rfl (Nat.le_of_ble_eq_true rfl) dX6_tapeNumber_37 (fun H locs hP hD hS => ?_)
  have hP : va_P (dC, dI) vwCl [(h0, .inr (6, [.ref tp, .int 14, .ref nw, .ref dr, .ref rd, .ref sc, .ref sk, .ref fl, .ref ps, .int 0, .int 0, .ref sh])), (tp, .inl (kB, 400, .inl f13))] H := hP
  have hD : va_D A [(h0, .inr (6, [.ref tp, .int 14, .ref nw, .ref dr, .ref rd, .ref sc, .ref sk, .ref fl, .ref ps, .int 0, .int 0, .ref sh])), (tp, .inl (kB, 400, .inl f13))] := hD
  refine lv_iinc (v := 8) (lv' := [(2, .int 8), (0, .ref h0), (1, .int p0)]) hx hb dX6_tapeNumber_40 hl (k := 0) rfl (by decide +kernel) (by decide) rfl (fun ls hl => ?_)
  refine lv_goto (tgt := 3) hx hb dX6_tapeNumber_43 (by decide) ?_
  refine lv_iload_n hx hb dX6_tapeNumber_3 rfl (lv_at hl 0 rfl) ?_
  refine lv_if_lt (tgt := 46) hx hb dX6_tapeNumber_4 (by decide) (fun c15 => absurd c15 (by decide +kernel)) (fun c15 => ?_)
  refine lv_aload_n hx hb dX6_tapeNumber_7 rfl (lv_at hl 1 rfl) ?_
  refine va_get (D := (dC, dI)) (ci := 6) (v := .int 14) (C := RX6) (T := TX6) (N := 12) hx hb hts inX6 hown hK hP 0 rfl rfl 1 (by decide) (hts _ pq350) (fun _ h9 => h9) rfl dX6_tapeNumber_8 ?_
  refine lv_sipush (v := 400) hx hb dX6_tapeNumber_11 (by decide +kernel) ?_
  refine lv_icmp_ge (tgt := 46) hx hb dX6_tapeNumber_14 (by decide) (fun c16 => absurd c16 (by decide +kernel)) (fun c16 => ?_)
  refine lv_aload_n hx hb dX6_tapeNumber_17 rfl (lv_at hl 1 rfl) ?_
  refine va_get (D := (dC, dI)) (ci := 6) (v := .ref tp) (C := RX6) (T := TX6) (N := 12) hx hb hts inX6 hown hK hP 0 rfl rfl 0 (by decide) (hts _ pq349) (fun _ h9 => h9) rfl dX6_tapeNumber_18 ?_
  refine lv_aload_n hx hb dX6_tapeNumber_21 rfl (lv_at hl 1 rfl) ?_
  refine va_get (D := (dC, dI)) (ci := 6) (v := .int 14) (C := RX6) (T := TX6) (N := 12) hx hb hts inX6 hown hK hP 0 rfl rfl 1 (by decide) (hts _ pq350) (fun _ h9 => h9) rfl dX6_tapeNumber_22 ?_
  refine lv_iload_n hx hb dX6_tapeNumber_25 rfl (lv_at hl 2 rfl) ?_
  refine lv_iload_n hx hb dX6_tapeNumber_26 rfl (lv_at hl 0 rfl) ?_
  refine lv_ishr hx hb dX6_tapeNumber_27 ?_
  refine lv_topi (fun z17 ez17 => ?_)
  refine lv_i2b hx hb dX6_tapeNumber_28 rfl ?_
  refine lv_topi (fun z19 ez19 => ?_)
  refine va_bast hx hb hK hP hD hS 1 0 rfl rfl (in_d (by decide +kernel)) dX6_tapeNumber_29 (fun H locs hP hD hS => ?_)
  obtain ⟨f20, hP, hD⟩ : ∃ f20 : Nat → Int32, va_P (dC, dI) vwCl [(h0, .inr (6, [.ref tp, .int 14, .ref nw, .ref dr, .ref rd, .ref sc, .ref sk, .ref fl, .ref ps, .int 0, .int 0, .ref sh])), (tp, .inl (kB, 400, .inl f20))] H ∧ va_D A [(h0, .inr (6, [.ref tp, .int 14, .ref nw, .ref dr, .ref rd, .ref sc, .ref sk, .ref fl, .ref ps, .int 0, .int 0, .ref sh])), (tp, .inl (kB, 400, .inl f20))] := ⟨_, hP, hD⟩
  refine lv_aload_n hx hb dX6_tapeNumber_30 rfl (lv_at hl 1 rfl) ?_
  refine lv_dup hx hb dX6_tapeNumber_31 rfl ?_
  refine va_get (D := (dC, dI)) (ci := 6) (v := .int 14) (C := RX6) (T := TX6) (N := 12) hx hb hts inX6 hown hK hP 0 rfl rfl 1 (by decide) (hts _ pq350) (fun _ h9 => h9) rfl dX6_tapeNumber_32 ?_
  refine lv_iconst (v := 1) hx hb dX6_tapeNumber_35 (by decide +kernel) ?_
  refine lv_iadd hx hb dX6_tapeNumber_36 ?_
  refine lv_topi (fun z21 ez21 => ?_)
  obtain rfl : z21 = 15 := ez21.trans (by decide +kernel)
  refine va_put (D := (dC, dI)) (ci := 6) (v := .int 15) (ty := tyX6 1) (C := RX6) (T := TX6) (N := 12) hx hb hts inX6 tyX6 tyX6_ok nmX6 hown hK hP hD hS 0 rfl rfl 1 (by decide) (hts _ pq350) (fun _ h9 => h9) rfl (by decide +kernel) rfl rfl (Nat.le_of_ble_eq_true rfl) dX6_tapeNumber_37 (fun H locs hP hD hS => ?_)
  have hP : va_P (dC, dI) vwCl [(h0, .inr (6, [.ref tp, .int 15, .ref nw, .ref dr, .ref rd, .ref sc, .ref sk, .ref fl, .ref ps, .int 0, .int 0, .ref sh])), (tp, .inl (kB, 400, .inl f20))] H := hP
  have hD : va_D A [(h0, .inr (6, [.ref tp, .int 15, .ref nw, .ref dr, .ref rd, .ref sc, .ref sk, .ref fl, .ref ps, .int 0, .int 0, .ref sh])), (tp, .inl (kB, 400, .inl f20))] := hD
  refine lv_iinc (v := 0) (lv' := [(2, .int 0), (0, .ref h0), (1, .int p0)]) hx hb dX6_tapeNumber_40 hl (k := 0) rfl (by decide +kernel) (by decide) rfl (fun ls hl => ?_)
  refine lv_goto (tgt := 3) hx hb dX6_tapeNumber_43 (by decide) ?_
  refine lv_iload_n hx hb dX6_tapeNumber_3 rfl (lv_at hl 0 rfl) ?_
  refine lv_if_lt (tgt := 46) hx hb dX6_tapeNumber_4 (by decide) (fun c22 => absurd c22 (by decide +kernel)) (fun c22 => ?_)
  refine lv_aload_n hx hb dX6_tapeNumber_7 rfl (lv_at hl 1 rfl) ?_
  refine va_get (D := (dC, dI)) (ci := 6) (v := .int 15) (C := RX6) (T := TX6) (N := 12) hx hb hts inX6 hown hK hP 0 rfl rfl 1 (by decide) (hts _ pq350) (fun _ h9 => h9) rfl dX6_tapeNumber_8 ?_
  refine lv_sipush (v := 400) hx hb dX6_tapeNumber_11 (by decide +kernel) ?_
  refine lv_icmp_ge (tgt := 46) hx hb dX6_tapeNumber_14 (by decide) (fun c23 => absurd c23 (by decide +kernel)) (fun c23 => ?_)
  refine lv_aload_n hx hb dX6_tapeNumber_17 rfl (lv_at hl 1 rfl) ?_
  refine va_get (D := (dC, dI)) (ci := 6) (v := .ref tp) (C := RX6) (T := TX6) (N := 12) hx hb hts inX6 hown hK hP 0 rfl rfl 0 (by decide) (hts _ pq349) (fun _ h9 => h9) rfl dX6_tapeNumber_18 ?_
  refine lv_aload_n hx hb dX6_tapeNumber_21 rfl (lv_at hl 1 rfl) ?_
  refine va_get (D := (dC, dI)) (ci := 6) (v := .int 15) (C := RX6) (T := TX6) (N := 12) hx hb hts inX6 hown hK hP 0 rfl rfl 1 (by decide) (hts _ pq350) (fun _ h9 => h9) rfl dX6_tapeNumber_22 ?_
  refine lv_iload_n hx hb dX6_tapeNumber_25 rfl (lv_at hl 2 rfl) ?_
  refine lv_iload_n hx hb dX6_tapeNumber_26 rfl (lv_at hl 0 rfl) ?_
  refine lv_ishr hx hb dX6_tapeNumber_27 ?_
  refine lv_topi (fun z24 ez24 => ?_)
  refine lv_i2b hx hb dX6_tapeNumber_28 rfl ?_
  refine lv_topi (fun z26 ez26 => ?_)
  refine va_bast hx hb hK hP hD hS 1 0 rfl rfl (in_d (by decide +kernel)) dX6_tapeNumber_29 (fun H locs hP hD hS => ?_)
  obtain ⟨f27, hP, hD⟩ : ∃ f27 : Nat → Int32, va_P (dC, dI) vwCl [(h0, .inr (6, [.ref tp, .int 15, .ref nw, .ref dr, .ref rd, .ref sc, .ref sk, .ref fl, .ref ps, .int 0, .int 0, .ref sh])), (tp, .inl (kB, 400, .inl f27))] H ∧ va_D A [(h0, .inr (6, [.ref tp, .int 15, .ref nw, .ref dr, .ref rd, .ref sc, .ref sk, .ref fl, .ref ps, .int 0, .int 0, .ref sh])), (tp, .inl (kB, 400, .inl f27))] := ⟨_, hP, hD⟩
  refine lv_aload_n hx hb dX6_tapeNumber_30 rfl (lv_at hl 1 rfl) ?_
  refine lv_dup hx hb dX6_tapeNumber_31 rfl ?_
  refine va_get (D := (dC, dI)) (ci := 6) (v := .int 15) (C := RX6) (T := TX6) (N := 12) hx hb hts inX6 hown hK hP 0 rfl rfl 1 (by decide) (hts _ pq350) (fun _ h9 => h9) rfl dX6_tapeNumber_32 ?_
  refine lv_iconst (v := 1) hx hb dX6_tapeNumber_35 (by decide +kernel) ?_
  refine lv_iadd hx hb dX6_tapeNumber_36 ?_
  refine lv_topi (fun z28 ez28 => ?_)
  obtain rfl : z28 = 16 := ez28.trans (by decide +kernel)
  refine va_put (D := (dC, dI)) (ci := 6) (v := .int 16) (ty := tyX6 1) (C := RX6) (T := TX6) (N := 12) hx hb hts inX6 tyX6 tyX6_ok nmX6 hown hK hP hD hS 0 rfl rfl 1 (by decide) (hts _ pq350) (fun _ h9 => h9) rfl (by decide +kernel) rfl rfl (Nat.le_of_ble_eq_true rfl) dX6_tapeNumber_37 (fun H locs hP hD hS => ?_)
  have hP : va_P (dC, dI) vwCl [(h0, .inr (6, [.ref tp, .int 16, .ref nw, .ref dr, .ref rd, .ref sc, .ref sk, .ref fl, .ref ps, .int 0, .int 0, .ref sh])), (tp, .inl (kB, 400, .inl f27))] H := hP
  have hD : va_D A [(h0, .inr (6, [.ref tp, .int 16, .ref nw, .ref dr, .ref rd, .ref sc, .ref sk, .ref fl, .ref ps, .int 0, .int 0, .ref sh])), (tp, .inl (kB, 400, .inl f27))] := hD
  refine lv_iinc (v := (-8)) (lv' := [(2, .int (-8)), (0, .ref h0), (1, .int p0)]) hx hb dX6_tapeNumber_40 hl (k := 0) rfl (by decide +kernel) (by decide) rfl (fun ls hl => ?_)
  refine lv_goto (tgt := 3) hx hb dX6_tapeNumber_43 (by decide) ?_
  refine lv_iload_n hx hb dX6_tapeNumber_3 rfl (lv_at hl 0 rfl) ?_
  refine lv_if_lt (tgt := 46) hx hb dX6_tapeNumber_4 (by decide) (fun c29 => ?_) (fun c29 => absurd (by decide +kernel) c29)
  have hP9 := hP.sub (ws' := [(h0, .inr (6, [.ref tp, .int 16, .ref nw, .ref dr, .ref rd, .ref sc, .ref sk, .ref fl, .ref ps, .int 0, .int 0, .ref sh])), (tp, .inl (kB, 400, .inl f27))]) [0, 1] rfl
  have hD9 := hD.sub (ws' := [(h0, .inr (6, [.ref tp, .int 16, .ref nw, .ref dr, .ref rd, .ref sc, .ref sk, .ref fl, .ref ps, .int 0, .int 0, .ref sh])), (tp, .inl (kB, 400, .inl f27))]) [0, 1] (by decide) rfl
  have hK9 := hK.sub (tys' := [(kB, .byte)]) [0] rfl
  exact W.vret hx hb hr (fun t ht hW => ⟨⟨(), rfl, trivial, ⟨f27, by rw [ht]; exact hP9, va_K.moved hW.alike hK9, hD9⟩⟩, hS.F ht⟩) hS.2.2 dX6_tapeNumber_46

set_option maxHeartbeats 4000000 in
set_option maxRecDepth 100000 in
theorem c_X6_tapeNumber_16 (l : Launch) (dC : Nat → ClassId) (dI : Nat → Nat → Nat) (h0 tp nw dr rd sc sk fl ps sh : Nat) (kB : ClassId) (sz : Nat) (f : Nat → Int32) (p0 : Int32) : Met l yX6_tapeNumber (.code yX6_tapeNumber cX6_tapeNumber 3 none :: pw) ({ frames := 0, cells := 0, slots := 0, locals := 0 }) (pc (dC, dI) [.ref h0, .int p0] sz [(h0, .inr (6, [.ref tp, .int 16, .ref nw, .ref dr, .ref rd, .ref sc, .ref sk, .ref fl, .ref ps, .int 0, .int 0, .ref sh])), (tp, .inl (kB, 400, .inl f))] [(kB, .byte)]) (va_Qv (fun (_ : Unit) => True) (fun _ t => ∃ (g : Nat → Int32), wB (dC, dI) [(h0, .inr (6, [.ref tp, .int 20, .ref nw, .ref dr, .ref rd, .ref sc, .ref sk, .ref fl, .ref ps, .int 0, .int 0, .ref sh])), (tp, .inl (kB, 400, .inl g))] [(kB, .byte)] (va_A [(h0, .inr (6, [.ref tp, .int 16, .ref nw, .ref dr, .ref rd, .ref sc, .ref sk, .ref fl, .ref ps, .int 0, .int 0, .ref sh])), (tp, .inl (kB, 400, .inl f))] sz) t) (va_A [(h0, .inr (6, [.ref tp, .int 16, .ref nw, .ref dr, .ref rd, .ref sc, .ref sk, .ref fl, .ref ps, .int 0, .int 0, .ref sh])), (tp, .inl (kB, 400, .inl f))] sz)) 0 0 (va_A [(h0, .inr (6, [.ref tp, .int 16, .ref nw, .ref dr, .ref rd, .ref sc, .ref sk, .ref fl, .ref ps, .int 0, .int 0, .ref sh])), (tp, .inl (kB, 400, .inl f))] sz) := by
  refine Met.ofW (cc := cX6_tapeNumber) (maxL := 3) (ret := none) (by decide +kernel) rfl ?_
  intro p e s m args below meth c s₁ B hml hv
  obtain ⟨rfl, hsz, hP, hK, hD0, hN⟩ := hv
  have hx := B.exec
  have hb := B.bytes
  have hr := B.returns
  have hts := fun w (h : w ∈ pw) => atoms_spec (ws := Cond.code yX6_tapeNumber cX6_tapeNumber 3 none :: pw) B.pre w (List.mem_cons_of_mem _ h)
  have hown : s.vm.findClass RX6 = some m.cls := findClass_of_methodNamed B.named
  have hlocks := B.notSynchronized
  subst hsz
  have hD := hD0.self (sz := s.heap.size)
  generalize hAe : va_A [(h0, .inr (6, [.ref tp, .int 16, .ref nw, .ref dr, .ref rd, .ref sc, .ref sk, .ref fl, .ref ps, .int 0, .int 0, .ref sh])), (tp, .inl (kB, 400, .inl f))] s.heap.size = A at hD ⊢
  have hA : ∀ q : Nat, s.heap.size ≤ q → A q := fun q h => by rw [← hAe]; exact Or.inr h
  obtain ⟨H, hHe⟩ : ∃ H : Heap, H = s.heap := ⟨_, rfl⟩
  have hS : va_S A s.heap H [] := by rw [hHe]; exact va_S.rf
  rw [← hHe] at hP
  have hl := lv_entry ([.ref h0, .int p0]) (n := 3) (Nat.le_of_ble_eq_true rfl)
  rw [lg_entry_eq]
  generalize (lg_sl ([.ref h0, .int p0]) ++ List.replicate (3 - (lg_sl ([.ref h0, .int p0])).length) Slot.unset).toArray = ls at hl ⊢
  have hl : lv_has ls 3 [(0, .ref h0), (1, .int p0)] := hl
  rw [← hHe]
  refine lv_bipush (v := 24) hx hb dX6_tapeNumber_0 (by decide +kernel) ?_
  refine lv_istore_n (lv' := [(2, .int 24), (0, .ref h0), (1, .int p0)]) hx hb dX6_tapeNumber_2 rfl hl (by decide) rfl (fun ls hl => ?_)
  refine lv_iload_n hx hb dX6_tapeNumber_3 rfl (lv_at hl 0 rfl) ?_
  refine lv_if_lt (tgt := 46) hx hb dX6_tapeNumber_4 (by decide) (fun c1 => absurd c1 (by decide +kernel)) (fun c1 => ?_)
  refine lv_aload_n hx hb dX6_tapeNumber_7 rfl (lv_at hl 1 rfl) ?_
  refine va_get (D := (dC, dI)) (ci := 6) (v := .int 16) (C := RX6) (T := TX6) (N := 12) hx hb hts inX6 hown hK hP 0 rfl rfl 1 (by decide) (hts _ pq350) (fun _ h9 => h9) rfl dX6_tapeNumber_8 ?_
  refine lv_sipush (v := 400) hx hb dX6_tapeNumber_11 (by decide +kernel) ?_
  refine lv_icmp_ge (tgt := 46) hx hb dX6_tapeNumber_14 (by decide) (fun c2 => absurd c2 (by decide +kernel)) (fun c2 => ?_)
  refine lv_aload_n hx hb dX6_tapeNumber_17 rfl (lv_at hl 1 rfl) ?_
  refine va_get (D := (dC, dI)) (ci := 6) (v := .ref tp) (C := RX6) (T := TX6) (N := 12) hx hb hts inX6 hown hK hP 0 rfl rfl 0 (by decide) (hts _ pq349) (fun _ h9 => h9) rfl dX6_tapeNumber_18 ?_
  refine lv_aload_n hx hb dX6_tapeNumber_21 rfl (lv_at hl 1 rfl) ?_
  refine va_get (D := (dC, dI)) (ci := 6) (v := .int 16) (C := RX6) (T := TX6) (N := 12) hx hb hts inX6 hown hK hP 0 rfl rfl 1 (by decide) (hts _ pq350) (fun _ h9 => h9) rfl dX6_tapeNumber_22 ?_
  refine lv_iload_n hx hb dX6_tapeNumber_25 rfl (lv_at hl 2 rfl) ?_
  refine lv_iload_n hx hb dX6_tapeNumber_26 rfl (lv_at hl 0 rfl) ?_
  refine lv_ishr hx hb dX6_tapeNumber_27 ?_
  refine lv_topi (fun z3 ez3 => ?_)
  refine lv_i2b hx hb dX6_tapeNumber_28 rfl ?_
  refine lv_topi (fun z5 ez5 => ?_)
  refine va_bast hx hb hK hP hD hS 1 0 rfl rfl (in_d (by decide +kernel)) dX6_tapeNumber_29 (fun H locs hP hD hS => ?_)
  obtain ⟨f6, hP, hD⟩ : ∃ f6 : Nat → Int32, va_P (dC, dI) vwCl [(h0, .inr (6, [.ref tp, .int 16, .ref nw, .ref dr, .ref rd, .ref sc, .ref sk, .ref fl, .ref ps, .int 0, .int 0, .ref sh])), (tp, .inl (kB, 400, .inl f6))] H ∧ va_D A [(h0, .inr (6, [.ref tp, .int 16, .ref nw, .ref dr, .ref rd, .ref sc, .ref sk, .ref fl, .ref ps, .int 0, .int 0, .ref sh])), (tp, .inl (kB, 400, .inl f6))] := ⟨_, hP, hD⟩
  refine lv_aload_n hx hb dX6_tapeNumber_30 rfl (lv_at hl 1 rfl) ?_
  refine lv_dup hx hb dX6_tapeNumber_31 rfl ?_
  refine va_get (D := (dC, dI)) (ci := 6) (v := .int 16) (C := RX6) (T := TX6) (N := 12) hx hb hts inX6 hown hK hP 0 rfl rfl 1 (by decide) (hts _ pq350) (fun _ h9 => h9) rfl dX6_tapeNumber_32 ?_
  refine lv_iconst (v := 1) hx hb dX6_tapeNumber_35 (by decide +kernel) ?_
  refine lv_iadd hx hb dX6_tapeNumber_36 ?_
  refine lv_topi (fun z7 ez7 => ?_)
  obtain rfl : z7 = 17 := ez7.trans (by decide +kernel)
  refine va_put (D := (dC, dI)) (ci := 6) (v := .int 17) (ty := tyX6 1) (C := RX6) (T := TX6) (N := 12) hx hb hts inX6 tyX6 tyX6_ok nmX6 hown hK hP hD hS 0 rfl rfl 1 (by decide) (hts _ pq350) (fun _ h9 => h9) rfl (by decide +kernel) rfl rfl (Nat.le_of_ble_eq_true rfl) dX6_tapeNumber_37 (fun H locs hP hD hS => ?_)
  have hP : va_P (dC, dI) vwCl [(h0, .inr (6, [.ref tp, .int 17, .ref nw, .ref dr, .ref rd, .ref sc, .ref sk, .ref fl, .ref ps, .int 0, .int 0, .ref sh])), (tp, .inl (kB, 400, .inl f6))] H := hP
  have hD : va_D A [(h0, .inr (6, [.ref tp, .int 17, .ref nw, .ref dr, .ref rd, .ref sc, .ref sk, .ref fl, .ref ps, .int 0, .int 0, .ref sh])), (tp, .inl (kB, 400, .inl f6))] := hD
  refine lv_iinc (v := 16) (lv' := [(2, .int 16), (0, .ref h0), (1, .int p0)]) hx hb dX6_tapeNumber_40 hl (k := 0) rfl (by decide +kernel) (by decide) rfl (fun ls hl => ?_)
  refine lv_goto (tgt := 3) hx hb dX6_tapeNumber_43 (by decide) ?_
  refine lv_iload_n hx hb dX6_tapeNumber_3 rfl (lv_at hl 0 rfl) ?_
  refine lv_if_lt (tgt := 46) hx hb dX6_tapeNumber_4 (by decide) (fun c8 => absurd c8 (by decide +kernel)) (fun c8 => ?_)
  refine lv_aload_n hx hb dX6_tapeNumber_7 rfl (lv_at hl 1 rfl) ?_
  refine va_get (D := (dC, dI)) (ci := 6) (v := .int 17) (C := RX6) (T := TX6) (N := 12) hx hb hts inX6 hown hK hP 0 rfl rfl 1 (by decide) (hts _ pq350) (fun _ h9 => h9) rfl dX6_tapeNumber_8 ?_
  refine lv_sipush (v := 400) hx hb dX6_tapeNumber_11 (by decide +kernel) ?_
  refine lv_icmp_ge (tgt := 46) hx hb dX6_tapeNumber_14 (by decide) (fun c9 => absurd c9 (by decide +kernel)) (fun c9 => ?_)
  refine lv_aload_n hx hb dX6_tapeNumber_17 rfl (lv_at hl 1 rfl) ?_
  refine va_get (D := (dC, dI)) (ci := 6) (v := .ref tp) (C := RX6) (T := TX6) (N := 12) hx hb hts inX6 hown hK hP 0 rfl rfl 0 (by decide) (hts _ pq349) (fun _ h9 => h9) rfl dX6_tapeNumber_18 ?_
  refine lv_aload_n hx hb dX6_tapeNumber_21 rfl (lv_at hl 1 rfl) ?_
  refine va_get (D := (dC, dI)) (ci := 6) (v := .int 17) (C := RX6) (T := TX6) (N := 12) hx hb hts inX6 hown hK hP 0 rfl rfl 1 (by decide) (hts _ pq350) (fun _ h9 => h9) rfl dX6_tapeNumber_22 ?_
  refine lv_iload_n hx hb dX6_tapeNumber_25 rfl (lv_at hl 2 rfl) ?_
  refine lv_iload_n hx hb dX6_tapeNumber_26 rfl (lv_at hl 0 rfl) ?_
  refine lv_ishr hx hb dX6_tapeNumber_27 ?_
  refine lv_topi (fun z10 ez10 => ?_)
  refine lv_i2b hx hb dX6_tapeNumber_28 rfl ?_
  refine lv_topi (fun z12 ez12 => ?_)
  refine va_bast hx hb hK hP hD hS 1 0 rfl rfl (in_d (by decide +kernel)) dX6_tapeNumber_29 (fun H locs hP hD hS => ?_)
  obtain ⟨f13, hP, hD⟩ : ∃ f13 : Nat → Int32, va_P (dC, dI) vwCl [(h0, .inr (6, [.ref tp, .int 17, .ref nw, .ref dr, .ref rd, .ref sc, .ref sk, .ref fl, .ref ps, .int 0, .int 0, .ref sh])), (tp, .inl (kB, 400, .inl f13))] H ∧ va_D A [(h0, .inr (6, [.ref tp, .int 17, .ref nw, .ref dr, .ref rd, .ref sc, .ref sk, .ref fl, .ref ps, .int 0, .int 0, .ref sh])), (tp, .inl (kB, 400, .inl f13))] := ⟨_, hP, hD⟩
  refine lv_aload_n hx hb dX6_tapeNumber_30 rfl (lv_at hl 1 rfl) ?_
  refine lv_dup hx hb dX6_tapeNumber_31 rfl ?_
  refine va_get (D := (dC, dI)) (ci := 6) (v := .int 17) (C := RX6) (T := TX6) (N := 12) hx hb hts inX6 hown hK hP 0 rfl rfl 1 (by decide) (hts _ pq350) (fun _ h9 => h9) rfl dX6_tapeNumber_32 ?_
  refine lv_iconst (v := 1) hx hb dX6_tapeNumber_35 (by decide +kernel) ?_
  refine lv_iadd hx hb dX6_tapeNumber_36 ?_
  refine lv_topi (fun z14 ez14 => ?_)
  obtain rfl : z14 = 18 := ez14.trans (by decide +kernel)
  refine va_put (D := (dC, dI)) (ci := 6) (v := .int 18) (ty := tyX6 1) (C := RX6) (T := TX6) (N := 12) hx hb hts inX6 tyX6 tyX6_ok nmX6 hown hK hP hD hS 0 rfl rfl 1 (by decide) (hts _ pq350) (fun _ h9 => h9) rfl (by decide +kernel) rfl rfl (Nat.le_of_ble_eq_true rfl) dX6_tapeNumber_37 (fun H locs hP hD hS => ?_)
  have hP : va_P (dC, dI) vwCl [(h0, .inr (6, [.ref tp, .int 18, .ref nw, .ref dr, .ref rd, .ref sc, .ref sk, .ref fl, .ref ps, .int 0, .int 0, .ref sh])), (tp, .inl (kB, 400, .inl f13))] H := hP
  have hD : va_D A [(h0, .inr (6, [.ref tp, .int 18, .ref nw, .ref dr, .ref rd, .ref sc, .ref sk, .ref fl, .ref ps, .int 0, .int 0, .ref sh])), (tp, .inl (kB, 400, .inl f13))] := hD
  refine lv_iinc (v := 8) (lv' := [(2, .int 8), (0, .ref h0), (1, .int p0)]) hx hb dX6_tapeNumber_40 hl (k := 0) rfl (by decide +kernel) (by decide) rfl (fun ls hl => ?_)
  refine lv_goto (tgt := 3) hx hb dX6_tapeNumber_43 (by decide) ?_
  refine lv_iload_n hx hb dX6_tapeNumber_3 rfl (lv_at hl 0 rfl) ?_
  refine lv_if_lt (tgt := 46) hx hb dX6_tapeNumber_4 (by decide) (fun c15 => absurd c15 (by decide +kernel)) (fun c15 => ?_)
  refine lv_aload_n hx hb dX6_tapeNumber_7 rfl (lv_at hl 1 rfl) ?_
  refine va_get (D := (dC, dI)) (ci := 6) (v := .int 18) (C := RX6) (T := TX6) (N := 12) hx hb hts inX6 hown hK hP 0 rfl rfl 1 (by decide) (hts _ pq350) (fun _ h9 => h9) rfl dX6_tapeNumber_8 ?_
  refine lv_sipush (v := 400) hx hb dX6_tapeNumber_11 (by decide +kernel) ?_
  refine lv_icmp_ge (tgt := 46) hx hb dX6_tapeNumber_14 (by decide) (fun c16 => absurd c16 (by decide +kernel)) (fun c16 => ?_)
  refine lv_aload_n hx hb dX6_tapeNumber_17 rfl (lv_at hl 1 rfl) ?_
  refine va_get (D := (dC, dI)) (ci := 6) (v := .ref tp) (C := RX6) (T := TX6) (N := 12) hx hb hts inX6 hown hK hP 0 rfl rfl 0 (by decide) (hts _ pq349) (fun _ h9 => h9) rfl dX6_tapeNumber_18 ?_
  refine lv_aload_n hx hb dX6_tapeNumber_21 rfl (lv_at hl 1 rfl) ?_
  refine va_get (D := (dC, dI)) (ci := 6) (v := .int 18) (C := RX6) (T := TX6) (N := 12) hx hb hts inX6 hown hK hP 0 rfl rfl 1 (by decide) (hts _ pq350) (fun _ h9 => h9) rfl dX6_tapeNumber_22 ?_
  refine lv_iload_n hx hb dX6_tapeNumber_25 rfl (lv_at hl 2 rfl) ?_
  refine lv_iload_n hx hb dX6_tapeNumber_26 rfl (lv_at hl 0 rfl) ?_
  refine lv_ishr hx hb dX6_tapeNumber_27 ?_
  refine lv_topi (fun z17 ez17 => ?_)
  refine lv_i2b hx hb dX6_tapeNumber_28 rfl ?_
  refine lv_topi (fun z19 ez19 => ?_)
  refine va_bast hx hb hK hP hD hS 1 0 rfl rfl (in_d (by decide +kernel)) dX6_tapeNumber_29 (fun H locs hP hD hS => ?_)
  obtain ⟨f20, hP, hD⟩ : ∃ f20 : Nat → Int32, va_P (dC, dI) vwCl [(h0, .inr (6, [.ref tp, .int 18, .ref nw, .ref dr, .ref rd, .ref sc, .ref sk, .ref fl, .ref ps, .int 0, .int 0, .ref sh])), (tp, .inl (kB, 400, .inl f20))] H ∧ va_D A [(h0, .inr (6, [.ref tp, .int 18, .ref nw, .ref dr, .ref rd, .ref sc, .ref sk, .ref fl, .ref ps, .int 0, .int 0, .ref sh])), (tp, .inl (kB, 400, .inl f20))] := ⟨_, hP, hD⟩
  refine lv_aload_n hx hb dX6_tapeNumber_30 rfl (lv_at hl 1 rfl) ?_
  refine lv_dup hx hb dX6_tapeNumber_31 rfl ?_
  refine va_get (D := (dC, dI)) (ci := 6) (v := .int 18) (C := RX6) (T := TX6) (N := 12) hx hb hts inX6 hown hK hP 0 rfl rfl 1 (by decide) (hts _ pq350) (fun _ h9 => h9) rfl dX6_tapeNumber_32 ?_
  refine lv_iconst (v := 1) hx hb dX6_tapeNumber_35 (by decide +kernel) ?_
  refine lv_iadd hx hb dX6_tapeNumber_36 ?_
  refine lv_topi (fun z21 ez21 => ?_)
  obtain rfl : z21 = 19 := ez21.trans (by decide +kernel)
  refine va_put (D := (dC, dI)) (ci := 6) (v := .int 19) (ty := tyX6 1) (C := RX6) (T := TX6) (N := 12) hx hb hts inX6 tyX6 tyX6_ok nmX6 hown hK hP hD hS 0 rfl rfl 1 (by decide) (hts _ pq350) (fun _ h9 => h9) rfl (by decide +kernel) rfl rfl (Nat.le_of_ble_eq_true rfl) dX6_tapeNumber_37 (fun H locs hP hD hS => ?_)
  have hP : va_P (dC, dI) vwCl [(h0, .inr (6, [.ref tp, .int 19, .ref nw, .ref dr, .ref rd, .ref sc, .ref sk, .ref fl, .ref ps, .int 0, .int 0, .ref sh])), (tp, .inl (kB, 400, .inl f20))] H := hP
  have hD : va_D A [(h0, .inr (6, [.ref tp, .int 19, .ref nw, .ref dr, .ref rd, .ref sc, .ref sk, .ref fl, .ref ps, .int 0, .int 0, .ref sh])), (tp, .inl (kB, 400, .inl f20))] := hD
  refine lv_iinc (v := 0) (lv' := [(2, .int 0), (0, .ref h0), (1, .int p0)]) hx hb dX6_tapeNumber_40 hl (k := 0) rfl (by decide +kernel) (by decide) rfl (fun ls hl => ?_)
  refine lv_goto (tgt := 3) hx hb dX6_tapeNumber_43 (by decide) ?_
  refine lv_iload_n hx hb dX6_tapeNumber_3 rfl (lv_at hl 0 rfl) ?_
  refine lv_if_lt (tgt := 46) hx hb dX6_tapeNumber_4 (by decide) (fun c22 => absurd c22 (by decide +kernel)) (fun c22 => ?_)
  refine lv_aload_n hx hb dX6_tapeNumber_7 rfl (lv_at hl 1 rfl) ?_
  refine va_get (D := (dC, dI)) (ci := 6) (v := .int 19) (C := RX6) (T := TX6) (N := 12) hx hb hts inX6 hown hK hP 0 rfl rfl 1 (by decide) (hts _ pq350) (fun _ h9 => h9) rfl dX6_tapeNumber_8 ?_
  refine lv_sipush (v := 400) hx hb dX6_tapeNumber_11 (by decide +kernel) ?_
  refine lv_icmp_ge (tgt := 46) hx hb dX6_tapeNumber_14 (by decide) (fun c23 => absurd c23 (by decide +kernel)) (fun c23 => ?_)
  refine lv_aload_n hx hb dX6_tapeNumber_17 rfl (lv_at hl 1 rfl) ?_
  refine va_get (D := (dC, dI)) (ci := 6) (v := .ref tp) (C := RX6) (T := TX6) (N := 12) hx hb hts inX6 hown hK hP 0 rfl rfl 0 (by decide) (hts _ pq349) (fun _ h9 => h9) rfl dX6_tapeNumber_18 ?_
  refine lv_aload_n hx hb dX6_tapeNumber_21 rfl (lv_at hl 1 rfl) ?_
  refine va_get (D := (dC, dI)) (ci := 6) (v := .int 19) (C := RX6) (T := TX6) (N := 12) hx hb hts inX6 hown hK hP 0 rfl rfl 1 (by decide) (hts _ pq350) (fun _ h9 => h9) rfl dX6_tapeNumber_22 ?_
  refine lv_iload_n hx hb dX6_tapeNumber_25 rfl (lv_at hl 2 rfl) ?_
  refine lv_iload_n hx hb dX6_tapeNumber_26 rfl (lv_at hl 0 rfl) ?_
  refine lv_ishr hx hb dX6_tapeNumber_27 ?_
  refine lv_topi (fun z24 ez24 => ?_)
  refine lv_i2b hx hb dX6_tapeNumber_28 rfl ?_
  refine lv_topi (fun z26 ez26 => ?_)
  refine va_bast hx hb hK hP hD hS 1 0 rfl rfl (in_d (by decide +kernel)) dX6_tapeNumber_29 (fun H locs hP hD hS => ?_)
  obtain ⟨f27, hP, hD⟩ : ∃ f27 : Nat → Int32, va_P (dC, dI) vwCl [(h0, .inr (6, [.ref tp, .int 19, .ref nw, .ref dr, .ref rd, .ref sc, .ref sk, .ref fl, .ref ps, .int 0, .int 0, .ref sh])), (tp, .inl (kB, 400, .inl f27))] H ∧ va_D A [(h0, .inr (6, [.ref tp, .int 19, .ref nw, .ref dr, .ref rd, .ref sc, .ref sk, .ref fl, .ref ps, .int 0, .int 0, .ref sh])), (tp, .inl (kB, 400, .inl f27))] := ⟨_, hP, hD⟩
  refine lv_aload_n hx hb dX6_tapeNumber_30 rfl (lv_at hl 1 rfl) ?_
  refine lv_dup hx hb dX6_tapeNumber_31 rfl ?_
  refine va_get (D := (dC, dI)) (ci := 6) (v := .int 19) (C := RX6) (T := TX6) (N := 12) hx hb hts inX6 hown hK hP 0 rfl rfl 1 (by decide) (hts _ pq350) (fun _ h9 => h9) rfl dX6_tapeNumber_32 ?_
  refine lv_iconst (v := 1) hx hb dX6_tapeNumber_35 (by decide +kernel) ?_
  refine lv_iadd hx hb dX6_tapeNumber_36 ?_
  refine lv_topi (fun z28 ez28 => ?_)
  obtain rfl : z28 = 20 := ez28.trans (by decide +kernel)
  refine va_put (D := (dC, dI)) (ci := 6) (v := .int 20) (ty := tyX6 1) (C := RX6) (T := TX6) (N := 12) hx hb hts inX6 tyX6 tyX6_ok nmX6 hown hK hP hD hS 0 rfl rfl 1 (by decide) (hts _ pq350) (fun _ h9 => h9) rfl (by decide +kernel) rfl rfl (Nat.le_of_ble_eq_true rfl) dX6_tapeNumber_37 (fun H locs hP hD hS => ?_)
  have hP : va_P (dC, dI) vwCl [(h0, .inr (6, [.ref tp, .int 20, .ref nw, .ref dr, .ref rd, .ref sc, .ref sk, .ref fl, .ref ps, .int 0, .int 0, .ref sh])), (tp, .inl (kB, 400, .inl f27))] H := hP
  have hD : va_D A [(h0, .inr (6, [.ref tp, .int 20, .ref nw, .ref dr, .ref rd, .ref sc, .ref sk, .ref fl, .ref ps, .int 0, .int 0, .ref sh])), (tp, .inl (kB, 400, .inl f27))] := hD
  refine lv_iinc (v := (-8)) (lv' := [(2, .int (-8)), (0, .ref h0), (1, .int p0)]) hx hb dX6_tapeNumber_40 hl (k := 0) rfl (by decide +kernel) (by decide) rfl (fun ls hl => ?_)
  refine lv_goto (tgt := 3) hx hb dX6_tapeNumber_43 (by decide) ?_
  refine lv_iload_n hx hb dX6_tapeNumber_3 rfl (lv_at hl 0 rfl) ?_
  refine lv_if_lt (tgt := 46) hx hb dX6_tapeNumber_4 (by decide) (fun c29 => ?_) (fun c29 => absurd (by decide +kernel) c29)
  have hP9 := hP.sub (ws' := [(h0, .inr (6, [.ref tp, .int 20, .ref nw, .ref dr, .ref rd, .ref sc, .ref sk, .ref fl, .ref ps, .int 0, .int 0, .ref sh])), (tp, .inl (kB, 400, .inl f27))]) [0, 1] rfl
  have hD9 := hD.sub (ws' := [(h0, .inr (6, [.ref tp, .int 20, .ref nw, .ref dr, .ref rd, .ref sc, .ref sk, .ref fl, .ref ps, .int 0, .int 0, .ref sh])), (tp, .inl (kB, 400, .inl f27))]) [0, 1] (by decide) rfl
  have hK9 := hK.sub (tys' := [(kB, .byte)]) [0] rfl
  exact W.vret hx hb hr (fun t ht hW => ⟨⟨(), rfl, trivial, ⟨f27, by rw [ht]; exact hP9, va_K.moved hW.alike hK9, hD9⟩⟩, hS.F ht⟩) hS.2.2 dX6_tapeNumber_46

set_option maxHeartbeats 4000000 in
set_option maxRecDepth 100000 in
theorem c_X6_feed (l : Launch) (dC : Nat → ClassId) (dI : Nat → Nat → Nat) (h0 tp nw dr rd sc sk fl ps sh : Nat) (kB : ClassId) (sz : Nat) (p0 : Int32) (p1 : Int32) (p2 : Int32) (p3 : Int32) (p4 : Int32) : Met l yX6_feed (.code yX6_feed cX6_feed 6 (some .int) :: pw) ({ frames := 1, cells := 0, slots := 0, locals := 22 }) (pc (dC, dI) [.ref h0, .int p0, .int p1, .int p2, .int p3, .int p4] sz [(h0, .inr (6, [.ref tp, .int 0, .ref nw, .ref dr, .ref rd, .ref sc, .ref sk, .ref fl, .ref ps, .int 0, .int 0, .ref sh])), (tp, .inl (kB, 400, .inl (fun _ => 0)))] [(kB, .byte)]) (va_Qi (fun (r : Int32) (_ : Unit) => r = 20) (fun _ _ => True) (va_A [(h0, .inr (6, [.ref tp, .int 0, .ref nw, .ref dr, .ref rd, .ref sc, .ref sk, .ref fl, .ref ps, .int 0, .int 0, .ref sh])), (tp, .inl (kB, 400, .inl (fun _ => 0)))] sz)) 0 0 (va_A [(h0, .inr (6, [.ref tp, .int 0, .ref nw, .ref dr, .ref rd, .ref sc, .ref sk, .ref fl, .ref ps, .int 0, .int 0, .ref sh])), (tp, .inl (kB, 400, .inl (fun _ => 0)))] sz) := by
  refine Met.ofW (cc := cX6_feed) (maxL := 6) (ret := (some .int)) (by decide +kernel) rfl ?_
  intro p e s m args below meth c s₁ B hml hv
  obtain ⟨rfl, hsz, hP, hK, hD0, hN⟩ := hv
  have hx := B.exec
  have hb := B.bytes
  have hr := B.returns
  have hts := fun w (h : w ∈ pw) => atoms_spec (ws := Cond.code yX6_feed cX6_feed 6 (some .int) :: pw) B.pre w (List.mem_cons_of_mem _ h)
  have hown : s.vm.findClass RX6 = some m.cls := findClass_of_methodNamed B.named
  have hlocks := B.notSynchronized
  subst hsz
  have hD := hD0.self (sz := s.heap.size)
  generalize hAe : va_A [(h0, .inr (6, [.ref tp, .int 0, .ref nw, .ref dr, .ref rd, .ref sc, .ref sk, .ref fl, .ref ps, .int 0, .int 0, .ref sh])), (tp, .inl (kB, 400, .inl (fun _ => 0)))] s.heap.size = A at hD ⊢
  have hA : ∀ q : Nat, s.heap.size ≤ q → A q := fun q h => by rw [← hAe]; exact Or.inr h
  obtain ⟨H, hHe⟩ : ∃ H : Heap, H = s.heap := ⟨_, rfl⟩
  have hS : va_S A s.heap H [] := by rw [hHe]; exact va_S.rf
  rw [← hHe] at hP
  have hl := lv_entry ([.ref h0, .int p0, .int p1, .int p2, .int p3, .int p4]) (n := 6) (Nat.le_of_ble_eq_true rfl)
  rw [lg_entry_eq]
  generalize (lg_sl ([.ref h0, .int p0, .int p1, .int p2, .int p3, .int p4]) ++ List.replicate (6 - (lg_sl ([.ref h0, .int p0, .int p1, .int p2, .int p3, .int p4])).length) Slot.unset).toArray = ls at hl ⊢
  have hl : lv_has ls 6 [(0, .ref h0), (1, .int p0), (2, .int p1), (3, .int p2), (4, .int p3), (5, .int p4)] := hl
  rw [← hHe]
  refine lv_aload_n hx hb dX6_feed_0 rfl (lv_at hl 0 rfl) ?_
  refine va_get (D := (dC, dI)) (ci := 6) (v := .int 0) (C := RX6) (T := TX6) (N := 12) hx hb hts inX6 hown hK hP 0 rfl rfl 1 (by decide) (hts _ pq350) (fun _ h9 => h9) rfl dX6_feed_1 ?_
  refine lv_bipush (v := 20) hx hb dX6_feed_4 (by decide +kernel) ?_
  refine lv_iadd hx hb dX6_feed_6 ?_
  refine lv_topi (fun z1 ez1 => ?_)
  obtain rfl : z1 = 20 := ez1.trans (by decide +kernel)
  refine lv_sipush (v := 400) hx hb dX6_feed_7 (by decide +kernel) ?_
  refine lv_icmp_le (tgt := 15) hx hb dX6_feed_10 (by decide) (fun c2 => ?_) (fun c2 => absurd (by decide +kernel) c2)
  refine lv_aload_n hx hb dX6_feed_15 rfl (lv_at hl 0 rfl) ?_
  refine lv_iload_n hx hb dX6_feed_16 rfl (lv_at hl 1 rfl) ?_
  have hPc := hP.sub (ws' := [(h0, .inr (6, [.ref tp, .int 0, .ref nw, .ref dr, .ref rd, .ref sc, .ref sk, .ref fl, .ref ps, .int 0, .int 0, .ref sh])), (tp, .inl (kB, 400, .inl (fun _ => 0)))]) [0, 1] rfl
  have hDc := hD.sub (ws' := [(h0, .inr (6, [.ref tp, .int 0, .ref nw, .ref dr, .ref rd, .ref sc, .ref sk, .ref fl, .ref ps, .int 0, .int 0, .ref sh])), (tp, .inl (kB, 400, .inl (fun _ => 0)))]) [0, 1] (by decide) rfl
  have hKc := hK.sub (tys' := [(kB, .byte)]) [0] rfl
  have hFc := va_free (wc := [(h0, .inr (6, [.ref tp, .int 0, .ref nw, .ref dr, .ref rd, .ref sc, .ref sk, .ref fl, .ref ps, .int 0, .int 0, .ref sh])), (tp, .inl (kB, 400, .inl (fun _ => 0)))]) hD hS hA [0, 1] rfl
  refine va_callv (va_runV (As := [.int p0]) (rest := []) ⟨hx, hb, hml, hown, hts⟩ (c_X6_tapeNumber_0 l dC dI h0 tp nw dr rd sc sk fl ps sh kB H.size (fun _ => 0) p0 ) (cwV 1 hts (gV pq390 pq392 pq0 pq74 pq393) rfl rfl rfl (by decide +kernel) ⟨(Nat.le_of_ble_eq_true rfl), (Nat.le_of_ble_eq_true rfl)⟩) (pc_V hPc hDc hKc hN (va_recv hK hP (ci := 6) (q0 := 0) rfl rfl)) rfl rfl hl.1 rfl (lv_room (Nat.le_of_ble_eq_true rfl)) dX6_feed_17 ⟨(Nat.le_of_ble_eq_true rfl), (Nat.le_of_ble_eq_true rfl)⟩) hS (fun q _ h => hFc q h) hFc (fun u t H1 locs ht hvm hw hB hz1 hk1 hS => ?_)
  obtain ⟨f3, hP1, hK1, hD1⟩ := hB
  rw [ht] at hP1
  have hK1 := va_K.moved hvm.symm hK1
  obtain ⟨hP, hD⟩ := va_join (wr := []) (w1 := [(h0, .inr (6, [.ref tp, .int 4, .ref nw, .ref dr, .ref rd, .ref sc, .ref sk, .ref fl, .ref ps, .int 0, .int 0, .ref sh])), (tp, .inl (kB, 400, .inl f3))]) hP hD [0, 1] [] rfl rfl (by decide) (by decide) hk1 hFc hP1 hD1
  generalize H1 = H at hP hS ⊢
  have hP : va_P (dC, dI) vwCl [(h0, .inr (6, [.ref tp, .int 4, .ref nw, .ref dr, .ref rd, .ref sc, .ref sk, .ref fl, .ref ps, .int 0, .int 0, .ref sh])), (tp, .inl (kB, 400, .inl f3))] H := hP
  have hD : va_D A [(h0, .inr (6, [.ref tp, .int 4, .ref nw, .ref dr, .ref rd, .ref sc, .ref sk, .ref fl, .ref ps, .int 0, .int 0, .ref sh])), (tp, .inl (kB, 400, .inl f3))] := hD
  refine lv_aload_n hx hb dX6_feed_20 rfl (lv_at hl 0 rfl) ?_
  refine lv_iload_n hx hb dX6_feed_21 rfl (lv_at hl 2 rfl) ?_
  have hPc := hP.sub (ws' := [(h0, .inr (6, [.ref tp, .int 4, .ref nw, .ref dr, .ref rd, .ref sc, .ref sk, .ref fl, .ref ps, .int 0, .int 0, .ref sh])), (tp, .inl (kB, 400, .inl f3))]) [0, 1] rfl
  have hDc := hD.sub (ws' := [(h0, .inr (6, [.ref tp, .int 4, .ref nw, .ref dr, .ref rd, .ref sc, .ref sk, .ref fl, .ref ps, .int 0, .int 0, .ref sh])), (tp, .inl (kB, 400, .inl f3))]) [0, 1] (by decide) rfl
  have hKc := hK.sub (tys' := [(kB, .byte)]) [0] rfl
  have hFc := va_free (wc := [(h0, .inr (6, [.ref tp, .int 4, .ref nw, .ref dr, .ref rd, .ref sc, .ref sk, .ref fl, .ref ps, .int 0, .int 0, .ref sh])), (tp, .inl (kB, 400, .inl f3))]) hD hS hA [0, 1] rfl
  refine va_callv (va_runV (As := [.int p1]) (rest := []) ⟨hx, hb, hml, hown, hts⟩ (c_X6_tapeNumber_4 l dC dI h0 tp nw dr rd sc sk fl ps sh kB H.size f3 p1 ) (cwV 1 hts (gV pq390 pq392 pq0 pq74 pq393) rfl rfl rfl (by decide +kernel) ⟨(Nat.le_of_ble_eq_true rfl), (Nat.le_of_ble_eq_true rfl)⟩) (pc_V hPc hDc hKc hN (va_recv hK hP (ci := 6) (q0 := 0) rfl rfl)) rfl rfl hl.1 rfl (lv_room (Nat.le_of_ble_eq_true rfl)) dX6_feed_22 ⟨(Nat.le_of_ble_eq_true rfl), (Nat.le_of_ble_eq_true rfl)⟩) hS (fun q _ h => hFc q h) hFc (fun u t H1 locs ht hvm hw hB hz1 hk1 hS => ?_)
  obtain ⟨f4, hP1, hK1, hD1⟩ := hB
  rw [ht] at hP1
  have hK1 := va_K.moved hvm.symm hK1
  obtain ⟨hP, hD⟩ := va_join (wr := []) (w1 := [(h0, .inr (6, [.ref tp, .int 8, .ref nw, .ref dr, .ref rd, .ref sc, .ref sk, .ref fl, .ref ps, .int 0, .int 0, .ref sh])), (tp, .inl (kB, 400, .inl f4))]) hP hD [0, 1] [] rfl rfl (by decide) (by decide) hk1 hFc hP1 hD1
  generalize H1 = H at hP hS ⊢
  have hP : va_P (dC, dI) vwCl [(h0, .inr (6, [.ref tp, .int 8, .ref nw, .ref dr, .ref rd, .ref sc, .ref sk, .ref fl, .ref ps, .int 0, .int 0, .ref sh])), (tp, .inl (kB, 400, .inl f4))] H := hP
  have hD : va_D A [(h0, .inr (6, [.ref tp, .int 8, .ref nw, .ref dr, .ref rd, .ref sc, .ref sk, .ref fl, .ref ps, .int 0, .int 0, .ref sh])), (tp, .inl (kB, 400, .inl f4))] := hD
  refine lv_aload_n hx hb dX6_feed_25 rfl (lv_at hl 0 rfl) ?_
  refine lv_iload_n hx hb dX6_feed_26 rfl (lv_at hl 3 rfl) ?_
  have hPc := hP.sub (ws' := [(h0, .inr (6, [.ref tp, .int 8, .ref nw, .ref dr, .ref rd, .ref sc, .ref sk, .ref fl, .ref ps, .int 0, .int 0, .ref sh])), (tp, .inl (kB, 400, .inl f4))]) [0, 1] rfl
  have hDc := hD.sub (ws' := [(h0, .inr (6, [.ref tp, .int 8, .ref nw, .ref dr, .ref rd, .ref sc, .ref sk, .ref fl, .ref ps, .int 0, .int 0, .ref sh])), (tp, .inl (kB, 400, .inl f4))]) [0, 1] (by decide) rfl
  have hKc := hK.sub (tys' := [(kB, .byte)]) [0] rfl
  have hFc := va_free (wc := [(h0, .inr (6, [.ref tp, .int 8, .ref nw, .ref dr, .ref rd, .ref sc, .ref sk, .ref fl, .ref ps, .int 0, .int 0, .ref sh])), (tp, .inl (kB, 400, .inl f4))]) hD hS hA [0, 1] rfl
  refine va_callv (va_runV (As := [.int p2]) (rest := []) ⟨hx, hb, hml, hown, hts⟩ (c_X6_tapeNumber_8 l dC dI h0 tp nw dr rd sc sk fl ps sh kB H.size f4 p2 ) (cwV 1 hts (gV pq390 pq392 pq0 pq74 pq393) rfl rfl rfl (by decide +kernel) ⟨(Nat.le_of_ble_eq_true rfl), (Nat.le_of_ble_eq_true rfl)⟩) (pc_V hPc hDc hKc hN (va_recv hK hP (ci := 6) (q0 := 0) rfl rfl)) rfl rfl hl.1 rfl (lv_room (Nat.le_of_ble_eq_true rfl)) dX6_feed_27 ⟨(Nat.le_of_ble_eq_true rfl), (Nat.le_of_ble_eq_true rfl)⟩) hS (fun q _ h => hFc q h) hFc (fun u t H1 locs ht hvm hw hB hz1 hk1 hS => ?_)
  obtain ⟨f5, hP1, hK1, hD1⟩ := hB
  rw [ht] at hP1
  have hK1 := va_K.moved hvm.symm hK1
  obtain ⟨hP, hD⟩ := va_join (wr := []) (w1 := [(h0, .inr (6, [.ref tp, .int 12, .ref nw, .ref dr, .ref rd, .ref sc, .ref sk, .ref fl, .ref ps, .int 0, .int 0, .ref sh])), (tp, .inl (kB, 400, .inl f5))]) hP hD [0, 1] [] rfl rfl (by decide) (by decide) hk1 hFc hP1 hD1
  generalize H1 = H at hP hS ⊢
  have hP : va_P (dC, dI) vwCl [(h0, .inr (6, [.ref tp, .int 12, .ref nw, .ref dr, .ref rd, .ref sc, .ref sk, .ref fl, .ref ps, .int 0, .int 0, .ref sh])), (tp, .inl (kB, 400, .inl f5))] H := hP
  have hD : va_D A [(h0, .inr (6, [.ref tp, .int 12, .ref nw, .ref dr, .ref rd, .ref sc, .ref sk, .ref fl, .ref ps, .int 0, .int 0, .ref sh])), (tp, .inl (kB, 400, .inl f5))] := hD
  refine lv_aload_n hx hb dX6_feed_30 rfl (lv_at hl 0 rfl) ?_
  refine lv_iload hx hb dX6_feed_31 (lv_at hl 4 rfl) ?_
  have hPc := hP.sub (ws' := [(h0, .inr (6, [.ref tp, .int 12, .ref nw, .ref dr, .ref rd, .ref sc, .ref sk, .ref fl, .ref ps, .int 0, .int 0, .ref sh])), (tp, .inl (kB, 400, .inl f5))]) [0, 1] rfl
  have hDc := hD.sub (ws' := [(h0, .inr (6, [.ref tp, .int 12, .ref nw, .ref dr, .ref rd, .ref sc, .ref sk, .ref fl, .ref ps, .int 0, .int 0, .ref sh])), (tp, .inl (kB, 400, .inl f5))]) [0, 1] (by decide) rfl
  have hKc := hK.sub (tys' := [(kB, .byte)]) [0] rfl
  have hFc := va_free (wc := [(h0, .inr (6, [.ref tp, .int 12, .ref nw, .ref dr, .ref rd, .ref sc, .ref sk, .ref fl, .ref ps, .int 0, .int 0, .ref sh])), (tp, .inl (kB, 400, .inl f5))]) hD hS hA [0, 1] rfl
  refine va_callv (va_runV (As := [.int p3]) (rest := []) ⟨hx, hb, hml, hown, hts⟩ (c_X6_tapeNumber_12 l dC dI h0 tp nw dr rd sc sk fl ps sh kB H.size f5 p3 ) (cwV 1 hts (gV pq390 pq392 pq0 pq74 pq393) rfl rfl rfl (by decide +kernel) ⟨(Nat.le_of_ble_eq_true rfl), (Nat.le_of_ble_eq_true rfl)⟩) (pc_V hPc hDc hKc hN (va_recv hK hP (ci := 6) (q0 := 0) rfl rfl)) rfl rfl hl.1 rfl (lv_room (Nat.le_of_ble_eq_true rfl)) dX6_feed_33 ⟨(Nat.le_of_ble_eq_true rfl), (Nat.le_of_ble_eq_true rfl)⟩) hS (fun q _ h => hFc q h) hFc (fun u t H1 locs ht hvm hw hB hz1 hk1 hS => ?_)
  obtain ⟨f6, hP1, hK1, hD1⟩ := hB
  rw [ht] at hP1
  have hK1 := va_K.moved hvm.symm hK1
  obtain ⟨hP, hD⟩ := va_join (wr := []) (w1 := [(h0, .inr (6, [.ref tp, .int 16, .ref nw, .ref dr, .ref rd, .ref sc, .ref sk, .ref fl, .ref ps, .int 0, .int 0, .ref sh])), (tp, .inl (kB, 400, .inl f6))]) hP hD [0, 1] [] rfl rfl (by decide) (by decide) hk1 hFc hP1 hD1
  generalize H1 = H at hP hS ⊢
  have hP : va_P (dC, dI) vwCl [(h0, .inr (6, [.ref tp, .int 16, .ref nw, .ref dr, .ref rd, .ref sc, .ref sk, .ref fl, .ref ps, .int 0, .int 0, .ref sh])), (tp, .inl (kB, 400, .inl f6))] H := hP
  have hD : va_D A [(h0, .inr (6, [.ref tp, .int 16, .ref nw, .ref dr, .ref rd, .ref sc, .ref sk, .ref fl, .ref ps, .int 0, .int 0, .ref sh])), (tp, .inl (kB, 400, .inl f6))] := hD
  refine lv_aload_n hx hb dX6_feed_36 rfl (lv_at hl 0 rfl) ?_
  refine lv_iload hx hb dX6_feed_37 (lv_at hl 5 rfl) ?_
  have hPc := hP.sub (ws' := [(h0, .inr (6, [.ref tp, .int 16, .ref nw, .ref dr, .ref rd, .ref sc, .ref sk, .ref fl, .ref ps, .int 0, .int 0, .ref sh])), (tp, .inl (kB, 400, .inl f6))]) [0, 1] rfl
  have hDc := hD.sub (ws' := [(h0, .inr (6, [.ref tp, .int 16, .ref nw, .ref dr, .ref rd, .ref sc, .ref sk, .ref fl, .ref ps, .int 0, .int 0, .ref sh])), (tp, .inl (kB, 400, .inl f6))]) [0, 1] (by decide) rfl
  have hKc := hK.sub (tys' := [(kB, .byte)]) [0] rfl
  have hFc := va_free (wc := [(h0, .inr (6, [.ref tp, .int 16, .ref nw, .ref dr, .ref rd, .ref sc, .ref sk, .ref fl, .ref ps, .int 0, .int 0, .ref sh])), (tp, .inl (kB, 400, .inl f6))]) hD hS hA [0, 1] rfl
  refine va_callv (va_runV (As := [.int p4]) (rest := []) ⟨hx, hb, hml, hown, hts⟩ (c_X6_tapeNumber_16 l dC dI h0 tp nw dr rd sc sk fl ps sh kB H.size f6 p4 ) (cwV 1 hts (gV pq390 pq392 pq0 pq74 pq393) rfl rfl rfl (by decide +kernel) ⟨(Nat.le_of_ble_eq_true rfl), (Nat.le_of_ble_eq_true rfl)⟩) (pc_V hPc hDc hKc hN (va_recv hK hP (ci := 6) (q0 := 0) rfl rfl)) rfl rfl hl.1 rfl (lv_room (Nat.le_of_ble_eq_true rfl)) dX6_feed_39 ⟨(Nat.le_of_ble_eq_true rfl), (Nat.le_of_ble_eq_true rfl)⟩) hS (fun q _ h => hFc q h) hFc (fun u t H1 locs ht hvm hw hB hz1 hk1 hS => ?_)
  obtain ⟨f7, hP1, hK1, hD1⟩ := hB
  rw [ht] at hP1
  have hK1 := va_K.moved hvm.symm hK1
  obtain ⟨hP, hD⟩ := va_join (wr := []) (w1 := [(h0, .inr (6, [.ref tp, .int 20, .ref nw, .ref dr, .ref rd, .ref sc, .ref sk, .ref fl, .ref ps, .int 0, .int 0, .ref sh])), (tp, .inl (kB, 400, .inl f7))]) hP hD [0, 1] [] rfl rfl (by decide) (by decide) hk1 hFc hP1 hD1
  generalize H1 = H at hP hS ⊢
  have hP : va_P (dC, dI) vwCl [(h0, .inr (6, [.ref tp, .int 20, .ref nw, .ref dr, .ref rd, .ref sc, .ref sk, .ref fl, .ref ps, .int 0, .int 0, .ref sh])), (tp, .inl (kB, 400, .inl f7))] H := hP
  have hD : va_D A [(h0, .inr (6, [.ref tp, .int 20, .ref nw, .ref dr, .ref rd, .ref sc, .ref sk, .ref fl, .ref ps, .int 0, .int 0, .ref sh])), (tp, .inl (kB, 400, .inl f7))] := hD
  refine lv_aload_n hx hb dX6_feed_42 rfl (lv_at hl 0 rfl) ?_
  refine va_get (D := (dC, dI)) (ci := 6) (v := .int 20) (C := RX6) (T := TX6) (N := 12) hx hb hts inX6 hown hK hP 0 rfl rfl 1 (by decide) (hts _ pq350) (fun _ h9 => h9) rfl dX6_feed_43 ?_
  exact W.iret (v := 20) hx hb hr (fun t ht hW => ⟨⟨20, (), rfl, rfl, trivial⟩, hS.F ht⟩) hS.2.2 dX6_feed_46
