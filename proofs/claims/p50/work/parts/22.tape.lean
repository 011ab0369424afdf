def yX6_tapeNumber : MethodName := ⟨RX6, "tapeNumber", "(I)V"⟩
abbrev cX6_tapeNumber : ByteArray := prog_1_method_3_code
abbrev cX6_end : ByteArray := prog_1_method_4_code
abbrev cX6_feed : ByteArray := prog_1_method_2_code
abbrev cX6_tell : ByteArray := prog_1_method_5_code
def yX6_end : MethodName := ⟨RX6, "end", "(I)I"⟩
def yX6_feed : MethodName := ⟨RX6, "feed", "(IIIII)I"⟩
def yX6_tell : MethodName := ⟨RX6, "tell", "()I"⟩
theorem dX6_end_0 : decode cX6_end 0 = .ok (.iload_n 1, 1) := by decide +kernel
theorem dX6_end_1 : decode cX6_end 1 = .ok (.ifCond .lt 11, 3) := by decide +kernel
theorem dX6_end_4 : decode cX6_end 4 = .ok (.iload_n 1, 1) := by decide +kernel
theorem dX6_end_5 : decode cX6_end 5 = .ok (.aload_n 0, 1) := by decide +kernel
theorem dX6_end_6 : decode cX6_end 6 = .ok (.getfield 13, 3) := by decide +kernel
theorem dX6_end_9 : decode cX6_end 9 = .ok (.if_icmp .le 5, 3) := by decide +kernel
theorem dX6_end_12 : decode cX6_end 12 = .ok (.iconst (-1), 1) := by decide +kernel
theorem dX6_end_13 : decode cX6_end 13 = .ok (.ireturn, 1) := by decide +kernel
theorem dX6_end_14 : decode cX6_end 14 = .ok (.aload_n 0, 1) := by decide +kernel
theorem dX6_end_15 : decode cX6_end 15 = .ok (.iload_n 1, 1) := by decide +kernel
theorem dX6_end_16 : decode cX6_end 16 = .ok (.putfield 13, 3) := by decide +kernel
theorem dX6_end_19 : decode cX6_end 19 = .ok (.iload_n 1, 1) := by decide +kernel
theorem dX6_end_20 : decode cX6_end 20 = .ok (.ireturn, 1) := by decide +kernel
theorem dX6_feed_0 : decode cX6_feed 0 = .ok (.aload_n 0, 1) := by decide +kernel
theorem dX6_feed_1 : decode cX6_feed 1 = .ok (.getfield 13, 3) := by decide +kernel
theorem dX6_feed_4 : decode cX6_feed 4 = .ok (.bipush 20, 2) := by decide +kernel
theorem dX6_feed_6 : decode cX6_feed 6 = .ok (.iadd, 1) := by decide +kernel
theorem dX6_feed_7 : decode cX6_feed 7 = .ok (.sipush 400, 3) := by decide +kernel
theorem dX6_feed_10 : decode cX6_feed 10 = .ok (.if_icmp .le 5, 3) := by decide +kernel
theorem dX6_feed_13 : decode cX6_feed 13 = .ok (.iconst (-1), 1) := by decide +kernel
theorem dX6_feed_14 : decode cX6_feed 14 = .ok (.ireturn, 1) := by decide +kernel
theorem dX6_feed_15 : decode cX6_feed 15 = .ok (.aload_n 0, 1) := by decide +kernel
theorem dX6_feed_16 : decode cX6_feed 16 = .ok (.iload_n 1, 1) := by decide +kernel
theorem dX6_feed_17 : decode cX6_feed 17 = .ok (.invokevirtual 72, 3) := by decide +kernel
theorem dX6_feed_20 : decode cX6_feed 20 = .ok (.aload_n 0, 1) := by decide +kernel
theorem dX6_feed_21 : decode cX6_feed 21 = .ok (.iload_n 2, 1) := by decide +kernel
theorem dX6_feed_22 : decode cX6_feed 22 = .ok (.invokevirtual 72, 3) := by decide +kernel
theorem dX6_feed_25 : decode cX6_feed 25 = .ok (.aload_n 0, 1) := by decide +kernel
theorem dX6_feed_26 : decode cX6_feed 26 = .ok (.iload_n 3, 1) := by decide +kernel
theorem dX6_feed_27 : decode cX6_feed 27 = .ok (.invokevirtual 72, 3) := by decide +kernel
theorem dX6_feed_30 : decode cX6_feed 30 = .ok (.aload_n 0, 1) := by decide +kernel
theorem dX6_feed_31 : decode cX6_feed 31 = .ok (.iload 4, 2) := by decide +kernel
theorem dX6_feed_33 : decode cX6_feed 33 = .ok (.invokevirtual 72, 3) := by decide +kernel
theorem dX6_feed_36 : decode cX6_feed 36 = .ok (.aload_n 0, 1) := by decide +kernel
theorem dX6_feed_37 : decode cX6_feed 37 = .ok (.iload 5, 2) := by decide +kernel
theorem dX6_feed_39 : decode cX6_feed 39 = .ok (.invokevirtual 72, 3) := by decide +kernel
theorem dX6_feed_42 : decode cX6_feed 42 = .ok (.aload_n 0, 1) := by decide +kernel
theorem dX6_feed_43 : decode cX6_feed 43 = .ok (.getfield 13, 3) := by decide +kernel
theorem dX6_feed_46 : decode cX6_feed 46 = .ok (.ireturn, 1) := by decide +kernel
theorem dX6_tapeNumber_0 : decode cX6_tapeNumber 0 = .ok (.bipush 24, 2) := by decide +kernel
theorem dX6_tapeNumber_2 : decode cX6_tapeNumber 2 = .ok (.istore_n 2, 1) := by decide +kernel
theorem dX6_tapeNumber_3 : decode cX6_tapeNumber 3 = .ok (.iload_n 2, 1) := by decide +kernel
theorem dX6_tapeNumber_4 : decode cX6_tapeNumber 4 = .ok (.ifCond .lt 42, 3) := by decide +kernel
theorem dX6_tapeNumber_7 : decode cX6_tapeNumber 7 = .ok (.aload_n 0, 1) := by decide +kernel
theorem dX6_tapeNumber_8 : decode cX6_tapeNumber 8 = .ok (.getfield 13, 3) := by decide +kernel
theorem dX6_tapeNumber_11 : decode cX6_tapeNumber 11 = .ok (.sipush 400, 3) := by decide +kernel
theorem dX6_tapeNumber_14 : decode cX6_tapeNumber 14 = .ok (.if_icmp .ge 32, 3) := by decide +kernel
theorem dX6_tapeNumber_17 : decode cX6_tapeNumber 17 = .ok (.aload_n 0, 1) := by decide +kernel
theorem dX6_tapeNumber_18 : decode cX6_tapeNumber 18 = .ok (.getfield 9, 3) := by decide +kernel
theorem dX6_tapeNumber_21 : decode cX6_tapeNumber 21 = .ok (.aload_n 0, 1) := by decide +kernel
theorem dX6_tapeNumber_22 : decode cX6_tapeNumber 22 = .ok (.getfield 13, 3) := by decide +kernel
theorem dX6_tapeNumber_25 : decode cX6_tapeNumber 25 = .ok (.iload_n 1, 1) := by decide +kernel
theorem dX6_tapeNumber_26 : decode cX6_tapeNumber 26 = .ok (.iload_n 2, 1) := by decide +kernel
theorem dX6_tapeNumber_27 : decode cX6_tapeNumber 27 = .ok (.ishr, 1) := by decide +kernel
theorem dX6_tapeNumber_28 : decode cX6_tapeNumber 28 = .ok (.i2b, 1) := by decide +kernel
theorem dX6_tapeNumber_29 : decode cX6_tapeNumber 29 = .ok (.bastore, 1) := by decide +kernel
theorem dX6_tapeNumber_30 : decode cX6_tapeNumber 30 = .ok (.aload_n 0, 1) := by decide +kernel
theorem dX6_tapeNumber_31 : decode cX6_tapeNumber 31 = .ok (.dup, 1) := by decide +kernel
theorem dX6_tapeNumber_32 : decode cX6_tapeNumber 32 = .ok (.getfield 13, 3) := by decide +kernel
theorem dX6_tapeNumber_35 : decode cX6_tapeNumber 35 = .ok (.iconst 1, 1) := by decide +kernel
theorem dX6_tapeNumber_36 : decode cX6_tapeNumber 36 = .ok (.iadd, 1) := by decide +kernel
theorem dX6_tapeNumber_37 : decode cX6_tapeNumber 37 = .ok (.putfield 13, 3) := by decide +kernel
theorem dX6_tapeNumber_40 : decode cX6_tapeNumber 40 = .ok (.iinc 2 (-8), 3) := by decide +kernel
theorem dX6_tapeNumber_43 : decode cX6_tapeNumber 43 = .ok (.goto (-40), 3) := by decide +kernel
theorem dX6_tapeNumber_46 : decode cX6_tapeNumber 46 = .ok (.return_, 1) := by decide +kernel
theorem dX6_tell_0 : decode cX6_tell 0 = .ok (.aload_n 0, 1) := by decide +kernel
theorem dX6_tell_1 : decode cX6_tell 1 = .ok (.getfield 32, 3) := by decide +kernel
theorem dX6_tell_4 : decode cX6_tell 4 = .ok (.aload_n 0, 1) := by decide +kernel
theorem dX6_tell_5 : decode cX6_tell 5 = .ok (.getfield 13, 3) := by decide +kernel
theorem dX6_tell_8 : decode cX6_tell 8 = .ok (.aload_n 0, 1) := by decide +kernel
theorem dX6_tell_9 : decode cX6_tell 9 = .ok (.getfield 24, 3) := by decide +kernel
theorem dX6_tell_12 : decode cX6_tell 12 = .ok (.invokevirtual 76, 3) := by decide +kernel
theorem dX6_tell_15 : decode cX6_tell 15 = .ok (.istore_n 1, 1) := by decide +kernel
theorem dX6_tell_16 : decode cX6_tell 16 = .ok (.aload_n 0, 1) := by decide +kernel
theorem dX6_tell_17 : decode cX6_tell 17 = .ok (.iconst 0, 1) := by decide +kernel
theorem dX6_tell_18 : decode cX6_tell 18 = .ok (.putfield 13, 3) := by decide +kernel
theorem dX6_tell_21 : decode cX6_tell 21 = .ok (.iload_n 1, 1) := by decide +kernel
theorem dX6_tell_22 : decode cX6_tell 22 = .ok (.ifCond .eq 8, 3) := by decide +kernel
theorem dX6_tell_25 : decode cX6_tell 25 = .ok (.bipush (-2), 2) := by decide +kernel
theorem dX6_tell_27 : decode cX6_tell 27 = .ok (.iload_n 1, 1) := by decide +kernel
theorem dX6_tell_28 : decode cX6_tell 28 = .ok (.isub, 1) := by decide +kernel
theorem dX6_tell_29 : decode cX6_tell 29 = .ok (.ireturn, 1) := by decide +kernel
theorem dX6_tell_30 : decode cX6_tell 30 = .ok (.aload_n 0, 1) := by decide +kernel
theorem dX6_tell_31 : decode cX6_tell 31 = .ok (.aload_n 0, 1) := by decide +kernel
theorem dX6_tell_32 : decode cX6_tell 32 = .ok (.getfield 24, 3) := by decide +kernel
theorem dX6_tell_35 : decode cX6_tell 35 = .ok (.invokevirtual 80, 3) := by decide +kernel
theorem dX6_tell_38 : decode cX6_tell 38 = .ok (.aload_n 0, 1) := by decide +kernel
theorem dX6_tell_39 : decode cX6_tell 39 = .ok (.getfield 20, 3) := by decide +kernel
theorem dX6_tell_42 : decode cX6_tell 42 = .ok (.getfield 83, 3) := by decide +kernel
theorem dX6_tell_45 : decode cX6_tell 45 = .ok (.ireturn, 1) := by decide +kernel
set_option maxRecDepth 100000 in
theorem pq0 : Cond.selects RX6 yX6_tapeNumber yX6_tapeNumber ∈ pw := pw_mem (i := 0) (by decide +kernel) rfl
set_option maxRecDepth 100000 in
theorem pq349 : Cond.fieldLink RX6 9 "MaskTouch" "tape" "[B" ∈ pw := pw_mem (i := 349) (by decide +kernel) rfl
set_option maxRecDepth 100000 in
theorem pq352 : Cond.fieldLink RX6 24 "MaskTouch" "draft" "LMaskTouch$Field;" ∈ pw := pw_mem (i := 352) (by decide +kernel) rfl
set_option maxRecDepth 100000 in
theorem pq353 : Cond.fieldLink RX6 32 "MaskTouch" "reader" "LMaskTouch$Reader;" ∈ pw := pw_mem (i := 353) (by decide +kernel) rfl
set_option maxRecDepth 100000 in
theorem pq390 : Cond.methodLink RX6 72 yX6_tapeNumber ∈ pw := pw_mem (i := 390) (by decide +kernel) rfl
set_option maxRecDepth 100000 in
theorem pq392 : Cond.instanceMethod yX6_tapeNumber ∈ pw := pw_mem (i := 392) (by decide +kernel) rfl
set_option maxRecDepth 100000 in
theorem pq393 : Cond.code yX6_tapeNumber cX6_tapeNumber 3 none ∈ pw := pw_mem (i := 393) (by rfl) rfl
set_option maxRecDepth 100000 in
theorem pq402 : Cond.methodLink RX6 76 yX4_readField ∈ pw := pw_mem (i := 402) (by decide +kernel) rfl
set_option maxRecDepth 100000 in
theorem pq403 : Cond.instanceMethod yX4_readField ∈ pw := pw_mem (i := 403) (by decide +kernel) rfl
set_option maxRecDepth 100000 in
theorem pq404 : Cond.selects RX4 yX4_readField yX4_readField ∈ pw := pw_mem (i := 404) (by decide +kernel) rfl
set_option maxRecDepth 100000 in
theorem pq405 : Cond.code yX4_readField cX4_readField 5 (some .int) ∈ pw := pw_mem (i := 405) (by rfl) rfl
set_option maxHeartbeats 4000000 in
set_option maxRecDepth 100000 in
theorem s_X6_tapeNumber (l : Launch) (dC : Nat → ClassId) (dI : Nat → Nat → Nat) (cs : Nat → ClassId) (L : List Nat) (K G : Nat → Nat) (Q : Nat → Nat → Option Nat) (hQ : Sv L K G Q) (x0 m0 : Nat) (tx : GT) (tm : GT × Int) (sz : Nat) (I : Nat → Nat → Int32) (J : Nat → Nat → Int64) (hI : Iv L K x0 m0 (I x0 1, tx.2.1, I tx.2.1) tm I) (p0 : Nat) (hLp0 : p0 ∈ L) (hKp0 : K p0 = 6) (p1 : Int32) (ht : (I p0 1).toInt + 4 ≤ 400) : Met l yX6_tapeNumber (.code yX6_tapeNumber cX6_tapeNumber 3 none :: pw) ({ frames := 0, cells := 0, slots := 0, locals := 0 }) (sP (dC, dI) cs [.ref p0, .int p1] sz L K I J Q) (va_Qv (fun (_ : Unit) => True) (fun _ t => sB (dC, dI) cs L K Q (fun I1 J1 => Iv L K x0 m0 (I1 x0 1, tx.2.1, I1 tx.2.1) tm I1 ∧ ((I1 p0 1).toInt = (I p0 1).toInt + 4) ∧ I1 tx.2.1 = w4 (I tx.2.1) (I p0 1).toInt.toNat p1 4 ∧ (∀ b, K b = 7 ∨ K b = 18 ∨ K b = 19 ∨ K b = 20 ∨ K b = 24 → I1 b = I b) ∧ (∀ σ : Sx, cxA Q I J p0 σ → cxA Q I1 J1 p0 σ) ∧ J1 = J) t) (fun q => q ∈ L ∨ sz ≤ q)) 0 0 (fun q => q ∈ L ∨ sz ≤ q) := by
  refine Met.ofW (cc := cX6_tapeNumber) (maxL := 3) (ret := none) (by decide +kernel) rfl ?_
  intro p e s m args below meth c s₁ B hml hv
  obtain ⟨rfl, hsz, hP, hK, hD0, hN⟩ := hv
  have hx := B.exec
  have hb := B.bytes
  have hr := B.returns
  have hts := fun w (h : w ∈ pw) => atoms_spec (ws := Cond.code yX6_tapeNumber cX6_tapeNumber 3 none :: pw) B.pre w (List.mem_cons_of_mem _ h)
  have hown : s.vm.findClass RX6 = some m.cls := findClass_of_methodNamed B.named
  have hlocks := B.notSynchronized
  subst hsz
  have hBB : 999 ≤ tm.2 ∧ tm.2 ≤ 6000000 := hI.2.2.2.2.1
  have dn_I : (∀ b, K b = 7 ∨ K b = 18 ∨ K b = 19 ∨ K b = 20 ∨ K b = 24 → I b = I b) := fun _ _ => rfl
  have dj_J : J = J := rfl
  obtain ⟨A, hAe⟩ : ∃ A : Nat → Prop, A = (fun q => q ∈ L ∨ s.heap.size ≤ q) := ⟨_, rfl⟩
  rw [← hAe]
  have hAL : ∀ q, q ∈ L → A q := fun q h => by rw [hAe]; exact Or.inl h
  have hA : ∀ q, s.heap.size ≤ q → A q := fun q h => by rw [hAe]; exact Or.inr h
  have hD : ∀ F, va_D A (va_pl L F) := fun F => (hD0 F).weaken (fun k q hk _ => hAL _ (pl_mem hk))
  obtain ⟨H, hHe⟩ : ∃ H : Heap, H = s.heap := ⟨_, rfl⟩
  have hS : va_S A s.heap H [] := by rw [hHe]; exact va_S.rf
  rw [← hHe] at hP
  have hl := lv_entry ([.ref p0, .int p1]) (n := 3) (Nat.le_of_ble_eq_true rfl)
  rw [lg_entry_eq]
  generalize (lg_sl ([.ref p0, .int p1]) ++ List.replicate (3 - (lg_sl ([.ref p0, .int p1])).length) Slot.unset).toArray = ls at hl ⊢
  have hl : lv_has ls 3 [(0, .ref p0), (1, .int p1)] := hl
  rw [← hHe]
  refine namedW (fun R Qz hR hQz => ?_)
  have b1i := oI_6_1 (Iv_at hI hLp0 hKp0)
  refine lv_bipush (v := 24) hx hb dX6_tapeNumber_0 (by decide +kernel) ?_
  refine lv_istore_n (lv' := [(2, .int 24), (0, .ref p0), (1, .int p1)]) hx hb dX6_tapeNumber_2 rfl hl (by decide) rfl (fun ls hl => ?_)
  have key3 := blocks (fun n => ∀ (v3_2 : Int32) (I3 : Nat → Nat → Int32) (H : Heap) (lo : List Loc) (ls : Array Slot), (v3_2.toInt - (-9)).toNat = n → ((-8) ≤ v3_2.toInt ∧ v3_2.toInt ≤ 24) → Iv L K x0 m0 (I3 x0 1, tx.2.1, I3 tx.2.1) tm I3 → (∀ b, K b = 7 ∨ K b = 18 ∨ K b = 19 ∨ K b = 20 ∨ K b = 24 → I3 b = I b) → 8 * ((I3 p0 1).toInt - (I p0 1).toInt) = 24 - v3_2.toInt → I3 tx.2.1 = w4 (I tx.2.1) (I p0 1).toInt.toNat p1 ((I3 p0 1).toInt - (I p0 1).toInt).toNat → (∀ σ : Sx, cxA Q I J p0 σ → cxA Q I3 J p0 σ) → va_P (dC, dI) vwCl (Wd cs L K I3 J Q) H → va_S A s.heap H lo → lv_has ls 3 [(0, .ref p0), (1, .int p1), (2, .int v3_2)] → W p l e R s m (([.ref p0, .int p1] : List Value).toArray) below meth c H lo 0 0 Qz (F0 m 3 ls [])) (by
    intro n ih3
    intro v3_2 I3 H lo ls hmu3 bv3_2 hI3 dn_I3 hw hw4 hw5 hP hS hl
    refine lv_iload_n hx hb dX6_tapeNumber_3 rfl (lv_at hl 2 rfl) ?_
    refine lv_if_lt (tgt := 46) hx hb dX6_tapeNumber_4 (by decide) (fun c4 => ?_) (fun c4 => ?_)
    · have t4 := tq_lt (k := v3_2.toInt) (q := (0)) c4 rfl (by decide +kernel)
      subst hR; subst hQz
      exact W.vret hx hb hr (fun t ht hW => ⟨⟨(), rfl, trivial, ⟨I3, J, ⟨hI3, (by omega), (by rw [hw4, show ((I3 p0 1).toInt - (I p0 1).toInt).toNat = 4 by omega]), dn_I3, hw5, dj_J⟩, by rw [ht]; exact hP⟩⟩, hS.F ht⟩) hS.2.2 dX6_tapeNumber_46
    · have t4 := tq_nlt (k := v3_2.toInt) (q := (0)) c4 rfl (by decide +kernel)
      refine lv_aload_n hx hb dX6_tapeNumber_7 rfl (lv_at hl 0 rfl) ?_
      refine p_get hx hb hts inX6 hown hK hP hLp0 hKp0 rfl rfl 1 (by decide) (hts _ pq350) rfl dX6_tapeNumber_8 ?_
      refine lv_topi (fun z8 ez8 => ?_)
      have cgz8 := congrArg Int32.toInt ez8
      have bz8 := oI_6_1 (Iv_at hI3 hLp0 hKp0)
      rw [← ez8] at bz8
      refine lv_sipush (v := 400) hx hb dX6_tapeNumber_11 (by decide +kernel) ?_
      refine lv_icmp_ge (tgt := 46) hx hb dX6_tapeNumber_14 (by decide) (fun c14 => ?_) (fun c14 => ?_)
      · have t14 := tq_le (k := (400)) (q := z8.toInt) c14 (by decide +kernel) rfl
        subst hR; subst hQz
        exact W.vret hx hb hr (fun t ht hW => ⟨⟨(), rfl, trivial, ⟨I3, J, ⟨hI3, (by omega), (by rw [hw4, show ((I3 p0 1).toInt - (I p0 1).toInt).toNat = 4 by omega]), dn_I3, hw5, dj_J⟩, by rw [ht]; exact hP⟩⟩, hS.F ht⟩) hS.2.2 dX6_tapeNumber_46
      · have t14 := tq_nle (k := (400)) (q := z8.toInt) c14 (by decide +kernel) rfl
        refine lv_aload_n hx hb dX6_tapeNumber_17 rfl (lv_at hl 0 rfl) ?_
        obtain ⟨y18, ey18, hLy18, hKy18⟩ := oQ_6_0 (Sv_at hQ hLp0 hKp0)
        refine p_get (v := .ref y18) hx hb hts inX6 hown hK hP hLp0 hKp0 rfl rfl 0 (by decide) (hts _ pq349) (congrArg (fun q => some (va_rf q)) ey18) dX6_tapeNumber_18 ?_
        have ety : y18 = tx.2.1 := (hI3.2.2.2.2.2.1 y18 hLy18 hKy18).1
        have hne0 := tpXn hQ hI3 hLp0 hKp0
        have hne : ¬ tx.2.1 = p0 := hne0
        refine lv_aload_n hx hb dX6_tapeNumber_21 rfl (lv_at hl 0 rfl) ?_
        refine p_get hx hb hts inX6 hown hK hP hLp0 hKp0 rfl rfl 1 (by decide) (hts _ pq350) rfl dX6_tapeNumber_22 ?_
        refine lv_topi (fun z22 ez22 => ?_)
        obtain rfl : z8 = z22 := ez8.trans ez22.symm
        refine lv_iload_n hx hb dX6_tapeNumber_25 rfl (lv_at hl 1 rfl) ?_
        refine lv_iload_n hx hb dX6_tapeNumber_26 rfl (lv_at hl 2 rfl) ?_
        refine lv_ishr hx hb dX6_tapeNumber_27 ?_
        refine lv_topi (fun z27 ez27 => ?_)
        refine lv_i2b hx hb dX6_tapeNumber_28 rfl ?_
        refine lv_topi (fun z28 ez28 => ?_)
        refine p_bast hx hb hK hP hD hS 0 hLy18 hKy18 rfl (fun _ => rfl) rfl (in_of (by omega) (by omega)) dX6_tapeNumber_29 (fun H locs hP hS => ?_)
        obtain ⟨Iz29, hP, hIz29, qIz29⟩ : ∃ Iz29, va_P (dC, dI) vwCl (Wd cs L K Iz29 J Q) H ∧ Iv L K x0 m0 (Iz29 x0 1, tx.2.1, Iz29 tx.2.1) tm Iz29 ∧ Iz29 = va_up I3 y18 (upd (I3 y18) z8.toNatClampNeg (vp_nar .byte z28)) := ⟨_, hP, Iv_putx hI3 hKy18 (show okI _ 10 _ from trivial) trivial (Or.inl (by decide)) (fun _ => narB _), rfl⟩
        have dn_Iz29 : (∀ b, K b = 7 ∨ K b = 18 ∨ K b = 19 ∨ K b = 20 ∨ K b = 24 → Iz29 b = I b) := fun b hc => (congrFun qIz29 b).trans ((va_up_ne _ _ (fun z => by have q := hKy18; rw [← z] at q; omega)).trans (dn_I3 b hc))
        refine lv_aload_n hx hb dX6_tapeNumber_30 rfl (lv_at hl 0 rfl) ?_
        refine lv_dup hx hb dX6_tapeNumber_31 rfl ?_
        refine p_get hx hb hts inX6 hown hK hP hLp0 hKp0 rfl rfl 1 (by decide) (hts _ pq350) rfl dX6_tapeNumber_32 ?_
        refine lv_topi (fun z32 ez32 => ?_)
        obtain rfl : z8 = z32 := by rw [ez32, qIz29, va_up_ne _ _ (ne_k hKp0 hKy18 (by decide))]; exact ez8
        have ez8x32 := ez32
        refine lv_iconst (v := 1) hx hb dX6_tapeNumber_35 (by decide +kernel) ?_
        refine lv_iadd hx hb dX6_tapeNumber_36 ?_
        refine lv_topi (fun z36 ez36 => ?_)
        have bz36 := tq_add (k := z8.toInt) (q := (1)) ez36 rfl (by decide +kernel) (by omega) (by omega)
        refine p_put hx hb hts inX6 tyX6 tyX6_ok nmX6 hown hK hP hD hS hLp0 hKp0 rfl rfl 1 (by decide) (hts _ pq350) rfl (by decide +kernel) (Nat.le_of_ble_eq_true rfl) (oS_6_1 cs _ _ _ _) dX6_tapeNumber_37 (fun H locs hP hS => ?_)
        obtain ⟨Iz37, hP, hIz37, qIz37⟩ : ∃ Iz37, va_P (dC, dI) vwCl (Wd cs L K Iz37 J Q) H ∧ Iv L K x0 m0 (Iz37 x0 1, tx.2.1, Iz37 tx.2.1) tm Iz37 ∧ Iz37 = va_up Iz29 p0 (upd (Iz29 p0) 1 z36) := ⟨_, hP, Iv_putx hIz29 hKp0 (oP_6_1 (Iv_at hIz29 hLp0 hKp0) ⟨by omega, by omega⟩) (by decide) (by decide), rfl⟩
        have dn_Iz37 : (∀ b, K b = 7 ∨ K b = 18 ∨ K b = 19 ∨ K b = 20 ∨ K b = 24 → Iz37 b = I b) := fun b hc => (congrFun qIz37 b).trans ((va_up_ne _ _ (fun z => by have q := hKp0; rw [← z] at q; omega)).trans (dn_Iz29 b hc))
        obtain ⟨z40, ez40⟩ : ∃ y : Int32, y = v3_2 + (-8) := ⟨_, rfl⟩
        refine lv_iinc (v := z40) (lv' := [(2, .int z40), (0, .ref p0), (1, .int p1)]) hx hb dX6_tapeNumber_40 hl (k := 2) rfl (by rw [ez40]; rfl) (by decide) rfl (fun ls hl => ?_)
        have bz40 := tq_add (k := v3_2.toInt) (q := (-8)) ez40 rfl (by decide +kernel) (by omega) (by omega)
        refine lv_goto (tgt := 3) hx hb dX6_tapeNumber_43 (by decide) ?_
        exact ih3 _ (by omega) z40 Iz37 _ _ _ rfl ⟨by omega, by omega⟩ hIz37 dn_Iz37 (by rw [qIz37, rz_at]; omega) (by rw [show Iz37 tx.2.1 = upd (I3 tx.2.1) z8.toNatClampNeg (vp_nar .byte z28) by rw [qIz37, va_up_ne _ _ hne, qIz29, ety, va_up_self]]; exact w4_step (s := v3_2) hw4 (by omega) (by rw [ez28, ez27]) (by show z8.toInt.toNat = _; omega) (by rw [qIz37, rz_at]; omega)) (fun σ h => cxA_tp hQ hLp0 hKp0 qIz37 (cxA_ta hQ hLp0 hKp0 hKy18 qIz29 (hw5 σ h))) hP hS (lv_sub hl [1, 2, 0] rfl))
  exact key3 _ 24 I _ _ _ rfl ⟨by decide +kernel, by decide +kernel⟩ hI dn_I (by rw [show (24 : Int32).toInt = 24 from by decide +kernel]; omega) (by rw [Int.sub_self]; rfl) (fun _ h => h) hP hS (lv_sub hl [1, 2, 0] rfl)

set_option maxHeartbeats 4000000 in
set_option maxRecDepth 100000 in
theorem s_X6_feed (l : Launch) (dC : Nat → ClassId) (dI : Nat → Nat → Nat) (cs : Nat → ClassId) (L : List Nat) (K G : Nat → Nat) (Q : Nat → Nat → Option Nat) (hQ : Sv L K G Q) (x0 m0 : Nat) (tx : GT) (tm : GT × Int) (sz : Nat) (I : Nat → Nat → Int32) (J : Nat → Nat → Int64) (hI : Iv L K x0 m0 (I x0 1, tx.2.1, I tx.2.1) tm I) (p0 : Nat) (hLp0 : p0 ∈ L) (hKp0 : K p0 = 6) (p1 : Int32) (p2 : Int32) (p3 : Int32) (p4 : Int32) (p5 : Int32) : Met l yX6_feed (.code yX6_feed cX6_feed 6 (some .int) :: pw) ({ frames := 1, cells := 0, slots := 0, locals := 22 }) (sP (dC, dI) cs [.ref p0, .int p1, .int p2, .int p3, .int p4, .int p5] sz L K I J Q) (va_Qi (fun (r : Int32) (u : Int32) => u = r ∧ True) (fun u t => sB (dC, dI) cs L K Q (fun I1 J1 => Iv L K x0 m0 (I1 x0 1, tx.2.1, I1 tx.2.1) tm I1 ∧ ((400 < (I p0 1).toInt + 20 → u.toInt = -1 ∧ (I1 p0 1).toInt = (I p0 1).toInt) ∧ ((I p0 1).toInt + 20 ≤ 400 → u.toInt = (I p0 1).toInt + 20 ∧ (I1 p0 1).toInt = (I p0 1).toInt + 20)) ∧ ((400 < (I p0 1).toInt + 20 → I1 tx.2.1 = I tx.2.1) ∧ ((I p0 1).toInt + 20 ≤ 400 → I1 tx.2.1 = fd5 (I tx.2.1) (I p0 1).toInt.toNat p1 p2 p3 p4 p5)) ∧ (∀ b, K b = 7 ∨ K b = 18 ∨ K b = 19 ∨ K b = 20 ∨ K b = 24 → I1 b = I b) ∧ (∀ σ : Sx, cxA Q I J p0 σ → cxA Q I1 J1 p0 σ) ∧ J1 = J) t) (fun q => q ∈ L ∨ sz ≤ q)) 0 0 (fun q => q ∈ L ∨ sz ≤ q) := by
  refine Met.ofW (cc := cX6_feed) (maxL := 6) (ret := (some .int)) (by decide +kernel) rfl ?_
  intro p e s m args below meth c s₁ B hml hv
  obtain ⟨rfl, hsz, hP, hK, hD0, hN⟩ := hv
  have hx := B.exec
  have hb := B.bytes
  have hr := B.returns
  have hts := fun w (h : w ∈ pw) => atoms_spec (ws := Cond.code yX6_feed cX6_feed 6 (some .int) :: pw) B.pre w (List.mem_cons_of_mem _ h)
  have hown : s.vm.findClass RX6 = some m.cls := findClass_of_methodNamed B.named
  have hlocks := B.notSynchronized
  subst hsz
  have hBB : 999 ≤ tm.2 ∧ tm.2 ≤ 6000000 := hI.2.2.2.2.1
  have dn_I : (∀ b, K b = 7 ∨ K b = 18 ∨ K b = 19 ∨ K b = 20 ∨ K b = 24 → I b = I b) := fun _ _ => rfl
  have dj_J : J = J := rfl
  obtain ⟨A, hAe⟩ : ∃ A : Nat → Prop, A = (fun q => q ∈ L ∨ s.heap.size ≤ q) := ⟨_, rfl⟩
  rw [← hAe]
  have hAL : ∀ q, q ∈ L → A q := fun q h => by rw [hAe]; exact Or.inl h
  have hA : ∀ q, s.heap.size ≤ q → A q := fun q h => by rw [hAe]; exact Or.inr h
  have hD : ∀ F, va_D A (va_pl L F) := fun F => (hD0 F).weaken (fun k q hk _ => hAL _ (pl_mem hk))
  obtain ⟨H, hHe⟩ : ∃ H : Heap, H = s.heap := ⟨_, rfl⟩
  have hS : va_S A s.heap H [] := by rw [hHe]; exact va_S.rf
  rw [← hHe] at hP
  have hl := lv_entry ([.ref p0, .int p1, .int p2, .int p3, .int p4, .int p5]) (n := 6) (Nat.le_of_ble_eq_true rfl)
  rw [lg_entry_eq]
  generalize (lg_sl ([.ref p0, .int p1, .int p2, .int p3, .int p4, .int p5]) ++ List.replicate (6 - (lg_sl ([.ref p0, .int p1, .int p2, .int p3, .int p4, .int p5])).length) Slot.unset).toArray = ls at hl ⊢
  have hl : lv_has ls 6 [(0, .ref p0), (1, .int p1), (2, .int p2), (3, .int p3), (4, .int p4), (5, .int p5)] := hl
  rw [← hHe]
  refine namedW (fun R Qz hR hQz => ?_)
  refine lv_aload_n hx hb dX6_feed_0 rfl (lv_at hl 0 rfl) ?_
  refine p_get hx hb hts inX6 hown hK hP hLp0 hKp0 rfl rfl 1 (by decide) (hts _ pq350) rfl dX6_feed_1 ?_
  refine lv_topi (fun z1 ez1 => ?_)
  have cgz1 := congrArg Int32.toInt ez1
  have bz1 := oI_6_1 (Iv_at hI hLp0 hKp0)
  rw [← ez1] at bz1
  refine lv_bipush (v := 20) hx hb dX6_feed_4 (by decide +kernel) ?_
  refine lv_iadd hx hb dX6_feed_6 ?_
  refine lv_topi (fun z6 ez6 => ?_)
  have bz6 := tq_add (k := z1.toInt) (q := (20)) ez6 rfl (by decide +kernel) (by omega) (by omega)
  refine lv_sipush (v := 400) hx hb dX6_feed_7 (by decide +kernel) ?_
  refine lv_icmp_le (tgt := 15) hx hb dX6_feed_10 (by decide) (fun c10 => ?_) (fun c10 => ?_)
  · have t10 := tq_le (k := z6.toInt) (q := (400)) c10 rfl (by decide +kernel)
    refine lv_aload_n hx hb dX6_feed_15 rfl (lv_at hl 0 rfl) ?_
    refine lv_iload_n hx hb dX6_feed_16 rfl (lv_at hl 1 rfl) ?_
    refine sw_v (Z := (fun I1 J1 => Iv L K x0 m0 (I1 x0 1, tx.2.1, I1 tx.2.1) tm I1 ∧ ((I1 p0 1).toInt = (I p0 1).toInt + 4) ∧ I1 tx.2.1 = w4 (I tx.2.1) (I p0 1).toInt.toNat p1 4 ∧ (∀ b, K b = 7 ∨ K b = 18 ∨ K b = 19 ∨ K b = 20 ∨ K b = 24 → I1 b = I b) ∧ (∀ σ : Sx, cxA Q I J p0 σ → cxA Q I1 J1 p0 σ) ∧ J1 = J)) (va_runV (As := [.int p1]) (rest := []) ⟨hx, hb, hml, hown, hts⟩ (s_X6_tapeNumber l dC dI cs L K G Q hQ x0 m0 tx tm H.size I J hI p0 hLp0 hKp0 p1 (by omega)) (cwV 1 hts (gV pq390 pq392 pq0 pq74 pq393) rfl rfl rfl (by decide +kernel) ⟨(by rw [hR]; exact (Nat.le_of_ble_eq_true rfl)), (by rw [hR]; exact (Nat.le_of_ble_eq_true rfl))⟩) (sP_V hP hD hK hN hLp0 hKp0 rfl rfl) rfl rfl hl.1 rfl (lv_room (Nat.le_of_ble_eq_true rfl)) dX6_feed_17 ⟨(by rw [hR]; exact (Nat.le_of_ble_eq_true rfl)), (by rw [hR]; exact (Nat.le_of_ble_eq_true rfl))⟩) hS hAL hA (fun Iz17 Jz17 H locs hz17 hIz17 hP hS => ?_)
    obtain ⟨hIz17, zp17, fz17, dnc17, jz17, djc17⟩ := hIz17
    obtain rfl : J = Jz17 := djc17.symm
    have dn_Iz17 : (∀ b, K b = 7 ∨ K b = 18 ∨ K b = 19 ∨ K b = 20 ∨ K b = 24 → Iz17 b = I b) := fun b hc => (dnc17 b (by omega)).trans (dn_I b hc)
    refine lv_aload_n hx hb dX6_feed_20 rfl (lv_at hl 0 rfl) ?_
    refine lv_iload_n hx hb dX6_feed_21 rfl (lv_at hl 2 rfl) ?_
    refine sw_v (Z := (fun I1 J1 => Iv L K x0 m0 (I1 x0 1, tx.2.1, I1 tx.2.1) tm I1 ∧ ((I1 p0 1).toInt = (Iz17 p0 1).toInt + 4) ∧ I1 tx.2.1 = w4 (Iz17 tx.2.1) (Iz17 p0 1).toInt.toNat p2 4 ∧ (∀ b, K b = 7 ∨ K b = 18 ∨ K b = 19 ∨ K b = 20 ∨ K b = 24 → I1 b = Iz17 b) ∧ (∀ σ : Sx, cxA Q Iz17 J p0 σ → cxA Q I1 J1 p0 σ) ∧ J1 = J)) (va_runV (As := [.int p2]) (rest := []) ⟨hx, hb, hml, hown, hts⟩ (s_X6_tapeNumber l dC dI cs L K G Q hQ x0 m0 tx tm H.size Iz17 J hIz17 p0 hLp0 hKp0 p2 (by omega)) (cwV 1 hts (gV pq390 pq392 pq0 pq74 pq393) rfl rfl rfl (by decide +kernel) ⟨(by rw [hR]; exact (Nat.le_of_ble_eq_true rfl)), (by rw [hR]; exact (Nat.le_of_ble_eq_true rfl))⟩) (sP_V hP hD hK hN hLp0 hKp0 rfl rfl) rfl rfl hl.1 rfl (lv_room (Nat.le_of_ble_eq_true rfl)) dX6_feed_22 ⟨(by rw [hR]; exact (Nat.le_of_ble_eq_true rfl)), (by rw [hR]; exact (Nat.le_of_ble_eq_true rfl))⟩) hS hAL hA (fun Iz22 Jz22 H locs hz22 hIz22 hP hS => ?_)
    obtain ⟨hIz22, zp22, fz22, dnc22, jz22, djc22⟩ := hIz22
    obtain rfl : J = Jz22 := djc22.symm
    have dn_Iz22 : (∀ b, K b = 7 ∨ K b = 18 ∨ K b = 19 ∨ K b = 20 ∨ K b = 24 → Iz22 b = I b) := fun b hc => (dnc22 b (by omega)).trans (dn_Iz17 b hc)
    refine lv_aload_n hx hb dX6_feed_25 rfl (lv_at hl 0 rfl) ?_
    refine lv_iload_n hx hb dX6_feed_26 rfl (lv_at hl 3 rfl) ?_
    refine sw_v (Z := (fun I1 J1 => Iv L K x0 m0 (I1 x0 1, tx.2.1, I1 tx.2.1) tm I1 ∧ ((I1 p0 1).toInt = (Iz22 p0 1).toInt + 4) ∧ I1 tx.2.1 = w4 (Iz22 tx.2.1) (Iz22 p0 1).toInt.toNat p3 4 ∧ (∀ b, K b = 7 ∨ K b = 18 ∨ K b = 19 ∨ K b = 20 ∨ K b = 24 → I1 b = Iz22 b) ∧ (∀ σ : Sx, cxA Q Iz22 J p0 σ → cxA Q I1 J1 p0 σ) ∧ J1 = J)) (va_runV (As := [.int p3]) (rest := []) ⟨hx, hb, hml, hown, hts⟩ (s_X6_tapeNumber l dC dI cs L K G Q hQ x0 m0 tx tm H.size Iz22 J hIz22 p0 hLp0 hKp0 p3 (by omega)) (cwV 1 hts (gV pq390 pq392 pq0 pq74 pq393) rfl rfl rfl (by decide +kernel) ⟨(by rw [hR]; exact (Nat.le_of_ble_eq_true rfl)), (by rw [hR]; exact (Nat.le_of_ble_eq_true rfl))⟩) (sP_V hP hD hK hN hLp0 hKp0 rfl rfl) rfl rfl hl.1 rfl (lv_room (Nat.le_of_ble_eq_true rfl)) dX6_feed_27 ⟨(by rw [hR]; exact (Nat.le_of_ble_eq_true rfl)), (by rw [hR]; exact (Nat.le_of_ble_eq_true rfl))⟩) hS hAL hA (fun Iz27 Jz27 H locs hz27 hIz27 hP hS => ?_)
    obtain ⟨hIz27, zp27, fz27, dnc27, jz27, djc27⟩ := hIz27
    obtain rfl : J = Jz27 := djc27.symm
    have dn_Iz27 : (∀ b, K b = 7 ∨ K b = 18 ∨ K b = 19 ∨ K b = 20 ∨ K b = 24 → Iz27 b = I b) := fun b hc => (dnc27 b (by omega)).trans (dn_Iz22 b hc)
    refine lv_aload_n hx hb dX6_feed_30 rfl (lv_at hl 0 rfl) ?_
    refine lv_iload hx hb dX6_feed_31 (lv_at hl 4 rfl) ?_
    refine sw_v (Z := (fun I1 J1 => Iv L K x0 m0 (I1 x0 1, tx.2.1, I1 tx.2.1) tm I1 ∧ ((I1 p0 1).toInt = (Iz27 p0 1).toInt + 4) ∧ I1 tx.2.1 = w4 (Iz27 tx.2.1) (Iz27 p0 1).toInt.toNat p4 4 ∧ (∀ b, K b = 7 ∨ K b = 18 ∨ K b = 19 ∨ K b = 20 ∨ K b = 24 → I1 b = Iz27 b) ∧ (∀ σ : Sx, cxA Q Iz27 J p0 σ → cxA Q I1 J1 p0 σ) ∧ J1 = J)) (va_runV (As := [.int p4]) (rest := []) ⟨hx, hb, hml, hown, hts⟩ (s_X6_tapeNumber l dC dI cs L K G Q hQ x0 m0 tx tm H.size Iz27 J hIz27 p0 hLp0 hKp0 p4 (by omega)) (cwV 1 hts (gV pq390 pq392 pq0 pq74 pq393) rfl rfl rfl (by decide +kernel) ⟨(by rw [hR]; exact (Nat.le_of_ble_eq_true rfl)), (by rw [hR]; exact (Nat.le_of_ble_eq_true rfl))⟩) (sP_V hP hD hK hN hLp0 hKp0 rfl rfl) rfl rfl hl.1 rfl (lv_room (Nat.le_of_ble_eq_true rfl)) dX6_feed_33 ⟨(by rw [hR]; exact (Nat.le_of_ble_eq_true rfl)), (by rw [hR]; exact (Nat.le_of_ble_eq_true rfl))⟩) hS hAL hA (fun Iz33 Jz33 H locs hz33 hIz33 hP hS => ?_)
    obtain ⟨hIz33, zp33, fz33, dnc33, jz33, djc33⟩ := hIz33
    obtain rfl : J = Jz33 := djc33.symm
    have dn_Iz33 : (∀ b, K b = 7 ∨ K b = 18 ∨ K b = 19 ∨ K b = 20 ∨ K b = 24 → Iz33 b = I b) := fun b hc => (dnc33 b (by omega)).trans (dn_Iz27 b hc)
    refine lv_aload_n hx hb dX6_feed_36 rfl (lv_at hl 0 rfl) ?_
    refine lv_iload hx hb dX6_feed_37 (lv_at hl 5 rfl) ?_
    refine sw_v (Z := (fun I1 J1 => Iv L K x0 m0 (I1 x0 1, tx.2.1, I1 tx.2.1) tm I1 ∧ ((I1 p0 1).toInt = (Iz33 p0 1).toInt + 4) ∧ I1 tx.2.1 = w4 (Iz33 tx.2.1) (Iz33 p0 1).toInt.toNat p5 4 ∧ (∀ b, K b = 7 ∨ K b = 18 ∨ K b = 19 ∨ K b = 20 ∨ K b = 24 → I1 b = Iz33 b) ∧ (∀ σ : Sx, cxA Q Iz33 J p0 σ → cxA Q I1 J1 p0 σ) ∧ J1 = J)) (va_runV (As := [.int p5]) (rest := []) ⟨hx, hb, hml, hown, hts⟩ (s_X6_tapeNumber l dC dI cs L K G Q hQ x0 m0 tx tm H.size Iz33 J hIz33 p0 hLp0 hKp0 p5 (by omega)) (cwV 1 hts (gV pq390 pq392 pq0 pq74 pq393) rfl rfl rfl (by decide +kernel) ⟨(by rw [hR]; exact (Nat.le_of_ble_eq_true rfl)), (by rw [hR]; exact (Nat.le_of_ble_eq_true rfl))⟩) (sP_V hP hD hK hN hLp0 hKp0 rfl rfl) rfl rfl hl.1 rfl (lv_room (Nat.le_of_ble_eq_true rfl)) dX6_feed_39 ⟨(by rw [hR]; exact (Nat.le_of_ble_eq_true rfl)), (by rw [hR]; exact (Nat.le_of_ble_eq_true rfl))⟩) hS hAL hA (fun Iz39 Jz39 H locs hz39 hIz39 hP hS => ?_)
    obtain ⟨hIz39, zp39, fz39, dnc39, jz39, djc39⟩ := hIz39
    obtain rfl : J = Jz39 := djc39.symm
    have dn_Iz39 : (∀ b, K b = 7 ∨ K b = 18 ∨ K b = 19 ∨ K b = 20 ∨ K b = 24 → Iz39 b = I b) := fun b hc => (dnc39 b (by omega)).trans (dn_Iz33 b hc)
    refine lv_aload_n hx hb dX6_feed_42 rfl (lv_at hl 0 rfl) ?_
    refine p_get hx hb hts inX6 hown hK hP hLp0 hKp0 rfl rfl 1 (by decide) (hts _ pq350) rfl dX6_feed_43 ?_
    refine lv_topi (fun z43 ez43 => ?_)
    have cgz43 := congrArg Int32.toInt ez43
    have bz43 := oI_6_1 (Iv_at hIz39 hLp0 hKp0)
    rw [← ez43] at bz43
    subst hR; subst hQz
    exact W.iret (v := z43) hx hb hr (fun t ht hW => ⟨⟨z43, z43, rfl, ⟨rfl, trivial⟩, ⟨Iz39, J, ⟨hIz39, ⟨fun h => absurd h (by omega), fun h => ⟨by omega, by omega⟩⟩, ⟨fun h => absurd h (by omega), fun _ => by rw [fz39, fz33, fz27, fz22, fz17]; rw [show (Iz17 p0 1).toInt.toNat = (I p0 1).toInt.toNat + 4 by omega]; rw [show (Iz22 p0 1).toInt.toNat = (I p0 1).toInt.toNat + 8 by omega]; rw [show (Iz27 p0 1).toInt.toNat = (I p0 1).toInt.toNat + 12 by omega]; rw [show (Iz33 p0 1).toInt.toNat = (I p0 1).toInt.toNat + 16 by omega]; unfold fd5; rfl⟩, dn_Iz39, (fun σ h => jz39 σ (jz33 σ (jz27 σ (jz22 σ (jz17 σ h))))), dj_J⟩, by rw [ht]; exact hP⟩⟩, hS.F ht⟩) hS.2.2 dX6_feed_46
  · have t10 := tq_nle (k := z6.toInt) (q := (400)) c10 rfl (by decide +kernel)
    refine lv_iconst (v := (-1)) hx hb dX6_feed_13 (by decide +kernel) ?_
    subst hR; subst hQz
    exact W.iret (v := (-1)) hx hb hr (fun t ht hW => ⟨⟨(-1), (-1), rfl, ⟨rfl, trivial⟩, ⟨I, J, ⟨hI, ⟨fun h => ⟨by decide +kernel, rfl⟩, fun h => absurd h (by omega)⟩, ⟨fun _ => rfl, fun h => absurd h (by omega)⟩, dn_I, (fun _ h => h), dj_J⟩, by rw [ht]; exact hP⟩⟩, hS.F ht⟩) hS.2.2 dX6_feed_14

set_option maxHeartbeats 4000000 in
set_option maxRecDepth 100000 in
theorem s_X6_end (l : Launch) (dC : Nat → ClassId) (dI : Nat → Nat → Nat) (cs : Nat → ClassId) (L : List Nat) (K G : Nat → Nat) (Q : Nat → Nat → Option Nat) (hQ : Sv L K G Q) (x0 m0 : Nat) (tx : GT) (tm : GT × Int) (sz : Nat) (I : Nat → Nat → Int32) (J : Nat → Nat → Int64) (hI : Iv L K x0 m0 (I x0 1, tx.2.1, I tx.2.1) tm I) (p0 : Nat) (hLp0 : p0 ∈ L) (hKp0 : K p0 = 6) (p1 : Int32) : Met l yX6_end (.code yX6_end cX6_end 2 (some .int) :: pw) ({ frames := 0, cells := 0, slots := 0, locals := 0 }) (sP (dC, dI) cs [.ref p0, .int p1] sz L K I J Q) (va_Qi (fun (r : Int32) (u : Int32) => u = r ∧ True) (fun u t => sB (dC, dI) cs L K Q (fun I1 J1 => Iv L K x0 m0 (I1 x0 1, tx.2.1, I1 tx.2.1) tm I1 ∧ ((0 ≤ p1.toInt ∧ p1.toInt ≤ (I p0 1).toInt → u = p1 ∧ I1 p0 1 = p1) ∧ (¬ (0 ≤ p1.toInt ∧ p1.toInt ≤ (I p0 1).toInt) → u.toInt = -1 ∧ I1 p0 1 = I p0 1)) ∧ I1 tx.2.1 = I tx.2.1 ∧ (∀ b, K b = 7 ∨ K b = 18 ∨ K b = 19 ∨ K b = 20 ∨ K b = 24 → I1 b = I b) ∧ (∀ σ : Sx, cxA Q I J p0 σ → cxA Q I1 J1 p0 σ) ∧ J1 = J) t) (fun q => q ∈ L ∨ sz ≤ q)) 0 0 (fun q => q ∈ L ∨ sz ≤ q) := by
  refine Met.ofW (cc := cX6_end) (maxL := 2) (ret := (some .int)) (by decide +kernel) rfl ?_
  intro p e s m args below meth c s₁ B hml hv
  obtain ⟨rfl, hsz, hP, hK, hD0, hN⟩ := hv
  have hx := B.exec
  have hb := B.bytes
  have hr := B.returns
  have hts := fun w (h : w ∈ pw) => atoms_spec (ws := Cond.code yX6_end cX6_end 2 (some .int) :: pw) B.pre w (List.mem_cons_of_mem _ h)
  have hown : s.vm.findClass RX6 = some m.cls := findClass_of_methodNamed B.named
  have hlocks := B.notSynchronized
  subst hsz
  have hBB : 999 ≤ tm.2 ∧ tm.2 ≤ 6000000 := hI.2.2.2.2.1
  have dn_I : (∀ b, K b = 7 ∨ K b = 18 ∨ K b = 19 ∨ K b = 20 ∨ K b = 24 → I b = I b) := fun _ _ => rfl
  have dj_J : J = J := rfl
  obtain ⟨A, hAe⟩ : ∃ A : Nat → Prop, A = (fun q => q ∈ L ∨ s.heap.size ≤ q) := ⟨_, rfl⟩
  rw [← hAe]
  have hAL : ∀ q, q ∈ L → A q := fun q h => by rw [hAe]; exact Or.inl h
  have hA : ∀ q, s.heap.size ≤ q → A q := fun q h => by rw [hAe]; exact Or.inr h
  have hD : ∀ F, va_D A (va_pl L F) := fun F => (hD0 F).weaken (fun k q hk _ => hAL _ (pl_mem hk))
  obtain ⟨H, hHe⟩ : ∃ H : Heap, H = s.heap := ⟨_, rfl⟩
  have hS : va_S A s.heap H [] := by rw [hHe]; exact va_S.rf
  rw [← hHe] at hP
  have hl := lv_entry ([.ref p0, .int p1]) (n := 2) (Nat.le_of_ble_eq_true rfl)
  rw [lg_entry_eq]
  generalize (lg_sl ([.ref p0, .int p1]) ++ List.replicate (2 - (lg_sl ([.ref p0, .int p1])).length) Slot.unset).toArray = ls at hl ⊢
  have hl : lv_has ls 2 [(0, .ref p0), (1, .int p1)] := hl
  rw [← hHe]
  refine namedW (fun R Qz hR hQz => ?_)
  refine lv_iload_n hx hb dX6_end_0 rfl (lv_at hl 1 rfl) ?_
  refine lv_if_lt (tgt := 12) hx hb dX6_end_1 (by decide) (fun c1 => ?_) (fun c1 => ?_)
  · have t1 := tq_lt (k := p1.toInt) (q := (0)) c1 rfl (by decide +kernel)
    refine lv_iconst (v := (-1)) hx hb dX6_end_12 (by decide +kernel) ?_
    subst hR; subst hQz
    exact W.iret (v := (-1)) hx hb hr (fun t ht hW => ⟨⟨(-1), (-1), rfl, ⟨rfl, trivial⟩, ⟨I, J, ⟨hI, ⟨fun h => absurd h (by omega), fun _ => ⟨by decide +kernel, rfl⟩⟩, rfl, dn_I, (fun _ h => h), dj_J⟩, by rw [ht]; exact hP⟩⟩, hS.F ht⟩) hS.2.2 dX6_end_13
  · have t1 := tq_nlt (k := p1.toInt) (q := (0)) c1 rfl (by decide +kernel)
    refine lv_iload_n hx hb dX6_end_4 rfl (lv_at hl 1 rfl) ?_
    refine lv_aload_n hx hb dX6_end_5 rfl (lv_at hl 0 rfl) ?_
    refine p_get hx hb hts inX6 hown hK hP hLp0 hKp0 rfl rfl 1 (by decide) (hts _ pq350) rfl dX6_end_6 ?_
    refine lv_topi (fun z6 ez6 => ?_)
    have cgz6 := congrArg Int32.toInt ez6
    have bz6 := oI_6_1 (Iv_at hI hLp0 hKp0)
    rw [← ez6] at bz6
    refine lv_icmp_le (tgt := 14) hx hb dX6_end_9 (by decide) (fun c9 => ?_) (fun c9 => ?_)
    · have t9 := tq_le (k := p1.toInt) (q := z6.toInt) c9 rfl rfl
      refine lv_aload_n hx hb dX6_end_14 rfl (lv_at hl 0 rfl) ?_
      refine lv_iload_n hx hb dX6_end_15 rfl (lv_at hl 1 rfl) ?_
      refine p_put hx hb hts inX6 tyX6 tyX6_ok nmX6 hown hK hP hD hS hLp0 hKp0 rfl rfl 1 (by decide) (hts _ pq350) rfl (by decide +kernel) (Nat.le_of_ble_eq_true rfl) (oS_6_1 cs _ _ _ _) dX6_end_16 (fun H locs hP hS => ?_)
      obtain ⟨Iz16, hP, hIz16, qIz16⟩ : ∃ Iz16, va_P (dC, dI) vwCl (Wd cs L K Iz16 J Q) H ∧ Iv L K x0 m0 (Iz16 x0 1, tx.2.1, Iz16 tx.2.1) tm Iz16 ∧ Iz16 = va_up I p0 (upd (I p0) 1 p1) := ⟨_, hP, Iv_putx hI hKp0 (oP_6_1 (Iv_at hI hLp0 hKp0) ⟨by omega, by omega⟩) (by decide) (by decide), rfl⟩
      have dn_Iz16 : (∀ b, K b = 7 ∨ K b = 18 ∨ K b = 19 ∨ K b = 20 ∨ K b = 24 → Iz16 b = I b) := fun b hc => (congrFun qIz16 b).trans ((va_up_ne _ _ (fun z => by have q := hKp0; rw [← z] at q; omega)).trans (dn_I b hc))
      refine lv_iload_n hx hb dX6_end_19 rfl (lv_at hl 1 rfl) ?_
      subst hR; subst hQz
      exact W.iret (v := p1) hx hb hr (fun t ht hW => ⟨⟨p1, p1, rfl, ⟨rfl, trivial⟩, ⟨Iz16, J, ⟨hIz16, ⟨fun _ => ⟨rfl, by rw [qIz16, rz_at]⟩, fun h => absurd ⟨by omega, by omega⟩ h⟩, (by rw [qIz16, va_up_ne _ _ (tpXn hQ hI hLp0 hKp0)]), dn_Iz16, (fun σ h => cxA_tp hQ hLp0 hKp0 qIz16 h), dj_J⟩, by rw [ht]; exact hP⟩⟩, hS.F ht⟩) hS.2.2 dX6_end_20
    · have t9 := tq_nle (k := p1.toInt) (q := z6.toInt) c9 rfl rfl
      refine lv_iconst (v := (-1)) hx hb dX6_end_12 (by decide +kernel) ?_
      subst hR; subst hQz
      exact W.iret (v := (-1)) hx hb hr (fun t ht hW => ⟨⟨(-1), (-1), rfl, ⟨rfl, trivial⟩, ⟨I, J, ⟨hI, ⟨fun h => absurd h (by omega), fun _ => ⟨by decide +kernel, rfl⟩⟩, rfl, dn_I, (fun _ h => h), dj_J⟩, by rw [ht]; exact hP⟩⟩, hS.F ht⟩) hS.2.2 dX6_end_13

set_option maxHeartbeats 4000000 in
set_option maxRecDepth 100000 in
theorem s_X6_tell (l : Launch) (dC : Nat → ClassId) (dI : Nat → Nat → Nat) (cs : Nat → ClassId) (L : List Nat) (K G : Nat → Nat) (Q : Nat → Nat → Option Nat) (hQ : Sv L K G Q) (x0 m0 : Nat) (tx : GT) (tm : GT × Int) (sz : Nat) (I : Nat → Nat → Int32) (J : Nat → Nat → Int64) (hI : Iv L K x0 m0 (I x0 1, tx.2.1, I tx.2.1) tm I) (p0 : Nat) (hLp0 : p0 ∈ L) (hKp0 : K p0 = 6) (hpx : p0 = x0) : Met l yX6_tell (.code yX6_tell cX6_tell 2 (some .int) :: pw) ({ frames := 8, cells := 0, slots := 0, locals := 177 }) (sPX (dC, dI) cs [.ref p0] sz L K I J Q (fun q => q ∈ L ∨ sz ≤ q) (fun A U H => xS A U H)) (va_Qi (fun (r : Int32) (u : Int32) => u = r ∧ True) (fun u t => sB (dC, dI) cs L K Q (fun I1 J1 => Iv L K x0 m0 (I1 x0 1, tx.2.1, I1 tx.2.1) tm I1 ∧ ((I1 x0 1).toInt = 0) ∧ (u.toInt = tellR (tb (I tx.2.1) (I p0 1).toInt)) ∧ (∀ b, K b = 7 ∨ K b = 18 ∨ K b = 19 ∨ K b = 20 ∨ K b = 24 → I1 b = I b) ∧ (∀ σ : Sx, cxA Q I J p0 σ → cxA Q I1 J1 p0 (teA σ (tb (I tx.2.1) (I p0 1).toInt)).2) ∧ (∀ b, ¬ (K b = 12) → J1 b = J b)) t) (fun q => q ∈ L ∨ sz ≤ q)) 0 0 (fun q => q ∈ L ∨ sz ≤ q) := by
  refine Met.ofW (cc := cX6_tell) (maxL := 2) (ret := (some .int)) (by decide +kernel) rfl ?_
  intro p e s m args below meth c s₁ B hml hv
  obtain ⟨rfl, ⟨hsz, hP, hK, hD0, hN⟩, hXs⟩ := hv
  have hx := B.exec
  have hb := B.bytes
  have hr := B.returns
  have hts := fun w (h : w ∈ pw) => atoms_spec (ws := Cond.code yX6_tell cX6_tell 2 (some .int) :: pw) B.pre w (List.mem_cons_of_mem _ h)
  have hown : s.vm.findClass RX6 = some m.cls := findClass_of_methodNamed B.named
  have hlocks := B.notSynchronized
  subst hsz
  have hBB : 999 ≤ tm.2 ∧ tm.2 ≤ 6000000 := hI.2.2.2.2.1
  have dn_I : (∀ b, K b = 7 ∨ K b = 18 ∨ K b = 19 ∨ K b = 20 ∨ K b = 24 → I b = I b) := fun _ _ => rfl
  have dj_J : (∀ b, ¬ (K b = 12) → J b = J b) := fun _ _ => rfl
  obtain ⟨A, hAe⟩ : ∃ A : Nat → Prop, A = (fun q => q ∈ L ∨ s.heap.size ≤ q) := ⟨_, rfl⟩
  rw [← hAe]
  have hAL : ∀ q, q ∈ L → A q := fun q h => by rw [hAe]; exact Or.inl h
  have hA : ∀ q, s.heap.size ≤ q → A q := fun q h => by rw [hAe]; exact Or.inr h
  have hD : ∀ F, va_D A (va_pl L F) := fun F => (hD0 F).weaken (fun k q hk _ => hAL _ (pl_mem hk))
  rw [← hAe] at hXs
  have hxx := hXs
  have hxt := hxx.1
  obtain ⟨H, hHe⟩ : ∃ H : Heap, H = s.heap := ⟨_, rfl⟩
  have hS : va_S A s.heap H [] := by rw [hHe]; exact va_S.rf
  rw [← hHe] at hP
  have hl := lv_entry ([.ref p0]) (n := 2) (Nat.le_of_ble_eq_true rfl)
  rw [lg_entry_eq]
  generalize (lg_sl ([.ref p0]) ++ List.replicate (2 - (lg_sl ([.ref p0])).length) Slot.unset).toArray = ls at hl ⊢
  have hl : lv_has ls 2 [(0, .ref p0)] := hl
  rw [← hHe]
  refine namedW (fun R Qz hR hQz => ?_)
  refine lv_aload_n hx hb dX6_tell_0 rfl (lv_at hl 0 rfl) ?_
  obtain ⟨y1, ey1, hLy1, hKy1⟩ := oQ_6_4 (Sv_at hQ hLp0 hKp0)
  refine p_get (v := .ref y1) hx hb hts inX6 hown hK hP hLp0 hKp0 rfl rfl 4 (by decide) (hts _ pq353) (congrArg (fun q => some (va_rf q)) ey1) dX6_tell_1 ?_
  refine lv_aload_n hx hb dX6_tell_4 rfl (lv_at hl 0 rfl) ?_
  refine p_get hx hb hts inX6 hown hK hP hLp0 hKp0 rfl rfl 1 (by decide) (hts _ pq350) rfl dX6_tell_5 ?_
  refine lv_topi (fun z5 ez5 => ?_)
  have cgz5 := congrArg Int32.toInt ez5
  have bz5 := oI_6_1 (Iv_at hI hLp0 hKp0)
  rw [← ez5] at bz5
  refine lv_aload_n hx hb dX6_tell_8 rfl (lv_at hl 0 rfl) ?_
  obtain ⟨y9, ey9, hLy9, hKy9, hGy9⟩ := oQ_6_3 (Sv_at hQ hLp0 hKp0)
  refine p_get (v := .ref y9) hx hb hts inX6 hown hK hP hLp0 hKp0 rfl rfl 3 (by decide) (hts _ pq352) (congrArg (fun q => some (va_rf q)) ey9) dX6_tell_9 ?_
  refine sw_ir (Z := (fun u => (fun I1 J1 => Iv L K x0 m0 (I x0 1, tx.2.1, I tx.2.1) tm I1 ∧ (∀ b, ¬ (b = y1 ∨ ((K b = 0 ∨ K b = 1 ∨ K b = 3) ∧ (G b = G y9 ∨ G b / 100 = G y9))) → I1 b = I b) ∧ ((u.toInt = 0 → tellR (tb (I tx.2.1) z5.toInt) = (I1 y9 3).toInt) ∧ (¬ u.toInt = 0 → tellR (tb (I tx.2.1) z5.toInt) = -2 - u.toInt)) ∧ (u.toInt = 0 → cxF Q I1 J1 y9 (tellF (tb (I tx.2.1) z5.toInt)) ∧ okF (tellF (tb (I tx.2.1) z5.toInt))) ∧ (∀ b, ¬ (K b = 12 ∧ (G b / 100 = G y9)) → J1 b = J b)))) (va_runV (As := [.int z5, .ref y9]) (rest := []) ⟨hx, hb, hml, hown, hts⟩ (s_X4_readField l dC dI cs L K G Q hQ x0 m0 (I x0 1, tx.2.1, I tx.2.1) tm H.size I J hI y1 hLy1 hKy1 z5 ⟨by omega, by omega⟩ y9 hLy9 hKy9) (cwV 2 hts (gV pq402 pq403 pq404 pq78 pq405) rfl rfl rfl (by decide +kernel) ⟨(by rw [hR]; exact (Nat.le_of_ble_eq_true rfl)), (by rw [hR]; exact (Nat.le_of_ble_eq_true rfl))⟩) (sPX_V hP hD hK hN hLy1 hKy1 rfl rfl gX_x hS hxx (fun q h => h.elim (hAL q) (fun h => hA q (Nat.le_trans hS.1 h)))) rfl rfl hl.1 rfl (lv_room (Nat.le_of_ble_eq_true rfl)) dX6_tell_12 ⟨(by rw [hR]; exact (Nat.le_of_ble_eq_true rfl)), (by rw [hR]; exact (Nat.le_of_ble_eq_true rfl))⟩) hS hAL hA (fun z12 Iz12 Jz12 H locs hz12 hIz12 hP hS => ?_)
  obtain ⟨hIz12, frc12, fz12, jz12, djc12⟩ := hIz12
  have dj_Jz12 : (∀ b, ¬ (K b = 12) → Jz12 b = J b) := fun b hc => (djc12 b (fun z => hc (by exact z.1))).trans (dj_J b hc)
  have tx12 : Iz12 x0 1 = I x0 1 := hIz12.2.2.1
  have tp12 : Iz12 tx.2.1 = I tx.2.1 := tpX hQ hIz12 hLp0 hKp0
  have hIz12 := Iv_fx hIz12
  have dn_Iz12 : (∀ b, K b = 7 ∨ K b = 18 ∨ K b = 19 ∨ K b = 20 ∨ K b = 24 → Iz12 b = I b) := fun b hc => (frc12 b (fun z => by have q := hKy1; (by_cases w2 : b = y1); (rw [← w2] at q; omega); omega)).trans (dn_I b hc)
  have bz12 := hz12
  refine lv_istore_n (lv' := [(1, .int z12), (0, .ref p0)]) hx hb dX6_tell_15 rfl hl (by decide) rfl (fun ls hl => ?_)
  refine lv_aload_n hx hb dX6_tell_16 rfl (lv_at hl 1 rfl) ?_
  refine lv_iconst (v := 0) hx hb dX6_tell_17 (by decide +kernel) ?_
  refine p_put hx hb hts inX6 tyX6 tyX6_ok nmX6 hown hK hP hD hS hLp0 hKp0 rfl rfl 1 (by decide) (hts _ pq350) rfl (by decide +kernel) (Nat.le_of_ble_eq_true rfl) (oS_6_1 cs _ _ _ _) dX6_tell_18 (fun H locs hP hS => ?_)
  obtain ⟨Iz18, hP, hIz18, qIz18⟩ : ∃ Iz18, va_P (dC, dI) vwCl (Wd cs L K Iz18 Jz12 Q) H ∧ Iv L K x0 m0 (Iz18 x0 1, tx.2.1, Iz18 tx.2.1) tm Iz18 ∧ Iz18 = va_up Iz12 p0 (upd (Iz12 p0) 1 (0 : Int32)) := ⟨_, hP, Iv_putx hIz12 hKp0 (oP_6_1 (Iv_at hIz12 hLp0 hKp0) ⟨by decide +kernel, by decide +kernel⟩) (by decide) (by decide), rfl⟩
  have dn_Iz18 : (∀ b, K b = 7 ∨ K b = 18 ∨ K b = 19 ∨ K b = 20 ∨ K b = 24 → Iz18 b = I b) := fun b hc => (congrFun qIz18 b).trans ((va_up_ne _ _ (fun z => by have q := hKp0; rw [← z] at q; omega)).trans (dn_Iz12 b hc))
  refine lv_iload_n hx hb dX6_tell_21 rfl (lv_at hl 0 rfl) ?_
  refine lv_if_eq (tgt := 30) hx hb dX6_tell_22 (by decide) (fun c22 => ?_) (fun c22 => ?_)
  · have t22 := tq_eq (k := z12.toInt) (q := (0)) c22 rfl (by decide +kernel)
    refine lv_aload_n hx hb dX6_tell_30 rfl (lv_at hl 1 rfl) ?_
    refine lv_aload_n hx hb dX6_tell_31 rfl (lv_at hl 1 rfl) ?_
    refine p_get (v := .ref y9) hx hb hts inX6 hown hK hP hLp0 hKp0 rfl rfl 3 (by decide) (hts _ pq352) (congrArg (fun q => some (va_rf q)) ey9) dX6_tell_32 ?_
    refine sw_v (Z := (fun I1 J1 => Iv L K x0 m0 (Iz18 x0 1, tx.2.1, Iz18 tx.2.1) tm I1 ∧ (∀ yn, Q p0 2 = some yn → I1 yn 3 = Iz18 y9 3) ∧ (∀ b, K b = 7 ∨ K b = 18 ∨ K b = 19 ∨ K b = 20 ∨ K b = 24 → I1 b = Iz18 b) ∧ (∀ (σ : Sx) (c : Fx), neF 1 (G y9) → cxH Q Iz18 Jz12 p0 σ → okF c → cxF Q Iz18 Jz12 y9 c → cxA Q I1 J1 p0 (c, 0, σ.2.2)) ∧ (∀ b, ¬ (K b = 12 ∧ (G b / 100 = 1 ∨ G b / 100 = 2)) → J1 b = Jz12 b))) (va_runV (As := [.ref y9]) (rest := []) ⟨hx, hb, hml, hown, hts⟩ (s_X6_replaceBy l dC dI cs L K G Q hQ x0 m0 (Iz18 x0 1, tx.2.1, Iz18 tx.2.1) tm H.size Iz18 Jz12 hIz18 p0 hLp0 hKp0 y9 hLy9 hKy9) (cwV 1 hts (gV pq585 pq587 pq1 pq74 pq588) rfl rfl rfl (by decide +kernel) ⟨(by rw [hR]; exact (Nat.le_of_ble_eq_true rfl)), (by rw [hR]; exact (Nat.le_of_ble_eq_true rfl))⟩) (sP_V hP hD hK hN hLp0 hKp0 rfl rfl) rfl rfl hl.1 rfl (lv_room (Nat.le_of_ble_eq_true rfl)) dX6_tell_35 ⟨(by rw [hR]; exact (Nat.le_of_ble_eq_true rfl)), (by rw [hR]; exact (Nat.le_of_ble_eq_true rfl))⟩) hS hAL hA (fun Iz35 Jz35 H locs hz35 hIz35 hP hS => ?_)
    obtain ⟨hIz35, fz35, dnc35, jz35, djc35⟩ := hIz35
    have dj_Jz35 : (∀ b, ¬ (K b = 12) → Jz35 b = J b) := fun b hc => (djc35 b (fun z => hc (by exact z.1))).trans (dj_Jz12 b hc)
    have tx35 : Iz35 x0 1 = Iz18 x0 1 := hIz35.2.2.1
    have tp35 : Iz35 tx.2.1 = Iz18 tx.2.1 := tpX hQ hIz35 hLp0 hKp0
    have hIz35 := Iv_fx hIz35
    have dn_Iz35 : (∀ b, K b = 7 ∨ K b = 18 ∨ K b = 19 ∨ K b = 20 ∨ K b = 24 → Iz35 b = I b) := fun b hc => (dnc35 b (by omega)).trans (dn_Iz18 b hc)
    refine lv_aload_n hx hb dX6_tell_38 rfl (lv_at hl 1 rfl) ?_
    obtain ⟨y39, ey39, hLy39, hKy39, hGy39⟩ := oQ_6_2 (Sv_at hQ hLp0 hKp0)
    refine p_get (v := .ref y39) hx hb hts inX6 hown hK hP hLp0 hKp0 rfl rfl 2 (by decide) (hts _ pq351) (congrArg (fun q => some (va_rf q)) ey39) dX6_tell_39 ?_
    refine p_get hx hb hts inX1 hown hK hP hLy39 hKy39 rfl rfl 3 (by decide) (hts _ pq226) rfl dX6_tell_42 ?_
    refine lv_topi (fun z42 ez42 => ?_)
    have cgz42 := congrArg Int32.toInt ez42
    have bz42 := oI_1_3 (Iv_at hIz35 hLy39 hKy39)
    rw [← ez42] at bz42
    subst hR; subst hQz
    exact W.iret (v := z42) hx hb hr (fun t ht hW => ⟨⟨z42, z42, rfl, ⟨rfl, trivial⟩, ⟨Iz35, Jz35, ⟨hIz35, (by rw [tx35, ← hpx, qIz18, rz_at]; decide +kernel), (by rw [← ez5, fz12.1 t22, ez42, fz35 y39 ey39, qIz18, va_up_ne _ _ (ne_k hKy9 hKp0 (by decide))]), dn_Iz35, (fun σ h => by have w := oI_1_3 (Iv_at hIz12 hLy9 hKy9); rw [te_y (t := (tb (I tx.2.1) (I p0 1).toInt)) (by rw [← ez5, fz12.1 t22]; omega), ← ez5]; have j := jz12 t22; exact jz35 σ _ (by rw [hGy9]; unfold neF; omega) (cxA_tp hQ hLp0 hKp0 qIz18 (cxA_dr hQ hLp0 hKp0 hGy9 hKy1 frc12 djc12 h)).1 j.2 (cxF_tp hQ hLy9 hKy9 hKp0 j.2 qIz18 j.1)), dj_Jz35⟩, by rw [ht]; exact hP⟩⟩, hS.F ht⟩) hS.2.2 dX6_tell_45
  · have t22 := tq_ne (k := z12.toInt) (q := (0)) c22 rfl (by decide +kernel)
    refine lv_bipush (v := (-2)) hx hb dX6_tell_25 (by decide +kernel) ?_
    refine lv_iload_n hx hb dX6_tell_27 rfl (lv_at hl 0 rfl) ?_
    refine lv_isub hx hb dX6_tell_28 ?_
    refine lv_topi (fun z28 ez28 => ?_)
    have bz28 := tq_sub (k := (-2)) (q := z12.toInt) ez28 (by decide +kernel) rfl (by omega) (by omega)
    subst hR; subst hQz
    exact W.iret (v := z28) hx hb hr (fun t ht hW => ⟨⟨z28, z28, rfl, ⟨rfl, trivial⟩, ⟨Iz18, Jz12, ⟨hIz18, (by rw [← hpx, qIz18, rz_at]; decide +kernel), (by rw [← ez5, fz12.2 t22]; omega), dn_Iz18, (fun σ h => by rw [te_n (t := (tb (I tx.2.1) (I p0 1).toInt)) (by rw [← ez5, fz12.2 t22]; omega)]; exact cxA_tp hQ hLp0 hKp0 qIz18 (cxA_dr hQ hLp0 hKp0 hGy9 hKy1 frc12 djc12 h)), dj_Jz12⟩, by rw [ht]; exact hP⟩⟩, hS.F ht⟩) hS.2.2 dX6_tell_29
