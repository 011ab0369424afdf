abbrev cJ6_bitCount_0f7a4 : ByteArray := prog_11_method_49_code
abbrev cX5_canAllGo : ByteArray := prog_7_method_20_code
abbrev cX5_mostIfDown : ByteArray := prog_7_method_25_code
def yJ6_bitCount_0f7a4 : MethodName := ⟨RJ6, "bitCount", "(I)I"⟩
def yX5_canAllGo : MethodName := ⟨RX5, "canAllGo", "(III)Z"⟩
def yX5_mostIfDown : MethodName := ⟨RX5, "mostIfDown", "(LMaskTouch$Mask;LMaskTouch$Mask;I)I"⟩
theorem dJ6_bitCount_0f7a4_0 : decode cJ6_bitCount_0f7a4 0 = .ok (.iload_n 0, 1) := by decide +kernel
theorem dJ6_bitCount_0f7a4_1 : decode cJ6_bitCount_0f7a4 1 = .ok (.iload_n 0, 1) := by decide +kernel
theorem dJ6_bitCount_0f7a4_2 : decode cJ6_bitCount_0f7a4 2 = .ok (.iconst 1, 1) := by decide +kernel
theorem dJ6_bitCount_0f7a4_3 : decode cJ6_bitCount_0f7a4 3 = .ok (.iushr, 1) := by decide +kernel
theorem dJ6_bitCount_0f7a4_4 : decode cJ6_bitCount_0f7a4 4 = .ok (.ldc_w 265, 3) := by decide +kernel
theorem dJ6_bitCount_0f7a4_7 : decode cJ6_bitCount_0f7a4 7 = .ok (.iand, 1) := by decide +kernel
theorem dJ6_bitCount_0f7a4_8 : decode cJ6_bitCount_0f7a4 8 = .ok (.isub, 1) := by decide +kernel
theorem dJ6_bitCount_0f7a4_9 : decode cJ6_bitCount_0f7a4 9 = .ok (.istore_n 0, 1) := by decide +kernel
theorem dJ6_bitCount_0f7a4_10 : decode cJ6_bitCount_0f7a4 10 = .ok (.iload_n 0, 1) := by decide +kernel
theorem dJ6_bitCount_0f7a4_11 : decode cJ6_bitCount_0f7a4 11 = .ok (.ldc_w 266, 3) := by decide +kernel
theorem dJ6_bitCount_0f7a4_14 : decode cJ6_bitCount_0f7a4 14 = .ok (.iand, 1) := by decide +kernel
theorem dJ6_bitCount_0f7a4_15 : decode cJ6_bitCount_0f7a4 15 = .ok (.iload_n 0, 1) := by decide +kernel
theorem dJ6_bitCount_0f7a4_16 : decode cJ6_bitCount_0f7a4 16 = .ok (.iconst 2, 1) := by decide +kernel
theorem dJ6_bitCount_0f7a4_17 : decode cJ6_bitCount_0f7a4 17 = .ok (.iushr, 1) := by decide +kernel
theorem dJ6_bitCount_0f7a4_18 : decode cJ6_bitCount_0f7a4 18 = .ok (.ldc_w 266, 3) := by decide +kernel
theorem dJ6_bitCount_0f7a4_21 : decode cJ6_bitCount_0f7a4 21 = .ok (.iand, 1) := by decide +kernel
theorem dJ6_bitCount_0f7a4_22 : decode cJ6_bitCount_0f7a4 22 = .ok (.iadd, 1) := by decide +kernel
theorem dJ6_bitCount_0f7a4_23 : decode cJ6_bitCount_0f7a4 23 = .ok (.istore_n 0, 1) := by decide +kernel
theorem dJ6_bitCount_0f7a4_24 : decode cJ6_bitCount_0f7a4 24 = .ok (.iload_n 0, 1) := by decide +kernel
theorem dJ6_bitCount_0f7a4_25 : decode cJ6_bitCount_0f7a4 25 = .ok (.iload_n 0, 1) := by decide +kernel
theorem dJ6_bitCount_0f7a4_26 : decode cJ6_bitCount_0f7a4 26 = .ok (.iconst 4, 1) := by decide +kernel
theorem dJ6_bitCount_0f7a4_27 : decode cJ6_bitCount_0f7a4 27 = .ok (.iushr, 1) := by decide +kernel
theorem dJ6_bitCount_0f7a4_28 : decode cJ6_bitCount_0f7a4 28 = .ok (.iadd, 1) := by decide +kernel
theorem dJ6_bitCount_0f7a4_29 : decode cJ6_bitCount_0f7a4 29 = .ok (.ldc_w 267, 3) := by decide +kernel
theorem dJ6_bitCount_0f7a4_32 : decode cJ6_bitCount_0f7a4 32 = .ok (.iand, 1) := by decide +kernel
theorem dJ6_bitCount_0f7a4_33 : decode cJ6_bitCount_0f7a4 33 = .ok (.istore_n 0, 1) := by decide +kernel
theorem dJ6_bitCount_0f7a4_34 : decode cJ6_bitCount_0f7a4 34 = .ok (.iload_n 0, 1) := by decide +kernel
theorem dJ6_bitCount_0f7a4_35 : decode cJ6_bitCount_0f7a4 35 = .ok (.iload_n 0, 1) := by decide +kernel
theorem dJ6_bitCount_0f7a4_36 : decode cJ6_bitCount_0f7a4 36 = .ok (.bipush 8, 2) := by decide +kernel
theorem dJ6_bitCount_0f7a4_38 : decode cJ6_bitCount_0f7a4 38 = .ok (.iushr, 1) := by decide +kernel
theorem dJ6_bitCount_0f7a4_39 : decode cJ6_bitCount_0f7a4 39 = .ok (.iadd, 1) := by decide +kernel
theorem dJ6_bitCount_0f7a4_40 : decode cJ6_bitCount_0f7a4 40 = .ok (.istore_n 0, 1) := by decide +kernel
theorem dJ6_bitCount_0f7a4_41 : decode cJ6_bitCount_0f7a4 41 = .ok (.iload_n 0, 1) := by decide +kernel
theorem dJ6_bitCount_0f7a4_42 : decode cJ6_bitCount_0f7a4 42 = .ok (.iload_n 0, 1) := by decide +kernel
theorem dJ6_bitCount_0f7a4_43 : decode cJ6_bitCount_0f7a4 43 = .ok (.bipush 16, 2) := by decide +kernel
theorem dJ6_bitCount_0f7a4_45 : decode cJ6_bitCount_0f7a4 45 = .ok (.iushr, 1) := by decide +kernel
theorem dJ6_bitCount_0f7a4_46 : decode cJ6_bitCount_0f7a4 46 = .ok (.iadd, 1) := by decide +kernel
theorem dJ6_bitCount_0f7a4_47 : decode cJ6_bitCount_0f7a4 47 = .ok (.istore_n 0, 1) := by decide +kernel
theorem dJ6_bitCount_0f7a4_48 : decode cJ6_bitCount_0f7a4 48 = .ok (.iload_n 0, 1) := by decide +kernel
theorem dJ6_bitCount_0f7a4_49 : decode cJ6_bitCount_0f7a4 49 = .ok (.bipush 63, 2) := by decide +kernel
theorem dJ6_bitCount_0f7a4_51 : decode cJ6_bitCount_0f7a4 51 = .ok (.iand, 1) := by decide +kernel
theorem dJ6_bitCount_0f7a4_52 : decode cJ6_bitCount_0f7a4 52 = .ok (.ireturn, 1) := by decide +kernel
theorem dX5_canAllGo_0 : decode cX5_canAllGo 0 = .ok (.iconst 0, 1) := by decide +kernel
theorem dX5_canAllGo_1 : decode cX5_canAllGo 1 = .ok (.istore 4, 2) := by decide +kernel
theorem dX5_canAllGo_3 : decode cX5_canAllGo 3 = .ok (.iload 4, 2) := by decide +kernel
theorem dX5_canAllGo_5 : decode cX5_canAllGo 5 = .ok (.aload_n 0, 1) := by decide +kernel
theorem dX5_canAllGo_6 : decode cX5_canAllGo 6 = .ok (.getfield 39, 3) := by decide +kernel
theorem dX5_canAllGo_9 : decode cX5_canAllGo 9 = .ok (.getfield 44, 3) := by decide +kernel
theorem dX5_canAllGo_12 : decode cX5_canAllGo 12 = .ok (.if_icmp .ge 65, 3) := by decide +kernel
theorem dX5_canAllGo_15 : decode cX5_canAllGo 15 = .ok (.aload_n 0, 1) := by decide +kernel
theorem dX5_canAllGo_16 : decode cX5_canAllGo 16 = .ok (.getfield 39, 3) := by decide +kernel
theorem dX5_canAllGo_19 : decode cX5_canAllGo 19 = .ok (.getfield 49, 3) := by decide +kernel
theorem dX5_canAllGo_22 : decode cX5_canAllGo 22 = .ok (.iload 4, 2) := by decide +kernel
theorem dX5_canAllGo_24 : decode cX5_canAllGo 24 = .ok (.aaload, 1) := by decide +kernel
theorem dX5_canAllGo_25 : decode cX5_canAllGo 25 = .ok (.astore 5, 2) := by decide +kernel
theorem dX5_canAllGo_27 : decode cX5_canAllGo 27 = .ok (.iload_n 1, 1) := by decide +kernel
theorem dX5_canAllGo_28 : decode cX5_canAllGo 28 = .ok (.iload 4, 2) := by decide +kernel
theorem dX5_canAllGo_30 : decode cX5_canAllGo 30 = .ok (.ishr, 1) := by decide +kernel
theorem dX5_canAllGo_31 : decode cX5_canAllGo 31 = .ok (.iconst 1, 1) := by decide +kernel
theorem dX5_canAllGo_32 : decode cX5_canAllGo 32 = .ok (.iand, 1) := by decide +kernel
theorem dX5_canAllGo_33 : decode cX5_canAllGo 33 = .ok (.iconst 1, 1) := by decide +kernel
theorem dX5_canAllGo_34 : decode cX5_canAllGo 34 = .ok (.if_icmp .ne 37, 3) := by decide +kernel
theorem dX5_canAllGo_37 : decode cX5_canAllGo 37 = .ok (.aload 5, 2) := by decide +kernel
theorem dX5_canAllGo_39 : decode cX5_canAllGo 39 = .ok (.getfield 71, 3) := by decide +kernel
theorem dX5_canAllGo_42 : decode cX5_canAllGo 42 = .ok (.iload_n 2, 1) := by decide +kernel
theorem dX5_canAllGo_43 : decode cX5_canAllGo 43 = .ok (.iadd, 1) := by decide +kernel
theorem dX5_canAllGo_44 : decode cX5_canAllGo 44 = .ok (.sipush 999, 3) := by decide +kernel
theorem dX5_canAllGo_47 : decode cX5_canAllGo 47 = .ok (.invokestatic 141, 3) := by decide +kernel
theorem dX5_canAllGo_50 : decode cX5_canAllGo 50 = .ok (.ifCond .eq 19, 3) := by decide +kernel
theorem dX5_canAllGo_53 : decode cX5_canAllGo 53 = .ok (.aload 5, 2) := by decide +kernel
theorem dX5_canAllGo_55 : decode cX5_canAllGo 55 = .ok (.getfield 86, 3) := by decide +kernel
theorem dX5_canAllGo_58 : decode cX5_canAllGo 58 = .ok (.iload_n 3, 1) := by decide +kernel
theorem dX5_canAllGo_59 : decode cX5_canAllGo 59 = .ok (.iadd, 1) := by decide +kernel
theorem dX5_canAllGo_60 : decode cX5_canAllGo 60 = .ok (.sipush 999, 3) := by decide +kernel
theorem dX5_canAllGo_63 : decode cX5_canAllGo 63 = .ok (.invokestatic 141, 3) := by decide +kernel
theorem dX5_canAllGo_66 : decode cX5_canAllGo 66 = .ok (.ifCond .ne 5, 3) := by decide +kernel
theorem dX5_canAllGo_69 : decode cX5_canAllGo 69 = .ok (.iconst 0, 1) := by decide +kernel
theorem dX5_canAllGo_70 : decode cX5_canAllGo 70 = .ok (.ireturn, 1) := by decide +kernel
theorem dX5_canAllGo_71 : decode cX5_canAllGo 71 = .ok (.iinc 4 1, 3) := by decide +kernel
theorem dX5_canAllGo_74 : decode cX5_canAllGo 74 = .ok (.goto (-71), 3) := by decide +kernel
theorem dX5_canAllGo_77 : decode cX5_canAllGo 77 = .ok (.iconst 1, 1) := by decide +kernel
theorem dX5_canAllGo_78 : decode cX5_canAllGo 78 = .ok (.ireturn, 1) := by decide +kernel
theorem dX5_mostIfDown_0 : decode cX5_mostIfDown 0 = .ok (.iconst 0, 1) := by decide +kernel
theorem dX5_mostIfDown_1 : decode cX5_mostIfDown 1 = .ok (.istore_n 3, 1) := by decide +kernel
theorem dX5_mostIfDown_2 : decode cX5_mostIfDown 2 = .ok (.aload_n 0, 1) := by decide +kernel
theorem dX5_mostIfDown_3 : decode cX5_mostIfDown 3 = .ok (.getfield 92, 3) := by decide +kernel
theorem dX5_mostIfDown_6 : decode cX5_mostIfDown 6 = .ok (.aload_n 1, 1) := by decide +kernel
theorem dX5_mostIfDown_7 : decode cX5_mostIfDown 7 = .ok (.getfield 92, 3) := by decide +kernel
theorem dX5_mostIfDown_10 : decode cX5_mostIfDown 10 = .ok (.iload_n 2, 1) := by decide +kernel
theorem dX5_mostIfDown_11 : decode cX5_mostIfDown 11 = .ok (.iadd, 1) := by decide +kernel
theorem dX5_mostIfDown_12 : decode cX5_mostIfDown 12 = .ok (.invokestatic 147, 3) := by decide +kernel
theorem dX5_mostIfDown_15 : decode cX5_mostIfDown 15 = .ok (.istore 4, 2) := by decide +kernel
theorem dX5_mostIfDown_17 : decode cX5_mostIfDown 17 = .ok (.aload_n 0, 1) := by decide +kernel
theorem dX5_mostIfDown_18 : decode cX5_mostIfDown 18 = .ok (.getfield 89, 3) := by decide +kernel
theorem dX5_mostIfDown_21 : decode cX5_mostIfDown 21 = .ok (.aload_n 1, 1) := by decide +kernel
theorem dX5_mostIfDown_22 : decode cX5_mostIfDown 22 = .ok (.getfield 89, 3) := by decide +kernel
theorem dX5_mostIfDown_25 : decode cX5_mostIfDown 25 = .ok (.iload_n 2, 1) := by decide +kernel
theorem dX5_mostIfDown_26 : decode cX5_mostIfDown 26 = .ok (.iadd, 1) := by decide +kernel
theorem dX5_mostIfDown_27 : decode cX5_mostIfDown 27 = .ok (.invokestatic 150, 3) := by decide +kernel
theorem dX5_mostIfDown_30 : decode cX5_mostIfDown 30 = .ok (.istore 5, 2) := by decide +kernel
theorem dX5_mostIfDown_32 : decode cX5_mostIfDown 32 = .ok (.iload 5, 2) := by decide +kernel
theorem dX5_mostIfDown_34 : decode cX5_mostIfDown 34 = .ok (.iload 4, 2) := by decide +kernel
theorem dX5_mostIfDown_36 : decode cX5_mostIfDown 36 = .ok (.if_icmp .gt 29, 3) := by decide +kernel
theorem dX5_mostIfDown_39 : decode cX5_mostIfDown 39 = .ok (.iload_n 3, 1) := by decide +kernel
theorem dX5_mostIfDown_40 : decode cX5_mostIfDown 40 = .ok (.aload_n 0, 1) := by decide +kernel
theorem dX5_mostIfDown_41 : decode cX5_mostIfDown 41 = .ok (.iload 5, 2) := by decide +kernel
theorem dX5_mostIfDown_43 : decode cX5_mostIfDown 43 = .ok (.invokevirtual 187, 3) := by decide +kernel
theorem dX5_mostIfDown_46 : decode cX5_mostIfDown 46 = .ok (.aload_n 1, 1) := by decide +kernel
theorem dX5_mostIfDown_47 : decode cX5_mostIfDown 47 = .ok (.iload 5, 2) := by decide +kernel
theorem dX5_mostIfDown_49 : decode cX5_mostIfDown 49 = .ok (.iload_n 2, 1) := by decide +kernel
theorem dX5_mostIfDown_50 : decode cX5_mostIfDown 50 = .ok (.isub, 1) := by decide +kernel
theorem dX5_mostIfDown_51 : decode cX5_mostIfDown 51 = .ok (.invokevirtual 187, 3) := by decide +kernel
theorem dX5_mostIfDown_54 : decode cX5_mostIfDown 54 = .ok (.invokestatic 147, 3) := by decide +kernel
theorem dX5_mostIfDown_57 : decode cX5_mostIfDown 57 = .ok (.iadd, 1) := by decide +kernel
theorem dX5_mostIfDown_58 : decode cX5_mostIfDown 58 = .ok (.istore_n 3, 1) := by decide +kernel
theorem dX5_mostIfDown_59 : decode cX5_mostIfDown 59 = .ok (.iinc 5 1, 3) := by decide +kernel
theorem dX5_mostIfDown_62 : decode cX5_mostIfDown 62 = .ok (.goto (-30), 3) := by decide +kernel
theorem dX5_mostIfDown_65 : decode cX5_mostIfDown 65 = .ok (.iload_n 3, 1) := by decide +kernel
theorem dX5_mostIfDown_66 : decode cX5_mostIfDown 66 = .ok (.ireturn, 1) := by decide +kernel
set_option maxRecDepth 100000 in
theorem pq74 : Cond.initialized RX6 ∈ pw := pw_mem (i := 74) (by decide +kernel) rfl
set_option maxRecDepth 100000 in
theorem pq641 : Cond.static yX6_isWithin ∈ pw := pw_mem (i := 641) (by decide +kernel) rfl
set_option maxRecDepth 100000 in
theorem pq642 : Cond.code yX6_isWithin cX6_isWithin 2 (some .boolean) ∈ pw := pw_mem (i := 642) (by rfl) rfl
set_option maxRecDepth 100000 in
theorem pq806 : Cond.constant RJ6 265 (1431655765) ∈ pw := pw_mem (i := 806) (by decide +kernel) rfl
set_option maxRecDepth 100000 in
theorem pq807 : Cond.constant RJ6 266 (858993459) ∈ pw := pw_mem (i := 807) (by decide +kernel) rfl
set_option maxRecDepth 100000 in
theorem pq808 : Cond.constant RJ6 267 (252645135) ∈ pw := pw_mem (i := 808) (by decide +kernel) rfl
set_option maxRecDepth 100000 in
theorem pq1060 : Cond.methodLink RX5 187 yX3_dotsOfRow ∈ pw := pw_mem (i := 1060) (by decide +kernel) rfl
set_option maxHeartbeats 4000000 in
set_option maxRecDepth 100000 in
theorem s_X5_canAllGo (l : Launch) (dC : Nat → ClassId) (dI : Nat → Nat → Nat) (cs : Nat → ClassId) (L : List Nat) (K G : Nat → Nat) (Q : Nat → Nat → Option Nat) (hQ : Sv L K G Q) (x0 m0 : Nat) (tx : GT) (tm : GT × Int) (sz : Nat) (I : Nat → Nat → Int32) (J : Nat → Nat → Int64) (hI : Iv L K x0 m0 tx tm I) (p0 : Nat) (hLp0 : p0 ∈ L) (hKp0 : K p0 = 5) (p1 : Int32) (p2 : Int32) (bp2 : (-400) ≤ p2.toInt ∧ p2.toInt ≤ 400) (p3 : Int32) (bp3 : (-400) ≤ p3.toInt ∧ p3.toInt ≤ 400) : Met l yX5_canAllGo (.code yX5_canAllGo cX5_canAllGo 6 (some .boolean) :: pw) ({ frames := 1, cells := 0, slots := 0, locals := 21 }) (sP (dC, dI) cs [.ref p0, .int p1, .int p2, .int p3] sz L K I J Q) (va_Qi (fun (r : Int32) (_ : Unit) => ((0) ≤ r.toInt ∧ r.toInt ≤ 1) ∧ ((¬ r.toInt = 0 → goAll tm.2 Q I p0 p1 p2 p3) ∧ (∀ c : Fx, okF c → cxF Q I J (nf Q p0) c → (¬ r.toInt = 0 ↔ ∀ o : Nat, o < (c.1 1).toInt.toNat → hbt p1 o = true → ¬ farB c o p2.toInt p3.toInt)))) (fun _ _ => True) (fun _ => False)) 0 0 (fun _ => False) := by
  refine Met.ofW (cc := cX5_canAllGo) (maxL := 6) (ret := (some .boolean)) (by decide +kernel) rfl ?_
  intro p e s m args below meth c s₁ B hml hv
  obtain ⟨rfl, hsz, hP, hK, hD0, hN⟩ := hv
  have hx := B.exec
  have hb := B.bytes
  have hr := B.returns
  have hts := fun w (h : w ∈ pw) => atoms_spec (ws := Cond.code yX5_canAllGo cX5_canAllGo 6 (some .boolean) :: pw) B.pre w (List.mem_cons_of_mem _ h)
  have hown : s.vm.findClass RX5 = some m.cls := findClass_of_methodNamed B.named
  have hlocks := B.notSynchronized
  subst hsz
  have hBB : 999 ≤ tm.2 ∧ tm.2 ≤ 6000000 := hI.2.2.2.2.1
  have hD := hD0
  obtain ⟨H, hHe⟩ : ∃ H : Heap, H = s.heap := ⟨_, rfl⟩
  have hS : va_S (fun _ => False) s.heap H [] := by rw [hHe]; exact va_S.rf
  rw [← hHe] at hP
  have hl := lv_entry ([.ref p0, .int p1, .int p2, .int p3]) (n := 6) (Nat.le_of_ble_eq_true rfl)
  rw [lg_entry_eq]
  generalize (lg_sl ([.ref p0, .int p1, .int p2, .int p3]) ++ List.replicate (6 - (lg_sl ([.ref p0, .int p1, .int p2, .int p3])).length) Slot.unset).toArray = ls at hl ⊢
  have hl : lv_has ls 6 [(0, .ref p0), (1, .int p1), (2, .int p2), (3, .int p3)] := hl
  rw [← hHe]
  refine namedW (fun R Qz hR hQz => ?_)
  refine lv_iconst (v := 0) hx hb dX5_canAllGo_0 (by decide +kernel) ?_
  refine lv_istore (lv' := [(4, .int 0), (0, .ref p0), (1, .int p1), (2, .int p2), (3, .int p3)]) hx hb dX5_canAllGo_1 hl (by decide) rfl (fun ls hl => ?_)
  have key3 := blocks (fun n => ∀ (v3_4 : Int32) (H : Heap) (lo : List Loc) (ls : Array Slot), (11 - v3_4.toInt).toNat = n → ((0) ≤ v3_4.toInt ∧ v3_4.toInt ≤ 10) → goOK tm.2 Q I p0 p1 p2 p3 0 v3_4.toInt → (∀ c : Fx, okF c → cxF Q I J (nf Q p0) c → ∀ o : Nat, o < v3_4.toInt.toNat → o < (c.1 1).toInt.toNat → hbt p1 o = true → ¬ farB c o p2.toInt p3.toInt) → va_P (dC, dI) vwCl (Wd cs L K I J Q) H → va_S (fun _ => False) s.heap H lo → lv_has ls 6 [(0, .ref p0), (1, .int p1), (2, .int p2), (3, .int p3), (4, .int v3_4)] → W p l e R s m (([.ref p0, .int p1, .int p2, .int p3] : List Value).toArray) below meth c H lo 0 0 Qz (F0 m 3 ls [])) (by
    intro n ih3
    intro v3_4 H lo ls hmu3 bv3_4 hgo hfr hP hS hl
    refine lv_iload hx hb dX5_canAllGo_3 (lv_at hl 4 rfl) ?_
    refine lv_aload_n hx hb dX5_canAllGo_5 rfl (lv_at hl 0 rfl) ?_
    obtain ⟨y6, ey6, hLy6, hKy6, hGy6⟩ := oQ_5_0 (Sv_at hQ hLp0 hKp0)
    refine p_get (v := .ref y6) hx hb hts inX5 hown hK hP hLp0 hKp0 rfl rfl 0 (by decide) (hts _ pq274) (congrArg (fun q => some (va_rf q)) ey6) dX5_canAllGo_6 ?_
    refine p_get hx hb hts inX1 hown hK hP hLy6 hKy6 rfl rfl 3 (by decide) (hts _ pq225) rfl dX5_canAllGo_9 ?_
    refine lv_topi (fun z9 ez9 => ?_)
    have cgz9 := congrArg Int32.toInt ez9
    have bz9 := oI_1_3 (Iv_at hI hLy6 hKy6)
    rw [← ez9] at bz9
    refine lv_icmp_ge (tgt := 77) hx hb dX5_canAllGo_12 (by decide) (fun c12 => ?_) (fun c12 => ?_)
    · have t12 := tq_le (k := z9.toInt) (q := v3_4.toInt) c12 rfl rfl
      refine lv_iconst (v := 1) hx hb dX5_canAllGo_77 (by decide +kernel) ?_
      subst hR; subst hQz
      exact W.zret (v := 1) hx hb hr (by decide +kernel) (fun t ht hW => ⟨⟨1, (), rfl, ⟨⟨by decide +kernel, by decide +kernel⟩, ⟨fun _ => goAll_of ey6 (by omega) hgo, fun c ok h => ⟨fun _ o ho hb => hfr c ok h o (by have n := h.2.1; rw [nf_of ey6, ← ez9] at n; rw [← n] at ho; omega) ho hb, fun _ => by decide +kernel⟩⟩⟩, trivial⟩, hS.F ht⟩) hS.2.2 dX5_canAllGo_78
    · have t12 := tq_nle (k := z9.toInt) (q := v3_4.toInt) c12 rfl rfl
      refine lv_aload_n hx hb dX5_canAllGo_15 rfl (lv_at hl 0 rfl) ?_
      refine p_get (v := .ref y6) hx hb hts inX5 hown hK hP hLp0 hKp0 rfl rfl 0 (by decide) (hts _ pq274) (congrArg (fun q => some (va_rf q)) ey6) dX5_canAllGo_16 ?_
      obtain ⟨y19, ey19, hLy19, hKy19, hGy19⟩ := oQ_1_1 (Sv_at hQ hLy6 hKy6)
      refine p_get (v := .ref y19) hx hb hts inX1 hown hK hP hLy6 hKy6 rfl rfl 1 (by decide) (hts _ pq218) (congrArg (fun q => some (va_rf q)) ey19) dX5_canAllGo_19 ?_
      refine lv_iload hx hb dX5_canAllGo_22 (lv_at hl 4 rfl) ?_
      obtain ⟨y24, ey24, hLy24, hKy24, hGy24⟩ := (Sv_at hQ hLy19 hKy19).1 v3_4.toNatClampNeg (clamp_lt (n := 10) (in_of (by omega) (by omega)))
      refine p_aaldR hx hb hK hP 4 hLy19 hKy19 rfl rfl (in_of (by omega) (by omega)) ey24 dX5_canAllGo_24 ?_
      refine lv_astore (lv' := [(5, .ref y24), (0, .ref p0), (1, .int p1), (2, .int p2), (3, .int p3), (4, .int v3_4)]) hx hb dX5_canAllGo_25 hl (by decide) rfl (fun ls hl => ?_)
      refine lv_iload_n hx hb dX5_canAllGo_27 rfl (lv_at hl 2 rfl) ?_
      refine lv_iload hx hb dX5_canAllGo_28 (lv_at hl 5 rfl) ?_
      refine lv_ishr hx hb dX5_canAllGo_30 ?_
      refine lv_topi (fun z30 ez30 => ?_)
      refine lv_iconst (v := 1) hx hb dX5_canAllGo_31 (by decide +kernel) ?_
      refine lv_iand hx hb dX5_canAllGo_32 ?_
      refine lv_topi (fun z32 ez32 => ?_)
      have bz32 := tq_and 1 ez32 (by decide +kernel) (by decide)
      refine lv_iconst (v := 1) hx hb dX5_canAllGo_33 (by decide +kernel) ?_
      have j71 : ∀ (H : Heap) (lo : List Loc) (ls : Array Slot), ((p1 >>> (v3_4 &&& 31)) &&& 1 = 1 → bnd tm.2 I y24 p2.toInt p3.toInt) → (∀ c : Fx, okF c → cxF Q I J (nf Q p0) c → v3_4.toInt.toNat < (c.1 1).toInt.toNat → hbt p1 v3_4.toInt.toNat = true → ¬ farB c v3_4.toInt.toNat p2.toInt p3.toInt) → va_P (dC, dI) vwCl (Wd cs L K I J Q) H → va_S (fun _ => False) s.heap H lo → lv_has ls 6 [(0, .ref p0), (1, .int p1), (2, .int p2), (3, .int p3), (4, .int v3_4), (5, .ref y24)] → W p l e R s m (([.ref p0, .int p1, .int p2, .int p3] : List Value).toArray) below meth c H lo 0 0 Qz (F0 m 71 ls []) := by
        intro H lo ls hg1 hf71 hP hS hl
        obtain ⟨z71, ez71⟩ : ∃ y : Int32, y = v3_4 + 1 := ⟨_, rfl⟩
        refine lv_iinc (v := z71) (lv' := [(4, .int z71), (0, .ref p0), (1, .int p1), (2, .int p2), (3, .int p3), (5, .ref y24)]) hx hb dX5_canAllGo_71 hl (k := 4) rfl (by rw [ez71]; rfl) (by decide) rfl (fun ls hl => ?_)
        have bz71 := tq_add (k := v3_4.toInt) (q := 1) ez71 rfl (by decide +kernel) (by omega) (by omega)
        refine lv_goto (tgt := 3) hx hb dX5_canAllGo_74 (by decide) ?_
        exact ih3 _ (by omega) z71 _ _ _ rfl ⟨by omega, by omega⟩ (goOK_step hgo bz71 ey6 ey19 ey24 hg1) (fun c ok h o ho hN hb => by by_cases q : o < v3_4.toInt.toNat; (exact hfr c ok h o q hN hb); (obtain rfl : o = v3_4.toInt.toNat := (by omega); exact hf71 c ok h hN hb)) hP hS (lv_sub hl [1, 2, 3, 4, 0] rfl)
      refine lv_icmp_ne (tgt := 71) hx hb dX5_canAllGo_34 (by decide) (fun c34 => ?_) (fun c34 => ?_)
      · have t34 := tq_ne (k := z32.toInt) (q := (1)) c34 rfl (by decide +kernel)
        exact j71  _ _ _ (fun h => absurd ((congrArg Int32.toInt (show z32 = 1 by rw [ez32, ez30]; exact h)).trans (by decide +kernel)) t34) (fun c ok h hN hb => absurd ((hb_shr ez30 ez32 ⟨by omega, by omega⟩).1.mpr hb) t34) hP hS (lv_sub hl [1, 2, 3, 4, 5, 0] rfl)
      · have t34 := tq_eq (k := z32.toInt) (q := (1)) c34 rfl (by decide +kernel)
        refine lv_aload hx hb dX5_canAllGo_37 (lv_at hl 0 rfl) ?_
        refine p_get hx hb hts inX0 hown hK hP hLy24 hKy24 rfl rfl 1 (by decide) (hts _ pq173) rfl dX5_canAllGo_39 ?_
        refine lv_topi (fun z39 ez39 => ?_)
        have cgz39 := congrArg Int32.toInt ez39
        have bz39 := oI_0_1 (Iv_at hI hLy24 hKy24)
        rw [← ez39] at bz39
        refine lv_iload_n hx hb dX5_canAllGo_42 rfl (lv_at hl 3 rfl) ?_
        refine lv_iadd hx hb dX5_canAllGo_43 ?_
        refine lv_topi (fun z43 ez43 => ?_)
        have bz43 := tq_add (k := z39.toInt) (q := p2.toInt) ez43 rfl rfl (by omega) (by omega)
        refine lv_sipush (v := 999) hx hb dX5_canAllGo_44 (by decide +kernel) ?_
        refine ro_i (va_runSN (As := [.int z43, .int 999]) (rest := []) ⟨hx, hb, hml, hown, hts⟩ (s_X6_isWithin l dC dI cs L K G Q hQ x0 m0 tx tm H.size I J hI z43 999 ⟨by decide +kernel, by decide +kernel⟩) ⟨va_cnB 2 hts (gI pq642) rfl rfl rfl (xN_X5_141 hN) (hts _ pq74) (by decide +kernel) ⟨(by rw [hR]; exact (Nat.le_of_ble_eq_true rfl)), (by rw [hR]; exact (Nat.le_of_ble_eq_true rfl))⟩, hts _ pq641, trivial⟩ (sP_S hP hD hK hN) rfl rfl hl.1 rfl (lv_room (Nat.le_of_ble_eq_true rfl)) dX5_canAllGo_47 ⟨(by rw [hR]; exact (Nat.le_of_ble_eq_true rfl)), (by rw [hR]; exact (Nat.le_of_ble_eq_true rfl))⟩) hS hP (fun z47 H locs hz47 hP hS => ?_)
        have cst47_999 : (999 : Int32).toInt = 999 := by decide +kernel
        obtain ⟨bz47, imz47, xpz47⟩ := hz47
        try rw [cst47_999] at xpz47
        refine lv_if_eq (tgt := 69) hx hb dX5_canAllGo_50 (by decide) (fun c50 => ?_) (fun c50 => ?_)
        · have t50 := tq_eq (k := z47.toInt) (q := (0)) c50 rfl (by decide +kernel)
          refine lv_iconst (v := 0) hx hb dX5_canAllGo_69 (by decide +kernel) ?_
          subst hR; subst hQz
          exact W.zret (v := 0) hx hb hr (by decide +kernel) (fun t ht hW => ⟨⟨0, (), rfl, ⟨⟨by decide +kernel, by decide +kernel⟩, ⟨fun h => absurd (by decide +kernel) h, fun c ok h => ⟨fun q => absurd (by decide +kernel) q, fun q => by have n := h.2.1; rw [nf_of ey6, ← ez9] at n; have hN : v3_4.toInt.toNat < (c.1 1).toInt.toNat := (by rw [← n]; omega); have va := fun k (hk : k < 8) => h.2.2.2.2 v3_4.toInt.toNat hN k hk; rw [nf_of ey6, show fb Q y6 v3_4.toInt.toNat = y24 from fb_of ey19 ey24] at va; have xa : z39.toInt = bX c v3_4.toInt.toNat := (by rw [ez39, va 1 (by decide)]; rfl); have hb := (hb_shr ez30 ez32 ⟨by omega, by omega⟩).1.mp t34; first | exact absurd (fun w => xpz47 t50 (by rw [← xa] at w; omega)) (q _ hN hb) | (have ya : z55.toInt = bY c v3_4.toInt.toNat := (by rw [ez55, va 2 (by decide)]; rfl); exact absurd (fun w => xpz63 t66 (by rw [← ya] at w; omega)) (q _ hN hb))⟩⟩⟩, trivial⟩, hS.F ht⟩) hS.2.2 dX5_canAllGo_70
        · have t50 := tq_ne (k := z47.toInt) (q := (0)) c50 rfl (by decide +kernel)
          have i50 := imz47 t50
          refine lv_aload hx hb dX5_canAllGo_53 (lv_at hl 0 rfl) ?_
          refine p_get hx hb hts inX0 hown hK hP hLy24 hKy24 rfl rfl 2 (by decide) (hts _ pq176) rfl dX5_canAllGo_55 ?_
          refine lv_topi (fun z55 ez55 => ?_)
          have cgz55 := congrArg Int32.toInt ez55
          have bz55 := oI_0_2 (Iv_at hI hLy24 hKy24)
          rw [← ez55] at bz55
          refine lv_iload_n hx hb dX5_canAllGo_58 rfl (lv_at hl 4 rfl) ?_
          refine lv_iadd hx hb dX5_canAllGo_59 ?_
          refine lv_topi (fun z59 ez59 => ?_)
          have bz59 := tq_add (k := z55.toInt) (q := p3.toInt) ez59 rfl rfl (by omega) (by omega)
          refine lv_sipush (v := 999) hx hb dX5_canAllGo_60 (by decide +kernel) ?_
          refine ro_i (va_runSN (As := [.int z59, .int 999]) (rest := []) ⟨hx, hb, hml, hown, hts⟩ (s_X6_isWithin l dC dI cs L K G Q hQ x0 m0 tx tm H.size I J hI z59 999 ⟨by decide +kernel, by decide +kernel⟩) ⟨va_cnB 2 hts (gI pq642) rfl rfl rfl (xN_X5_141 hN) (hts _ pq74) (by decide +kernel) ⟨(by rw [hR]; exact (Nat.le_of_ble_eq_true rfl)), (by rw [hR]; exact (Nat.le_of_ble_eq_true rfl))⟩, hts _ pq641, trivial⟩ (sP_S hP hD hK hN) rfl rfl hl.1 rfl (lv_room (Nat.le_of_ble_eq_true rfl)) dX5_canAllGo_63 ⟨(by rw [hR]; exact (Nat.le_of_ble_eq_true rfl)), (by rw [hR]; exact (Nat.le_of_ble_eq_true rfl))⟩) hS hP (fun z63 H locs hz63 hP hS => ?_)
          have cst63_999 : (999 : Int32).toInt = 999 := by decide +kernel
          obtain ⟨bz63, imz63, xpz63⟩ := hz63
          try rw [cst63_999] at xpz63
          refine lv_if_ne (tgt := 71) hx hb dX5_canAllGo_66 (by decide) (fun c66 => ?_) (fun c66 => ?_)
          · have t66 := tq_ne (k := z63.toInt) (q := (0)) c66 rfl (by decide +kernel)
            have i66 := imz63 t66
            exact j71  _ _ _ (fun _ => ⟨⟨by omega, by omega⟩, by omega, by omega⟩) (fun c ok h hN hb w => by have va := fun k (hk : k < 8) => h.2.2.2.2 v3_4.toInt.toNat hN k hk; rw [nf_of ey6, show fb Q y6 v3_4.toInt.toNat = y24 from fb_of ey19 ey24] at va; have xa : z39.toInt = bX c v3_4.toInt.toNat := (by rw [ez39, va 1 (by decide)]; rfl); have ya : z55.toInt = bY c v3_4.toInt.toNat := (by rw [ez55, va 2 (by decide)]; rfl); exact w ⟨⟨by rw [← xa]; omega, by rw [← xa]; omega⟩, by rw [← ya]; omega, by rw [← ya]; omega⟩) hP hS (lv_sub hl [1, 2, 3, 4, 5, 0] rfl)
          · have t66 := tq_eq (k := z63.toInt) (q := (0)) c66 rfl (by decide +kernel)
            refine lv_iconst (v := 0) hx hb dX5_canAllGo_69 (by decide +kernel) ?_
            subst hR; subst hQz
            exact W.zret (v := 0) hx hb hr (by decide +kernel) (fun t ht hW => ⟨⟨0, (), rfl, ⟨⟨by decide +kernel, by decide +kernel⟩, ⟨fun h => absurd (by decide +kernel) h, fun c ok h => ⟨fun q => absurd (by decide +kernel) q, fun q => by have n := h.2.1; rw [nf_of ey6, ← ez9] at n; have hN : v3_4.toInt.toNat < (c.1 1).toInt.toNat := (by rw [← n]; omega); have va := fun k (hk : k < 8) => h.2.2.2.2 v3_4.toInt.toNat hN k hk; rw [nf_of ey6, show fb Q y6 v3_4.toInt.toNat = y24 from fb_of ey19 ey24] at va; have xa : z39.toInt = bX c v3_4.toInt.toNat := (by rw [ez39, va 1 (by decide)]; rfl); have hb := (hb_shr ez30 ez32 ⟨by omega, by omega⟩).1.mp t34; first | exact absurd (fun w => xpz47 t50 (by rw [← xa] at w; omega)) (q _ hN hb) | (have ya : z55.toInt = bY c v3_4.toInt.toNat := (by rw [ez55, va 2 (by decide)]; rfl); exact absurd (fun w => xpz63 t66 (by rw [← ya] at w; omega)) (q _ hN hb))⟩⟩⟩, trivial⟩, hS.F ht⟩) hS.2.2 dX5_canAllGo_70)
  exact key3 _ 0 _ _ _ rfl ⟨by decide +kernel, by decide +kernel⟩ goOK_zero (fun c ok h o ho => absurd ho (by rw [show (0 : Int32).toInt.toNat = 0 from by decide +kernel]; omega)) hP hS (lv_sub hl [1, 2, 3, 4, 0] rfl)

set_option maxHeartbeats 4000000 in
set_option maxRecDepth 100000 in
theorem s_J6_bitCount (l : Launch) (dC : Nat → ClassId) (dI : Nat → Nat → Nat) (cs : Nat → ClassId) (L : List Nat) (K : Nat → Nat) (Q : Nat → Nat → Option Nat) (sz : Nat) (I : Nat → Nat → Int32) (J : Nat → Nat → Int64) (p0 : Int32) : Met l yJ6_bitCount_0f7a4 (.code yJ6_bitCount_0f7a4 cJ6_bitCount_0f7a4 1 (some .int) :: pw) ({ frames := 0, cells := 0, slots := 0, locals := 0 }) (sP (dC, dI) cs [.int p0] sz L K I J Q) (va_Qi (fun (r : Int32) (_ : Unit) => (r = bc32 p0)) (fun _ _ => True) (fun _ => False)) 0 0 (fun _ => False) := by
  refine va_MetF (l := l) (cc := cJ6_bitCount_0f7a4) (maxL := 1) (ret := (some .int)) (by decide +kernel) rfl ?_
  intro p e s m args below meth c s₁ B hml hv
  obtain ⟨rfl, hsz, hP, hK, hD0, hN⟩ := hv
  have hx := B.exec
  have hb := B.bytes
  have hr := B.returns
  have hts := fun w (h : w ∈ pw) => atoms_spec (ws := Cond.code yJ6_bitCount_0f7a4 cJ6_bitCount_0f7a4 1 (some .int) :: pw) B.pre w (List.mem_cons_of_mem _ h)
  have hown : s.vm.findClass RJ6 = some m.cls := findClass_of_methodNamed B.named
  have hlocks := B.notSynchronized
  subst hsz
  have hD := hD0
  obtain ⟨H, hHe⟩ : ∃ H : Heap, H = s.heap := ⟨_, rfl⟩
  have hS : va_S (fun _ => False) s.heap H [] := by rw [hHe]; exact va_S.rf
  rw [← hHe] at hP
  have hl := lv_entry ([.int p0]) (n := 1) (Nat.le_of_ble_eq_true rfl)
  rw [lg_entry_eq]
  generalize (lg_sl ([.int p0]) ++ List.replicate (1 - (lg_sl ([.int p0])).length) Slot.unset).toArray = ls at hl ⊢
  have hl : lv_has ls 1 [(0, .int p0)] := hl
  rw [← hHe]
  refine namedW (fun R Qz hR hQz => ?_)
  refine lv_iload_n hx hb dJ6_bitCount_0f7a4_0 rfl (lv_at hl 0 rfl) ?_
  refine lv_iload_n hx hb dJ6_bitCount_0f7a4_1 rfl (lv_at hl 0 rfl) ?_
  refine lv_iconst (v := 1) hx hb dJ6_bitCount_0f7a4_2 (by decide +kernel) ?_
  refine lv_iushr hx hb dJ6_bitCount_0f7a4_3 rfl ?_
  refine lv_topi (fun z3 ez3 => ?_)
  refine lv_ldcw hx hb hown (hts _ pq806) dJ6_bitCount_0f7a4_4 ?_
  refine lv_iand hx hb dJ6_bitCount_0f7a4_7 ?_
  refine lv_topi (fun z7 ez7 => ?_)
  refine lv_isub hx hb dJ6_bitCount_0f7a4_8 ?_
  refine lv_topi (fun z8 ez8 => ?_)
  refine lv_istore_n (lv' := [(0, .int z8)]) hx hb dJ6_bitCount_0f7a4_9 rfl hl (by decide) rfl (fun ls hl => ?_)
  refine lv_iload_n hx hb dJ6_bitCount_0f7a4_10 rfl (lv_at hl 0 rfl) ?_
  refine lv_ldcw hx hb hown (hts _ pq807) dJ6_bitCount_0f7a4_11 ?_
  refine lv_iand hx hb dJ6_bitCount_0f7a4_14 ?_
  refine lv_topi (fun z14 ez14 => ?_)
  refine lv_iload_n hx hb dJ6_bitCount_0f7a4_15 rfl (lv_at hl 0 rfl) ?_
  refine lv_iconst (v := 2) hx hb dJ6_bitCount_0f7a4_16 (by decide +kernel) ?_
  refine lv_iushr hx hb dJ6_bitCount_0f7a4_17 rfl ?_
  refine lv_topi (fun z17 ez17 => ?_)
  refine lv_ldcw hx hb hown (hts _ pq807) dJ6_bitCount_0f7a4_18 ?_
  refine lv_iand hx hb dJ6_bitCount_0f7a4_21 ?_
  refine lv_topi (fun z21 ez21 => ?_)
  refine lv_iadd hx hb dJ6_bitCount_0f7a4_22 ?_
  refine lv_topi (fun z22 ez22 => ?_)
  refine lv_istore_n (lv' := [(0, .int z22)]) hx hb dJ6_bitCount_0f7a4_23 rfl hl (by decide) rfl (fun ls hl => ?_)
  refine lv_iload_n hx hb dJ6_bitCount_0f7a4_24 rfl (lv_at hl 0 rfl) ?_
  refine lv_iload_n hx hb dJ6_bitCount_0f7a4_25 rfl (lv_at hl 0 rfl) ?_
  refine lv_iconst (v := 4) hx hb dJ6_bitCount_0f7a4_26 (by decide +kernel) ?_
  refine lv_iushr hx hb dJ6_bitCount_0f7a4_27 rfl ?_
  refine lv_topi (fun z27 ez27 => ?_)
  refine lv_iadd hx hb dJ6_bitCount_0f7a4_28 ?_
  refine lv_topi (fun z28 ez28 => ?_)
  refine lv_ldcw hx hb hown (hts _ pq808) dJ6_bitCount_0f7a4_29 ?_
  refine lv_iand hx hb dJ6_bitCount_0f7a4_32 ?_
  refine lv_topi (fun z32 ez32 => ?_)
  refine lv_istore_n (lv' := [(0, .int z32)]) hx hb dJ6_bitCount_0f7a4_33 rfl hl (by decide) rfl (fun ls hl => ?_)
  refine lv_iload_n hx hb dJ6_bitCount_0f7a4_34 rfl (lv_at hl 0 rfl) ?_
  refine lv_iload_n hx hb dJ6_bitCount_0f7a4_35 rfl (lv_at hl 0 rfl) ?_
  refine lv_bipush (v := 8) hx hb dJ6_bitCount_0f7a4_36 (by decide +kernel) ?_
  refine lv_iushr hx hb dJ6_bitCount_0f7a4_38 rfl ?_
  refine lv_topi (fun z38 ez38 => ?_)
  refine lv_iadd hx hb dJ6_bitCount_0f7a4_39 ?_
  refine lv_topi (fun z39 ez39 => ?_)
  refine lv_istore_n (lv' := [(0, .int z39)]) hx hb dJ6_bitCount_0f7a4_40 rfl hl (by decide) rfl (fun ls hl => ?_)
  refine lv_iload_n hx hb dJ6_bitCount_0f7a4_41 rfl (lv_at hl 0 rfl) ?_
  refine lv_iload_n hx hb dJ6_bitCount_0f7a4_42 rfl (lv_at hl 0 rfl) ?_
  refine lv_bipush (v := 16) hx hb dJ6_bitCount_0f7a4_43 (by decide +kernel) ?_
  refine lv_iushr hx hb dJ6_bitCount_0f7a4_45 rfl ?_
  refine lv_topi (fun z45 ez45 => ?_)
  refine lv_iadd hx hb dJ6_bitCount_0f7a4_46 ?_
  refine lv_topi (fun z46 ez46 => ?_)
  refine lv_istore_n (lv' := [(0, .int z46)]) hx hb dJ6_bitCount_0f7a4_47 rfl hl (by decide) rfl (fun ls hl => ?_)
  refine lv_iload_n hx hb dJ6_bitCount_0f7a4_48 rfl (lv_at hl 0 rfl) ?_
  refine lv_bipush (v := 63) hx hb dJ6_bitCount_0f7a4_49 (by decide +kernel) ?_
  refine lv_iand hx hb dJ6_bitCount_0f7a4_51 ?_
  refine lv_topi (fun z51 ez51 => ?_)
  have bz51 := tq_and 6 ez51 (by decide +kernel) (by decide)
  subst hR; subst hQz
  exact W.iret (v := z51) hx hb hr (fun t ht hW => ⟨⟨z51, (), rfl, (by subst ez3; subst ez7; subst ez8; subst ez14; subst ez17; subst ez21; subst ez22; subst ez27; subst ez28; subst ez32; subst ez38; subst ez39; subst ez45; subst ez46; subst ez51; rfl), trivial⟩, hS.F ht⟩) hS.2.2 dJ6_bitCount_0f7a4_52

set_option maxHeartbeats 4000000 in
set_option maxRecDepth 100000 in
theorem s_X5_mostIfDown (l : Launch) (dC : Nat → ClassId) (dI : Nat → Nat → Nat) (cs : Nat → ClassId) (L : List Nat) (K G : Nat → Nat) (Q : Nat → Nat → Option Nat) (hQ : Sv L K G Q) (x0 m0 : Nat) (tx : GT) (tm : GT × Int) (sz : Nat) (I : Nat → Nat → Int32) (J : Nat → Nat → Int64) (hI : Iv L K x0 m0 tx tm I) (p0 : Nat) (hLp0 : p0 ∈ L) (hKp0 : K p0 = 3) (p1 : Nat) (hLp1 : p1 ∈ L) (hKp1 : K p1 = 3) (p2 : Int32) (bp2 : (-300) ≤ p2.toInt ∧ p2.toInt ≤ 300) : Met l yX5_mostIfDown (.code yX5_mostIfDown cX5_mostIfDown 6 (some .int) :: pw) ({ frames := 2, cells := 0, slots := 0, locals := 42 }) (sP (dC, dI) cs [.ref p0, .ref p1, .int p2] sz L K I J Q) (va_Qi (fun (r : Int32) (_ : Unit) => (mko Q I J p0 → mko Q I J p1 → ¬ (I p0 3).toInt = 0 → ¬ (I p1 3).toInt = 0 → ∀ dx : Int, cmN (J (wo Q p0)) (J (wo Q p1)) dx p2.toInt ≤ r.toInt)) (fun _ _ => True) (fun _ => False)) 0 0 (fun _ => False) := by
  refine Met.ofW (cc := cX5_mostIfDown) (maxL := 6) (ret := (some .int)) (by decide +kernel) rfl ?_
  intro p e s m args below meth c s₁ B hml hv
  obtain ⟨rfl, hsz, hP, hK, hD0, hN⟩ := hv
  have hx := B.exec
  have hb := B.bytes
  have hr := B.returns
  have hts := fun w (h : w ∈ pw) => atoms_spec (ws := Cond.code yX5_mostIfDown cX5_mostIfDown 6 (some .int) :: pw) B.pre w (List.mem_cons_of_mem _ h)
  have hown : s.vm.findClass RX5 = some m.cls := findClass_of_methodNamed B.named
  have hlocks := B.notSynchronized
  subst hsz
  have hBB : 999 ≤ tm.2 ∧ tm.2 ≤ 6000000 := hI.2.2.2.2.1
  have hD := hD0
  obtain ⟨H, hHe⟩ : ∃ H : Heap, H = s.heap := ⟨_, rfl⟩
  have hS : va_S (fun _ => False) s.heap H [] := by rw [hHe]; exact va_S.rf
  rw [← hHe] at hP
  have hl := lv_entry ([.ref p0, .ref p1, .int p2]) (n := 6) (Nat.le_of_ble_eq_true rfl)
  rw [lg_entry_eq]
  generalize (lg_sl ([.ref p0, .ref p1, .int p2]) ++ List.replicate (6 - (lg_sl ([.ref p0, .ref p1, .int p2])).length) Slot.unset).toArray = ls at hl ⊢
  have hl : lv_has ls 6 [(0, .ref p0), (1, .ref p1), (2, .int p2)] := hl
  rw [← hHe]
  refine namedW (fun R Qz hR hQz => ?_)
  refine lv_iconst (v := 0) hx hb dX5_mostIfDown_0 (by decide +kernel) ?_
  refine lv_istore_n (lv' := [(3, .int 0), (0, .ref p0), (1, .ref p1), (2, .int p2)]) hx hb dX5_mostIfDown_1 rfl hl (by decide) rfl (fun ls hl => ?_)
  refine lv_aload_n hx hb dX5_mostIfDown_2 rfl (lv_at hl 1 rfl) ?_
  refine p_get hx hb hts inX3 hown hK hP hLp0 hKp0 rfl rfl 7 (by decide) (hts _ pq142) rfl dX5_mostIfDown_3 ?_
  refine lv_topi (fun z3 ez3 => ?_)
  have bz3 := oI_3_7 (Iv_at hI hLp0 hKp0)
  rw [← ez3] at bz3
  refine lv_aload_n hx hb dX5_mostIfDown_6 rfl (lv_at hl 2 rfl) ?_
  refine p_get hx hb hts inX3 hown hK hP hLp1 hKp1 rfl rfl 7 (by decide) (hts _ pq142) rfl dX5_mostIfDown_7 ?_
  refine lv_topi (fun z7 ez7 => ?_)
  have bz7 := oI_3_7 (Iv_at hI hLp1 hKp1)
  rw [← ez7] at bz7
  refine lv_iload_n hx hb dX5_mostIfDown_10 rfl (lv_at hl 3 rfl) ?_
  refine lv_iadd hx hb dX5_mostIfDown_11 ?_
  refine lv_topi (fun z11 ez11 => ?_)
  have bz11 := tq_add (k := z7.toInt) (q := p2.toInt) ez11 rfl rfl (by omega) (by omega)
  refine va_mmin hx hb (hml.trans hl.1.symm) hown (hts _ pq764) (hts _ pq407) (hts _ pq82) (hts _ pq408) (by rw [hR]; exact (Nat.le_of_ble_eq_true rfl)) (by rw [hR]; exact (Nat.le_of_ble_eq_true rfl)) (by rw [hR]; exact (Nat.le_of_ble_eq_true rfl)) (by rw [hR]; exact (Nat.le_of_ble_eq_true rfl)) dX5_mostIfDown_12 ?_
  refine lv_topi (fun z12 ez12 => ?_)
  have bz12 := tq_min ez12
  refine lv_istore (lv' := [(4, .int z12), (3, .int 0), (0, .ref p0), (1, .ref p1), (2, .int p2)]) hx hb dX5_mostIfDown_15 hl (by decide) rfl (fun ls hl => ?_)
  refine lv_aload_n hx hb dX5_mostIfDown_17 rfl (lv_at hl 2 rfl) ?_
  refine p_get hx hb hts inX3 hown hK hP hLp0 hKp0 rfl rfl 5 (by decide) (hts _ pq136) rfl dX5_mostIfDown_18 ?_
  refine lv_topi (fun z18 ez18 => ?_)
  have bz18 := oI_3_5 (Iv_at hI hLp0 hKp0)
  rw [← ez18] at bz18
  refine lv_aload_n hx hb dX5_mostIfDown_21 rfl (lv_at hl 3 rfl) ?_
  refine p_get hx hb hts inX3 hown hK hP hLp1 hKp1 rfl rfl 5 (by decide) (hts _ pq136) rfl dX5_mostIfDown_22 ?_
  refine lv_topi (fun z22 ez22 => ?_)
  have bz22 := oI_3_5 (Iv_at hI hLp1 hKp1)
  rw [← ez22] at bz22
  refine lv_iload_n hx hb dX5_mostIfDown_25 rfl (lv_at hl 4 rfl) ?_
  refine lv_iadd hx hb dX5_mostIfDown_26 ?_
  refine lv_topi (fun z26 ez26 => ?_)
  have bz26 := tq_add (k := z22.toInt) (q := p2.toInt) ez26 rfl rfl (by omega) (by omega)
  refine va_mmax hx hb (hml.trans hl.1.symm) hown (hts _ pq765) (hts _ pq750) (hts _ pq82) (hts _ pq751) (by rw [hR]; exact (Nat.le_of_ble_eq_true rfl)) (by rw [hR]; exact (Nat.le_of_ble_eq_true rfl)) (by rw [hR]; exact (Nat.le_of_ble_eq_true rfl)) (by rw [hR]; exact (Nat.le_of_ble_eq_true rfl)) dX5_mostIfDown_27 ?_
  refine lv_topi (fun z27 ez27 => ?_)
  have bz27 := tq_max ez27
  refine lv_istore (lv' := [(5, .int z27), (4, .int z12), (3, .int 0), (0, .ref p0), (1, .ref p1), (2, .int p2)]) hx hb dX5_mostIfDown_30 hl (by decide) rfl (fun ls hl => ?_)
  have key32 := blocks (fun n => ∀ (v32_3 : Int32) (v32_5 : Int32) (H : Heap) (lo : List Loc) (ls : Array Slot), (340 - v32_5.toInt).toNat = n → ((-1) ≤ v32_5.toInt ∧ v32_5.toInt ≤ 339) → z27.toInt ≤ v32_5.toInt → (mko Q I J p0 → mko Q I J p1 → ¬ (I p0 3).toInt = 0 → ¬ (I p1 3).toInt = 0 → (∀ dx : Int, (cntD (ahD (cmD (J (wo Q p0)) (J (wo Q p1)) dx p2.toInt) v32_5.toInt 0) : Int) ≤ v32_3.toInt) ∧ 0 ≤ v32_3.toInt ∧ v32_3.toInt ≤ 128 * v32_5.toInt) → va_P (dC, dI) vwCl (Wd cs L K I J Q) H → va_S (fun _ => False) s.heap H lo → lv_has ls 6 [(0, .ref p0), (1, .ref p1), (2, .int p2), (3, .int v32_3), (4, .int z12), (5, .int v32_5)] → W p l e R s m (([.ref p0, .ref p1, .int p2] : List Value).toArray) below meth c H lo 0 0 Qz (F0 m 32 ls [])) (by
    intro n ih32
    intro v32_3 v32_5 H lo ls hmu32 bv32_5 hy32 g32 hP hS hl
    refine lv_iload hx hb dX5_mostIfDown_32 (lv_at hl 5 rfl) ?_
    refine lv_iload hx hb dX5_mostIfDown_34 (lv_at hl 4 rfl) ?_
    refine lv_icmp_gt (tgt := 65) hx hb dX5_mostIfDown_36 (by decide) (fun c36 => ?_) (fun c36 => ?_)
    · have t36 := tq_lt (k := z12.toInt) (q := v32_5.toInt) c36 rfl rfl
      refine lv_iload_n hx hb dX5_mostIfDown_65 rfl (lv_at hl 3 rfl) ?_
      subst hR; subst hQz
      exact W.iret (v := v32_3) hx hb hr (fun t ht hW => ⟨⟨v32_3, (), rfl, (fun ma mb na nb_ => by have e3 : z3.toInt = (I p0 7).toInt := congrArg Int32.toInt ez3; have e7 : z7.toInt = (I p1 7).toInt := congrArg Int32.toInt ez7; have e18 : z18.toInt = (I p0 5).toInt := congrArg Int32.toInt ez18; have e22 : z22.toInt = (I p1 5).toInt := congrArg Int32.toInt ez22; have oa := ma.1; have ob := mb.1; have oa2 := oa.2.1; have ob2 := ob.2.1; obtain ⟨-, ⟨_, ta⟩, -, ⟨_, ba⟩, -⟩ := ma.2.2.1 na; obtain ⟨-, ⟨_, tb⟩, -, ⟨_, bb⟩, -⟩ := mb.2.2.1 nb_; have ta1 := md_b oa.2.2 _ _ ta; have ba1 := md_b oa.2.2 _ _ ba; have tb1 := md_b ob.2.2 _ _ tb; have bb1 := md_b ob.2.2 _ _ bb; have H : ∀ dx x y : Int, cmD (J (wo Q p0)) (J (wo Q p1)) dx p2.toInt x y = true → 0 ≤ x ∧ z27.toInt ≤ y ∧ y ≤ z12.toInt := (fun dx x y q => by have k := cm_t.mp q; have k1 := msr_pos ma.2 k.1; have k2 := msr_pos mb.2 k.2; have k3 := md_rng k.1; omega); intro dx; have g := (g32 ma mb na nb_).1 dx; unfold cmN; rw [cnt_congr (D := ahD (cmD (J (wo Q p0)) (J (wo Q p1)) dx p2.toInt) v32_5.toInt 0) (E := (cmD (J (wo Q p0)) (J (wo Q p1)) dx p2.toInt)) (fun x y _ _ _ _ => ah_hi (fun X Y q => by have := H dx X Y q; omega) x y)] at g; exact g), trivial⟩, hS.F ht⟩) hS.2.2 dX5_mostIfDown_66
    · have t36 := tq_nlt (k := z12.toInt) (q := v32_5.toInt) c36 rfl rfl
      refine lv_iload_n hx hb dX5_mostIfDown_39 rfl (lv_at hl 3 rfl) ?_
      refine lv_aload_n hx hb dX5_mostIfDown_40 rfl (lv_at hl 0 rfl) ?_
      refine lv_iload hx hb dX5_mostIfDown_41 (lv_at hl 5 rfl) ?_
      refine ro_i (va_runV (As := [.int v32_5]) (rest := [.int v32_3]) ⟨hx, hb, hml, hown, hts⟩ (s_X3_dotsOfRow l dC dI cs L K G Q hQ x0 m0 tx tm H.size I J hI p0 hLp0 hKp0 v32_5) (cwV 1 hts (gV pq1060 pq938 pq939 pq76 pq940) rfl rfl rfl (by decide +kernel) ⟨(by rw [hR]; exact (Nat.le_of_ble_eq_true rfl)), (by rw [hR]; exact (Nat.le_of_ble_eq_true rfl))⟩) (sP_V hP hD hK hN hLp0 hKp0 rfl rfl) rfl rfl hl.1 rfl (lv_room (Nat.le_of_ble_eq_true rfl)) dX5_mostIfDown_43 ⟨(by rw [hR]; exact (Nat.le_of_ble_eq_true rfl)), (by rw [hR]; exact (Nat.le_of_ble_eq_true rfl))⟩) hS hP (fun z43 H locs hz43 hP hS => ?_)
      obtain ⟨bz43, xpz43⟩ := hz43
      refine lv_aload_n hx hb dX5_mostIfDown_46 rfl (lv_at hl 1 rfl) ?_
      refine lv_iload hx hb dX5_mostIfDown_47 (lv_at hl 5 rfl) ?_
      refine lv_iload_n hx hb dX5_mostIfDown_49 rfl (lv_at hl 2 rfl) ?_
      refine lv_isub hx hb dX5_mostIfDown_50 ?_
      refine lv_topi (fun z50 ez50 => ?_)
      have bz50 := tq_sub (k := v32_5.toInt) (q := p2.toInt) ez50 rfl rfl (by omega) (by omega)
      refine ro_i (va_runV (As := [.int z50]) (rest := [.int z43, .int v32_3]) ⟨hx, hb, hml, hown, hts⟩ (s_X3_dotsOfRow l dC dI cs L K G Q hQ x0 m0 tx tm H.size I J hI p1 hLp1 hKp1 z50) (cwV 1 hts (gV pq1060 pq938 pq939 pq76 pq940) rfl rfl rfl (by decide +kernel) ⟨(by rw [hR]; exact (Nat.le_of_ble_eq_true rfl)), (by rw [hR]; exact (Nat.le_of_ble_eq_true rfl))⟩) (sP_V hP hD hK hN hLp1 hKp1 rfl rfl) rfl rfl hl.1 rfl (lv_room (Nat.le_of_ble_eq_true rfl)) dX5_mostIfDown_51 ⟨(by rw [hR]; exact (Nat.le_of_ble_eq_true rfl)), (by rw [hR]; exact (Nat.le_of_ble_eq_true rfl))⟩) hS hP (fun z51 H locs hz51 hP hS => ?_)
      obtain ⟨bz51, xpz51⟩ := hz51
      refine va_mmin hx hb (hml.trans hl.1.symm) hown (hts _ pq764) (hts _ pq407) (hts _ pq82) (hts _ pq408) (by rw [hR]; exact (Nat.le_of_ble_eq_true rfl)) (by rw [hR]; exact (Nat.le_of_ble_eq_true rfl)) (by rw [hR]; exact (Nat.le_of_ble_eq_true rfl)) (by rw [hR]; exact (Nat.le_of_ble_eq_true rfl)) dX5_mostIfDown_54 ?_
      refine lv_topi (fun z54 ez54 => ?_)
      have bz54 := tq_min ez54
      refine lv_iadd hx hb dX5_mostIfDown_57 ?_
      refine lv_topi (fun z57 ez57 => ?_)
      refine lv_istore_n (lv' := [(3, .int z57), (0, .ref p0), (1, .ref p1), (2, .int p2), (4, .int z12), (5, .int v32_5)]) hx hb dX5_mostIfDown_58 rfl hl (by decide) rfl (fun ls hl => ?_)
      obtain ⟨z59, ez59⟩ : ∃ y : Int32, y = v32_5 + 1 := ⟨_, rfl⟩
      refine lv_iinc (v := z59) (lv' := [(5, .int z59), (3, .int z57), (0, .ref p0), (1, .ref p1), (2, .int p2), (4, .int z12)]) hx hb dX5_mostIfDown_59 hl (k := 5) rfl (by rw [ez59]; rfl) (by decide) rfl (fun ls hl => ?_)
      have bz59 := tq_add (k := v32_5.toInt) (q := 1) ez59 rfl (by decide +kernel) (by omega) (by omega)
      refine lv_goto (tgt := 32) hx hb dX5_mostIfDown_62 (by decide) ?_
      exact ih32 _ (by omega) z57 z59 _ _ _ rfl ⟨by omega, by omega⟩ (by omega) (fun ma mb na nb_ => by have e3 : z3.toInt = (I p0 7).toInt := congrArg Int32.toInt ez3; have e7 : z7.toInt = (I p1 7).toInt := congrArg Int32.toInt ez7; have e18 : z18.toInt = (I p0 5).toInt := congrArg Int32.toInt ez18; have e22 : z22.toInt = (I p1 5).toInt := congrArg Int32.toInt ez22; have oa := ma.1; have ob := mb.1; have oa2 := oa.2.1; have ob2 := ob.2.1; obtain ⟨-, ⟨_, ta⟩, -, ⟨_, ba⟩, -⟩ := ma.2.2.1 na; obtain ⟨-, ⟨_, tb⟩, -, ⟨_, bb⟩, -⟩ := mb.2.2.1 nb_; have ta1 := md_b oa.2.2 _ _ ta; have ba1 := md_b oa.2.2 _ _ ba; have tb1 := md_b ob.2.2 _ _ tb; have bb1 := md_b ob.2.2 _ _ bb; have H : ∀ dx x y : Int, cmD (J (wo Q p0)) (J (wo Q p1)) dx p2.toInt x y = true → 0 ≤ x ∧ z27.toInt ≤ y ∧ y ≤ z12.toInt := (fun dx x y q => by have k := cm_t.mp q; have k1 := msr_pos ma.2 k.1; have k2 := msr_pos mb.2 k.2; have k3 := md_rng k.1; omega); obtain ⟨g, g1, g2⟩ := g32 ma mb na nb_; have w1 := xpz43 oa (by omega) (by omega); have w2 := xpz51 ob (by omega) (by omega); have a57 := tq_add (k := v32_3.toInt) (q := z54.toInt) ez57 rfl rfl (by omega) (by omega); exact ⟨fun dx => by have k := ah_line (D := (cmD (J (wo Q p0)) (J (wo Q p1)) dx p2.toInt)) (Y := v32_5.toInt) (Y1 := z59.toInt) (fun x y q => (H dx x y q).1) (by omega) (by omega); have cl := cm_line (f := J (wo Q p0)) (g := J (wo Q p1)) (dx := dx) (dy := p2.toInt) (r := v32_5.toInt.toNat) (k := z50.toInt.toNat) (by omega); have g3 := g dx; rw [k]; omega, by omega, by omega⟩) hP hS (lv_sub hl [2, 3, 4, 1, 5, 0] rfl))
  exact key32 _ 0 z27 _ _ _ rfl ⟨by omega, by omega⟩ (by omega) (fun ma mb na nb_ => by have e3 : z3.toInt = (I p0 7).toInt := congrArg Int32.toInt ez3; have e7 : z7.toInt = (I p1 7).toInt := congrArg Int32.toInt ez7; have e18 : z18.toInt = (I p0 5).toInt := congrArg Int32.toInt ez18; have e22 : z22.toInt = (I p1 5).toInt := congrArg Int32.toInt ez22; have oa := ma.1; have ob := mb.1; have oa2 := oa.2.1; have ob2 := ob.2.1; obtain ⟨-, ⟨_, ta⟩, -, ⟨_, ba⟩, -⟩ := ma.2.2.1 na; obtain ⟨-, ⟨_, tb⟩, -, ⟨_, bb⟩, -⟩ := mb.2.2.1 nb_; have ta1 := md_b oa.2.2 _ _ ta; have ba1 := md_b oa.2.2 _ _ ba; have tb1 := md_b ob.2.2 _ _ tb; have bb1 := md_b ob.2.2 _ _ bb; have H : ∀ dx x y : Int, cmD (J (wo Q p0)) (J (wo Q p1)) dx p2.toInt x y = true → 0 ≤ x ∧ z27.toInt ≤ y ∧ y ≤ z12.toInt := (fun dx x y q => by have k := cm_t.mp q; have k1 := msr_pos ma.2 k.1; have k2 := msr_pos mb.2 k.2; have k3 := md_rng k.1; omega); exact ⟨fun dx => by rw [cnt_z.mpr (fun x y _ _ _ _ => ah_lo (fun X Y q => by have := H dx X Y q; omega) x y)]; show ((0 : Nat) : Int) ≤ (0 : Int32).toInt; decide +kernel, by decide +kernel, by rw [show (0 : Int32).toInt = 0 from by decide +kernel]; omega⟩) hP hS (lv_sub hl [3, 4, 5, 2, 1, 0] rfl)
