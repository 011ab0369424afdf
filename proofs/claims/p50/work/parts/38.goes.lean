def yX7_isPushed : MethodName := ⟨RX7, "isPushed", "(IIII)Z"⟩
abbrev cX7_isPushed : ByteArray := prog_9_method_73_code
abbrev cX7_canGo : ByteArray := prog_9_method_74_code
abbrev cX7_goers : ByteArray := prog_9_method_72_code
def yX7_canGo : MethodName := ⟨RX7, "canGo", "(III)Z"⟩
def yX7_goers : MethodName := ⟨RX7, "goers", "(III)I"⟩
theorem dX7_canGo_0 : decode cX7_canGo 0 = .ok (.iconst 1, 1) := by decide +kernel
theorem dX7_canGo_1 : decode cX7_canGo 1 = .ok (.istore 4, 2) := by decide +kernel
theorem dX7_canGo_3 : decode cX7_canGo 3 = .ok (.iconst 0, 1) := by decide +kernel
theorem dX7_canGo_4 : decode cX7_canGo 4 = .ok (.istore 5, 2) := by decide +kernel
theorem dX7_canGo_6 : decode cX7_canGo 6 = .ok (.iload 5, 2) := by decide +kernel
theorem dX7_canGo_8 : decode cX7_canGo 8 = .ok (.aload_n 0, 1) := by decide +kernel
theorem dX7_canGo_9 : decode cX7_canGo 9 = .ok (.getfield 9, 3) := by decide +kernel
theorem dX7_canGo_12 : decode cX7_canGo 12 = .ok (.iconst 1, 1) := by decide +kernel
theorem dX7_canGo_13 : decode cX7_canGo 13 = .ok (.iaload, 1) := by decide +kernel
theorem dX7_canGo_14 : decode cX7_canGo 14 = .ok (.if_icmp .ge 55, 3) := by decide +kernel
theorem dX7_canGo_17 : decode cX7_canGo 17 = .ok (.iload 4, 2) := by decide +kernel
theorem dX7_canGo_19 : decode cX7_canGo 19 = .ok (.ifCond .eq 41, 3) := by decide +kernel
theorem dX7_canGo_22 : decode cX7_canGo 22 = .ok (.iload_n 1, 1) := by decide +kernel
theorem dX7_canGo_23 : decode cX7_canGo 23 = .ok (.iload 5, 2) := by decide +kernel
theorem dX7_canGo_25 : decode cX7_canGo 25 = .ok (.ishr, 1) := by decide +kernel
theorem dX7_canGo_26 : decode cX7_canGo 26 = .ok (.iconst 1, 1) := by decide +kernel
theorem dX7_canGo_27 : decode cX7_canGo 27 = .ok (.iand, 1) := by decide +kernel
theorem dX7_canGo_28 : decode cX7_canGo 28 = .ok (.ifCond .eq 28, 3) := by decide +kernel
theorem dX7_canGo_31 : decode cX7_canGo 31 = .ok (.aload_n 0, 1) := by decide +kernel
theorem dX7_canGo_32 : decode cX7_canGo 32 = .ok (.aload_n 0, 1) := by decide +kernel
theorem dX7_canGo_33 : decode cX7_canGo 33 = .ok (.iload 5, 2) := by decide +kernel
theorem dX7_canGo_35 : decode cX7_canGo 35 = .ok (.iconst 1, 1) := by decide +kernel
theorem dX7_canGo_36 : decode cX7_canGo 36 = .ok (.invokevirtual 199, 3) := by decide +kernel
theorem dX7_canGo_39 : decode cX7_canGo 39 = .ok (.iload_n 2, 1) := by decide +kernel
theorem dX7_canGo_40 : decode cX7_canGo 40 = .ok (.iadd, 1) := by decide +kernel
theorem dX7_canGo_41 : decode cX7_canGo 41 = .ok (.aload_n 0, 1) := by decide +kernel
theorem dX7_canGo_42 : decode cX7_canGo 42 = .ok (.iload 5, 2) := by decide +kernel
theorem dX7_canGo_44 : decode cX7_canGo 44 = .ok (.iconst 2, 1) := by decide +kernel
theorem dX7_canGo_45 : decode cX7_canGo 45 = .ok (.invokevirtual 199, 3) := by decide +kernel
theorem dX7_canGo_48 : decode cX7_canGo 48 = .ok (.iload_n 3, 1) := by decide +kernel
theorem dX7_canGo_49 : decode cX7_canGo 49 = .ok (.iadd, 1) := by decide +kernel
theorem dX7_canGo_50 : decode cX7_canGo 50 = .ok (.invokevirtual 273, 3) := by decide +kernel
theorem dX7_canGo_53 : decode cX7_canGo 53 = .ok (.ifCond .eq 7, 3) := by decide +kernel
theorem dX7_canGo_56 : decode cX7_canGo 56 = .ok (.iconst 1, 1) := by decide +kernel
theorem dX7_canGo_57 : decode cX7_canGo 57 = .ok (.goto 4, 3) := by decide +kernel
theorem dX7_canGo_60 : decode cX7_canGo 60 = .ok (.iconst 0, 1) := by decide +kernel
theorem dX7_canGo_61 : decode cX7_canGo 61 = .ok (.istore 4, 2) := by decide +kernel
theorem dX7_canGo_63 : decode cX7_canGo 63 = .ok (.iinc 5 1, 3) := by decide +kernel
theorem dX7_canGo_66 : decode cX7_canGo 66 = .ok (.goto (-60), 3) := by decide +kernel
theorem dX7_canGo_69 : decode cX7_canGo 69 = .ok (.iload 4, 2) := by decide +kernel
theorem dX7_canGo_71 : decode cX7_canGo 71 = .ok (.ireturn, 1) := by decide +kernel
theorem dX7_goers_0 : decode cX7_goers 0 = .ok (.iconst 1, 1) := by decide +kernel
theorem dX7_goers_1 : decode cX7_goers 1 = .ok (.iload_n 1, 1) := by decide +kernel
theorem dX7_goers_2 : decode cX7_goers 2 = .ok (.ishl, 1) := by decide +kernel
theorem dX7_goers_3 : decode cX7_goers 3 = .ok (.istore 4, 2) := by decide +kernel
theorem dX7_goers_5 : decode cX7_goers 5 = .ok (.iconst 1, 1) := by decide +kernel
theorem dX7_goers_6 : decode cX7_goers 6 = .ok (.istore 5, 2) := by decide +kernel
theorem dX7_goers_8 : decode cX7_goers 8 = .ok (.iload 5, 2) := by decide +kernel
theorem dX7_goers_10 : decode cX7_goers 10 = .ok (.ifCond .eq 64, 3) := by decide +kernel
theorem dX7_goers_13 : decode cX7_goers 13 = .ok (.iconst 0, 1) := by decide +kernel
theorem dX7_goers_14 : decode cX7_goers 14 = .ok (.istore 5, 2) := by decide +kernel
theorem dX7_goers_16 : decode cX7_goers 16 = .ok (.iconst 0, 1) := by decide +kernel
theorem dX7_goers_17 : decode cX7_goers 17 = .ok (.istore 6, 2) := by decide +kernel
theorem dX7_goers_19 : decode cX7_goers 19 = .ok (.iload 6, 2) := by decide +kernel
theorem dX7_goers_21 : decode cX7_goers 21 = .ok (.aload_n 0, 1) := by decide +kernel
theorem dX7_goers_22 : decode cX7_goers 22 = .ok (.getfield 9, 3) := by decide +kernel
theorem dX7_goers_25 : decode cX7_goers 25 = .ok (.iconst 1, 1) := by decide +kernel
theorem dX7_goers_26 : decode cX7_goers 26 = .ok (.iaload, 1) := by decide +kernel
theorem dX7_goers_27 : decode cX7_goers 27 = .ok (.if_icmp .ge 44, 3) := by decide +kernel
theorem dX7_goers_30 : decode cX7_goers 30 = .ok (.iload 4, 2) := by decide +kernel
theorem dX7_goers_32 : decode cX7_goers 32 = .ok (.iload 6, 2) := by decide +kernel
theorem dX7_goers_34 : decode cX7_goers 34 = .ok (.ishr, 1) := by decide +kernel
theorem dX7_goers_35 : decode cX7_goers 35 = .ok (.iconst 1, 1) := by decide +kernel
theorem dX7_goers_36 : decode cX7_goers 36 = .ok (.iand, 1) := by decide +kernel
theorem dX7_goers_37 : decode cX7_goers 37 = .ok (.ifCond .ne 28, 3) := by decide +kernel
theorem dX7_goers_40 : decode cX7_goers 40 = .ok (.aload_n 0, 1) := by decide +kernel
theorem dX7_goers_41 : decode cX7_goers 41 = .ok (.iload 4, 2) := by decide +kernel
theorem dX7_goers_43 : decode cX7_goers 43 = .ok (.iload 6, 2) := by decide +kernel
theorem dX7_goers_45 : decode cX7_goers 45 = .ok (.iload_n 2, 1) := by decide +kernel
theorem dX7_goers_46 : decode cX7_goers 46 = .ok (.iload_n 3, 1) := by decide +kernel
theorem dX7_goers_47 : decode cX7_goers 47 = .ok (.invokevirtual 334, 3) := by decide +kernel
theorem dX7_goers_50 : decode cX7_goers 50 = .ok (.ifCond .eq 15, 3) := by decide +kernel
theorem dX7_goers_53 : decode cX7_goers 53 = .ok (.iload 4, 2) := by decide +kernel
theorem dX7_goers_55 : decode cX7_goers 55 = .ok (.iconst 1, 1) := by decide +kernel
theorem dX7_goers_56 : decode cX7_goers 56 = .ok (.iload 6, 2) := by decide +kernel
theorem dX7_goers_58 : decode cX7_goers 58 = .ok (.ishl, 1) := by decide +kernel
theorem dX7_goers_59 : decode cX7_goers 59 = .ok (.ior, 1) := by decide +kernel
theorem dX7_goers_60 : decode cX7_goers 60 = .ok (.istore 4, 2) := by decide +kernel
theorem dX7_goers_62 : decode cX7_goers 62 = .ok (.iconst 1, 1) := by decide +kernel
theorem dX7_goers_63 : decode cX7_goers 63 = .ok (.istore 5, 2) := by decide +kernel
theorem dX7_goers_65 : decode cX7_goers 65 = .ok (.iinc 6 1, 3) := by decide +kernel
theorem dX7_goers_68 : decode cX7_goers 68 = .ok (.goto (-49), 3) := by decide +kernel
theorem dX7_goers_71 : decode cX7_goers 71 = .ok (.goto (-63), 3) := by decide +kernel
theorem dX7_goers_74 : decode cX7_goers 74 = .ok (.iload 4, 2) := by decide +kernel
theorem dX7_goers_76 : decode cX7_goers 76 = .ok (.ireturn, 1) := by decide +kernel
theorem dX7_isPushed_0 : decode cX7_isPushed 0 = .ok (.iconst 0, 1) := by decide +kernel
theorem dX7_isPushed_1 : decode cX7_isPushed 1 = .ok (.istore 5, 2) := by decide +kernel
theorem dX7_isPushed_3 : decode cX7_isPushed 3 = .ok (.iload 5, 2) := by decide +kernel
theorem dX7_isPushed_5 : decode cX7_isPushed 5 = .ok (.aload_n 0, 1) := by decide +kernel
theorem dX7_isPushed_6 : decode cX7_isPushed 6 = .ok (.getfield 9, 3) := by decide +kernel
theorem dX7_isPushed_9 : decode cX7_isPushed 9 = .ok (.iconst 1, 1) := by decide +kernel
theorem dX7_isPushed_10 : decode cX7_isPushed 10 = .ok (.iaload, 1) := by decide +kernel
theorem dX7_isPushed_11 : decode cX7_isPushed 11 = .ok (.if_icmp .ge 46, 3) := by decide +kernel
theorem dX7_isPushed_14 : decode cX7_isPushed 14 = .ok (.iload_n 1, 1) := by decide +kernel
theorem dX7_isPushed_15 : decode cX7_isPushed 15 = .ok (.iload 5, 2) := by decide +kernel
theorem dX7_isPushed_17 : decode cX7_isPushed 17 = .ok (.ishr, 1) := by decide +kernel
theorem dX7_isPushed_18 : decode cX7_isPushed 18 = .ok (.iconst 1, 1) := by decide +kernel
theorem dX7_isPushed_19 : decode cX7_isPushed 19 = .ok (.iand, 1) := by decide +kernel
theorem dX7_isPushed_20 : decode cX7_isPushed 20 = .ok (.iconst 1, 1) := by decide +kernel
theorem dX7_isPushed_21 : decode cX7_isPushed 21 = .ok (.if_icmp .ne 30, 3) := by decide +kernel
theorem dX7_isPushed_24 : decode cX7_isPushed 24 = .ok (.aload_n 0, 1) := by decide +kernel
theorem dX7_isPushed_25 : decode cX7_isPushed 25 = .ok (.iload 5, 2) := by decide +kernel
theorem dX7_isPushed_27 : decode cX7_isPushed 27 = .ok (.iload_n 2, 1) := by decide +kernel
theorem dX7_isPushed_28 : decode cX7_isPushed 28 = .ok (.iload_n 3, 1) := by decide +kernel
theorem dX7_isPushed_29 : decode cX7_isPushed 29 = .ok (.iload 4, 2) := by decide +kernel
theorem dX7_isPushed_31 : decode cX7_isPushed 31 = .ok (.invokevirtual 247, 3) := by decide +kernel
theorem dX7_isPushed_34 : decode cX7_isPushed 34 = .ok (.ifCond .eq 17, 3) := by decide +kernel
theorem dX7_isPushed_37 : decode cX7_isPushed 37 = .ok (.aload_n 0, 1) := by decide +kernel
theorem dX7_isPushed_38 : decode cX7_isPushed 38 = .ok (.iload 5, 2) := by decide +kernel
theorem dX7_isPushed_40 : decode cX7_isPushed 40 = .ok (.iload_n 2, 1) := by decide +kernel
theorem dX7_isPushed_41 : decode cX7_isPushed 41 = .ok (.iconst 0, 1) := by decide +kernel
theorem dX7_isPushed_42 : decode cX7_isPushed 42 = .ok (.iconst 0, 1) := by decide +kernel
theorem dX7_isPushed_43 : decode cX7_isPushed 43 = .ok (.invokevirtual 247, 3) := by decide +kernel
theorem dX7_isPushed_46 : decode cX7_isPushed 46 = .ok (.ifCond .ne 5, 3) := by decide +kernel
theorem dX7_isPushed_49 : decode cX7_isPushed 49 = .ok (.iconst 1, 1) := by decide +kernel
theorem dX7_isPushed_50 : decode cX7_isPushed 50 = .ok (.ireturn, 1) := by decide +kernel
theorem dX7_isPushed_51 : decode cX7_isPushed 51 = .ok (.iinc 5 1, 3) := by decide +kernel
theorem dX7_isPushed_54 : decode cX7_isPushed 54 = .ok (.goto (-51), 3) := by decide +kernel
theorem dX7_isPushed_57 : decode cX7_isPushed 57 = .ok (.iconst 0, 1) := by decide +kernel
theorem dX7_isPushed_58 : decode cX7_isPushed 58 = .ok (.ireturn, 1) := by decide +kernel
set_option maxRecDepth 100000 in
theorem pq50 : Cond.selects RX7 yX7_isPushed yX7_isPushed ∈ pw := pw_mem (i := 50) (by decide +kernel) rfl
set_option maxRecDepth 100000 in
theorem pq1486 : Cond.methodLink RX7 334 yX7_isPushed ∈ pw := pw_mem (i := 1486) (by decide +kernel) rfl
set_option maxRecDepth 100000 in
theorem pq1488 : Cond.instanceMethod yX7_isPushed ∈ pw := pw_mem (i := 1488) (by decide +kernel) rfl
set_option maxRecDepth 100000 in
theorem pq1489 : Cond.code yX7_isPushed cX7_isPushed 6 (some .boolean) ∈ pw := pw_mem (i := 1489) (by rfl) rfl
def cgO (f : Nat → Int32) (n : Int) (g dx dy : Int32) (lo hi : Int) : Prop := ∀ b : Int32, lo ≤ b.toInt → b.toInt < hi → b.toInt < n → (g >>> (b &&& 31)) &&& 1 = 1 → gB 999 f b.toInt.toNat dx dy
theorem cgO_step {f : Nat → Int32} {n : Int} {g dx dy v z : Int32} (h : cgO f n g dx dy 0 v.toInt) (hz : z.toInt = v.toInt + 1) (h1 : (g >>> (v &&& 31)) &&& 1 = 1 → gB 999 f v.toInt.toNat dx dy) : cgO f n g dx dy 0 z.toInt := by
  intro b h0 hi hn hb
  by_cases q : b.toInt < v.toInt
  · exact h b h0 q hn hb
  · obtain rfl : b = v := Int32.toInt_inj.mp (by omega)
    exact h1 hb
theorem cgO_go {f g2 : Nat → Int32} {n : Int} {g dx dy v : Int32} {hi w : Int} (h : cgO f n g dx dy v.toInt hi) (h0 : 0 ≤ v.toInt) (hz : w = v.toInt + 1) (e : g2 = gU f v.toInt.toNat dx dy) : cgO g2 n g dx dy w hi := by
  intro b b0 bh bn hb
  have hr := h b (by omega) bh bn hb
  unfold gB at hr ⊢
  rw [e, gU_ne (by omega) (by omega), gU_ne (by omega) (by omega)]
  exact hr
theorem cgO_sk {f : Nat → Int32} {n : Int} {g dx dy v : Int32} {hi w : Int} (h : cgO f n g dx dy v.toInt hi) (hz : w = v.toInt + 1) : cgO f n g dx dy w hi := fun b b0 bh bn hb => h b (by omega) bh bn hb
theorem bit01 {z : Int32} (e : z = z &&& 1) : True := trivial
theorem sh1_ge {i z : Int32} (e : z = 1 <<< (i &&& 31)) (h : 0 ≤ i.toInt ∧ i.toInt ≤ 9) : 0 ≤ z.toInt ∧ z.toInt ≤ 1023 := shl10 e h

set_option maxHeartbeats 4000000 in
set_option maxRecDepth 100000 in
theorem s_X7_isPushed (l : Launch) (dC : Nat → ClassId) (dI : Nat → Nat → Nat) (cs : Nat → ClassId) (L : List Nat) (K G : Nat → Nat) (Q : Nat → Nat → Option Nat) (hQ : Sv L K G Q) (x0 m0 : Nat) (tx : GT) (tm : GT × Int) (sz : Nat) (I : Nat → Nat → Int32) (J : Nat → Nat → Int64) (hI : Iv L K x0 m0 tx tm I) (p0 : Nat) (hLp0 : p0 ∈ L) (hKp0 : K p0 = 7) (p1 : Int32) (p2 : Int32) (bp2 : (0) ≤ p2.toInt ∧ p2.toInt ≤ 9) (p3 : Int32) (p4 : Int32) (bp4 : (-2000000000) ≤ p4.toInt ∧ p4.toInt ≤ 2000000000) : Met l yX7_isPushed (.code yX7_isPushed cX7_isPushed 6 (some .boolean) :: pw) ({ frames := 5, cells := 0, slots := 0, locals := 122 }) (sP (dC, dI) cs [.ref p0, .int p1, .int p2, .int p3, .int p4] sz L K I J Q) (va_Qi (fun (r : Int32) (_ : Unit) => ((0) ≤ r.toInt ∧ r.toInt ≤ 1) ∧ (∀ c : Fx, okF c → rI Q I p0 c → ldA Q J p0 c → p2.toInt.toNat < (c.1 1).toInt.toNat → ((-2000 ≤ p3.toInt ∧ p3.toInt ≤ 2000) ∧ (-2000 ≤ p4.toInt ∧ p4.toInt ≤ 2000)) → (¬ r.toInt = 0 ↔ ∃ b : Nat, b < (c.1 1).toInt.toNat ∧ hbt p1 b = true ∧ pE c p3.toInt p4.toInt b p2.toInt.toNat))) (fun _ _ => True) (fun _ => False)) 0 0 (fun _ => False) := by
  refine Met.ofW (cc := cX7_isPushed) (maxL := 6) (ret := (some .boolean)) (by decide +kernel) rfl ?_
  intro p e s m args below meth c s₁ B hml hv
  obtain ⟨rfl, hsz, hP, hK, hD0, hN⟩ := hv
  have hx := B.exec
  have hb := B.bytes
  have hr := B.returns
  have hts := fun w (h : w ∈ pw) => atoms_spec (ws := Cond.code yX7_isPushed cX7_isPushed 6 (some .boolean) :: pw) B.pre w (List.mem_cons_of_mem _ h)
  have hown : s.vm.findClass RX7 = some m.cls := findClass_of_methodNamed B.named
  have hlocks := B.notSynchronized
  subst hsz
  have hBB : 999 ≤ tm.2 ∧ tm.2 ≤ 6000000 := hI.2.2.2.2.1
  have hD := hD0
  obtain ⟨H, hHe⟩ : ∃ H : Heap, H = s.heap := ⟨_, rfl⟩
  have hS : va_S (fun _ => False) s.heap H [] := by rw [hHe]; exact va_S.rf
  rw [← hHe] at hP
  have hl := lv_entry ([.ref p0, .int p1, .int p2, .int p3, .int p4]) (n := 6) (Nat.le_of_ble_eq_true rfl)
  rw [lg_entry_eq]
  generalize (lg_sl ([.ref p0, .int p1, .int p2, .int p3, .int p4]) ++ List.replicate (6 - (lg_sl ([.ref p0, .int p1, .int p2, .int p3, .int p4])).length) Slot.unset).toArray = ls at hl ⊢
  have hl : lv_has ls 6 [(0, .ref p0), (1, .int p1), (2, .int p2), (3, .int p3), (4, .int p4)] := hl
  rw [← hHe]
  refine namedW (fun R Qz hR hQz => ?_)
  refine lv_iconst (v := 0) hx hb dX7_isPushed_0 (by decide +kernel) ?_
  refine lv_istore (lv' := [(5, .int 0), (0, .ref p0), (1, .int p1), (2, .int p2), (3, .int p3), (4, .int p4)]) hx hb dX7_isPushed_1 hl (by decide) rfl (fun ls hl => ?_)
  have key3 := blocks (fun n => ∀ (v3_5 : Int32) (H : Heap) (lo : List Loc) (ls : Array Slot), (11 - v3_5.toInt).toNat = n → ((0) ≤ v3_5.toInt ∧ v3_5.toInt ≤ 10) → (∀ c : Fx, okF c → rI Q I p0 c → ldA Q J p0 c → p2.toInt.toNat < (c.1 1).toInt.toNat → ((-2000 ≤ p3.toInt ∧ p3.toInt ≤ 2000) ∧ (-2000 ≤ p4.toInt ∧ p4.toInt ≤ 2000)) → ∀ b : Nat, b < v3_5.toInt.toNat → b < (c.1 1).toInt.toNat → hbt p1 b = true → ¬ pE c p3.toInt p4.toInt b p2.toInt.toNat) → va_P (dC, dI) vwCl (Wd cs L K I J Q) H → va_S (fun _ => False) s.heap H lo → lv_has ls 6 [(0, .ref p0), (1, .int p1), (2, .int p2), (3, .int p3), (4, .int p4), (5, .int v3_5)] → W p l e R s m (([.ref p0, .int p1, .int p2, .int p3, .int p4] : List Value).toArray) below meth c H lo 0 0 Qz (F0 m 3 ls [])) (by
    intro n ih3
    intro v3_5 H lo ls hmu3 bv3_5 h3 hP hS hl
    refine lv_iload hx hb dX7_isPushed_3 (lv_at hl 5 rfl) ?_
    refine lv_aload_n hx hb dX7_isPushed_5 rfl (lv_at hl 0 rfl) ?_
    obtain ⟨y6, ey6, hLy6, hKy6⟩ := oQ_7_0 (Sv_at hQ hLp0 hKp0)
    refine p_get (v := .ref y6) hx hb hts inX7 hown hK hP hLp0 hKp0 rfl rfl 0 (by decide) (hts _ pq1115) (congrArg (fun q => some (va_rf q)) ey6) dX7_isPushed_6 ?_
    refine lv_iconst (v := 1) hx hb dX7_isPushed_9 (by decide +kernel) ?_
    refine p_iald hx hb hK hP 8 hLy6 hKy6 rfl rfl (in_d (by decide +kernel)) dX7_isPushed_10 ?_
    refine lv_topi (fun z10 ez10 => ?_)
    have bz10 := rng1 (oR_18 (i := (1 : Int32)) (k := (1)) (by decide +kernel) (Iv_at hI hLy6 hKy6))
    rw [← ez10] at bz10
    refine lv_icmp_ge (tgt := 57) hx hb dX7_isPushed_11 (by decide) (fun c11 => ?_) (fun c11 => ?_)
    · have t11 := tq_le (k := z10.toInt) (q := v3_5.toInt) c11 rfl rfl
      refine lv_iconst (v := 0) hx hb dX7_isPushed_57 (by decide +kernel) ?_
      subst hR; subst hQz
      exact W.zret (v := 0) hx hb hr (by decide +kernel) (fun t ht hW => ⟨⟨0, (), rfl, ⟨⟨by decide +kernel, by decide +kernel⟩, (fun c ok h l hb bd => ⟨fun q => absurd (by decide +kernel) q, fun ⟨b, hN, hs, p⟩ => by have n : z10 = c.1 1 := (show z10 = I (a0 Q p0 0) 1 from by rw [ez10, show a0 Q p0 0 = y6 from gd_of ey6]; rfl).trans (h _ (by decide)); exact absurd p (h3 c ok h l hb bd b (by rw [← n] at hN; omega) hN hs)⟩)⟩, trivial⟩, hS.F ht⟩) hS.2.2 dX7_isPushed_58
    · have t11 := tq_nle (k := z10.toInt) (q := v3_5.toInt) c11 rfl rfl
      refine lv_iload_n hx hb dX7_isPushed_14 rfl (lv_at hl 1 rfl) ?_
      refine lv_iload hx hb dX7_isPushed_15 (lv_at hl 5 rfl) ?_
      refine lv_ishr hx hb dX7_isPushed_17 ?_
      refine lv_topi (fun z17 ez17 => ?_)
      refine lv_iconst (v := 1) hx hb dX7_isPushed_18 (by decide +kernel) ?_
      refine lv_iand hx hb dX7_isPushed_19 ?_
      refine lv_topi (fun z19 ez19 => ?_)
      have bz19 := tq_and 1 ez19 (by decide +kernel) (by decide)
      refine lv_iconst (v := 1) hx hb dX7_isPushed_20 (by decide +kernel) ?_
      have j51 : ∀ (H : Heap) (lo : List Loc) (ls : Array Slot), (∀ c : Fx, okF c → rI Q I p0 c → ldA Q J p0 c → p2.toInt.toNat < (c.1 1).toInt.toNat → ((-2000 ≤ p3.toInt ∧ p3.toInt ≤ 2000) ∧ (-2000 ≤ p4.toInt ∧ p4.toInt ≤ 2000)) → v3_5.toInt.toNat < (c.1 1).toInt.toNat → hbt p1 v3_5.toInt.toNat = true → ¬ pE c p3.toInt p4.toInt v3_5.toInt.toNat p2.toInt.toNat) → va_P (dC, dI) vwCl (Wd cs L K I J Q) H → va_S (fun _ => False) s.heap H lo → lv_has ls 6 [(0, .ref p0), (1, .int p1), (2, .int p2), (3, .int p3), (4, .int p4), (5, .int v3_5)] → W p l e R s m (([.ref p0, .int p1, .int p2, .int p3, .int p4] : List Value).toArray) below meth c H lo 0 0 Qz (F0 m 51 ls []) := by
        intro H lo ls h51 hP hS hl
        obtain ⟨z51, ez51⟩ : ∃ y : Int32, y = v3_5 + 1 := ⟨_, rfl⟩
        refine lv_iinc (v := z51) (lv' := [(5, .int z51), (0, .ref p0), (1, .int p1), (2, .int p2), (3, .int p3), (4, .int p4)]) hx hb dX7_isPushed_51 hl (k := 5) rfl (by rw [ez51]; rfl) (by decide) rfl (fun ls hl => ?_)
        have bz51 := tq_add (k := v3_5.toInt) (q := 1) ez51 rfl (by decide +kernel) (by omega) (by omega)
        refine lv_goto (tgt := 3) hx hb dX7_isPushed_54 (by decide) ?_
        exact ih3 _ (by omega) z51 _ _ _ rfl ⟨by omega, by omega⟩ (fun c ok h l hb bd b hl hN hs => by by_cases q : b < v3_5.toInt.toNat; (exact h3 c ok h l hb bd b q hN hs); (obtain rfl : b = v3_5.toInt.toNat := (by omega); exact h51 c ok h l hb bd hN hs)) hP hS (lv_sub hl [1, 2, 3, 4, 5, 0] rfl)
      refine lv_icmp_ne (tgt := 51) hx hb dX7_isPushed_21 (by decide) (fun c21 => ?_) (fun c21 => ?_)
      · have t21 := tq_ne (k := z19.toInt) (q := (1)) c21 rfl (by decide +kernel)
        exact j51  _ _ _ (fun c ok h l hb bd hN hs p => t21 ((hb_shr ez17 ez19 ⟨by omega, by omega⟩).1.mpr hs)) hP hS (lv_sub hl [0, 1, 2, 3, 4, 5] rfl)
      · have t21 := tq_eq (k := z19.toInt) (q := (1)) c21 rfl (by decide +kernel)
        refine lv_aload_n hx hb dX7_isPushed_24 rfl (lv_at hl 0 rfl) ?_
        refine lv_iload hx hb dX7_isPushed_25 (lv_at hl 5 rfl) ?_
        refine lv_iload_n hx hb dX7_isPushed_27 rfl (lv_at hl 2 rfl) ?_
        refine lv_iload_n hx hb dX7_isPushed_28 rfl (lv_at hl 3 rfl) ?_
        refine lv_iload hx hb dX7_isPushed_29 (lv_at hl 4 rfl) ?_
        refine ro_i (va_runV (As := [.int v3_5, .int p2, .int p3, .int p4]) (rest := []) ⟨hx, hb, hml, hown, hts⟩ (s_X7_touches l dC dI cs L K G Q hQ x0 m0 tx tm H.size I J hI p0 hLp0 hKp0 v3_5 ⟨by omega, by omega⟩ p2 ⟨by omega, by omega⟩ p3 p4 ⟨by omega, by omega⟩) (cwV 4 hts (gV pq1448 pq1450 pq44 pq81 pq1451) rfl rfl rfl (by decide +kernel) ⟨(by rw [hR]; exact (Nat.le_of_ble_eq_true rfl)), (by rw [hR]; exact (Nat.le_of_ble_eq_true rfl))⟩) (sP_V hP hD hK hN hLp0 hKp0 rfl rfl) rfl rfl hl.1 rfl (lv_room (Nat.le_of_ble_eq_true rfl)) dX7_isPushed_31 ⟨(by rw [hR]; exact (Nat.le_of_ble_eq_true rfl)), (by rw [hR]; exact (Nat.le_of_ble_eq_true rfl))⟩) hS hP (fun z31 H locs hz31 hP hS => ?_)
        obtain ⟨bz31, xpz31⟩ := hz31
        refine lv_if_eq (tgt := 51) hx hb dX7_isPushed_34 (by decide) (fun c34 => ?_) (fun c34 => ?_)
        · have t34 := tq_eq (k := z31.toInt) (q := (0)) c34 rfl (by decide +kernel)
          exact j51  _ _ _ (fun c ok h l hb bd hN hs p => absurd t34 ((xpz31 c ok h l hN hb (bd20 bd)).mpr (pE_to p).1)) hP hS (lv_sub hl [0, 1, 2, 3, 4, 5] rfl)
        · have t34 := tq_ne (k := z31.toInt) (q := (0)) c34 rfl (by decide +kernel)
          refine lv_aload_n hx hb dX7_isPushed_37 rfl (lv_at hl 0 rfl) ?_
          refine lv_iload hx hb dX7_isPushed_38 (lv_at hl 5 rfl) ?_
          refine lv_iload_n hx hb dX7_isPushed_40 rfl (lv_at hl 2 rfl) ?_
          refine lv_iconst (v := 0) hx hb dX7_isPushed_41 (by decide +kernel) ?_
          refine lv_iconst (v := 0) hx hb dX7_isPushed_42 (by decide +kernel) ?_
          refine ro_i (va_runV (As := [.int v3_5, .int p2, .int 0, .int 0]) (rest := []) ⟨hx, hb, hml, hown, hts⟩ (s_X7_touches l dC dI cs L K G Q hQ x0 m0 tx tm H.size I J hI p0 hLp0 hKp0 v3_5 ⟨by omega, by omega⟩ p2 ⟨by omega, by omega⟩ 0 0 ⟨by decide +kernel, by decide +kernel⟩) (cwV 4 hts (gV pq1448 pq1450 pq44 pq81 pq1451) rfl rfl rfl (by decide +kernel) ⟨(by rw [hR]; exact (Nat.le_of_ble_eq_true rfl)), (by rw [hR]; exact (Nat.le_of_ble_eq_true rfl))⟩) (sP_V hP hD hK hN hLp0 hKp0 rfl rfl) rfl rfl hl.1 rfl (lv_room (Nat.le_of_ble_eq_true rfl)) dX7_isPushed_43 ⟨(by rw [hR]; exact (Nat.le_of_ble_eq_true rfl)), (by rw [hR]; exact (Nat.le_of_ble_eq_true rfl))⟩) hS hP (fun z43 H locs hz43 hP hS => ?_)
          have cst43_0 : (0 : Int32).toInt = 0 := by decide +kernel
          obtain ⟨bz43, xpz43⟩ := hz43
          try rw [cst43_0] at xpz43
          refine lv_if_ne (tgt := 51) hx hb dX7_isPushed_46 (by decide) (fun c46 => ?_) (fun c46 => ?_)
          · have t46 := tq_ne (k := z43.toInt) (q := (0)) c46 rfl (by decide +kernel)
            exact j51  _ _ _ (fun c ok h l hb bd hN hs p => (pE_to p).2 ((xpz43 c ok h l hN hb (by decide +kernel)).mp t46)) hP hS (lv_sub hl [0, 1, 2, 3, 4, 5] rfl)
          · have t46 := tq_eq (k := z43.toInt) (q := (0)) c46 rfl (by decide +kernel)
            refine lv_iconst (v := 1) hx hb dX7_isPushed_49 (by decide +kernel) ?_
            subst hR; subst hQz
            exact W.zret (v := 1) hx hb hr (by decide +kernel) (fun t ht hW => ⟨⟨1, (), rfl, ⟨⟨by decide +kernel, by decide +kernel⟩, (fun c ok h l hb bd => ⟨fun _ => by have n : z10 = c.1 1 := (show z10 = I (a0 Q p0 0) 1 from by rw [ez10, show a0 Q p0 0 = y6 from gd_of ey6]; rfl).trans (h _ (by decide)); have hN : v3_5.toInt.toNat < (c.1 1).toInt.toNat := (by rw [← n]; omega); exact ⟨v3_5.toInt.toNat, hN, (hb_shr ez17 ez19 ⟨by omega, by omega⟩).1.mp t21, pE_of ((xpz31 c ok h l hN hb (bd20 bd)).mp t34) (fun q => (xpz43 c ok h l hN hb (by decide +kernel)).mpr q t46)⟩, fun _ => by decide +kernel⟩)⟩, trivial⟩, hS.F ht⟩) hS.2.2 dX7_isPushed_50)
  exact key3 _ 0 _ _ _ rfl ⟨by decide +kernel, by decide +kernel⟩ (fun c ok h l hb bd b hl => absurd hl (by rw [show (0 : Int32).toInt.toNat = 0 from by decide +kernel]; omega)) hP hS (lv_sub hl [1, 2, 3, 4, 5, 0] rfl)

set_option maxHeartbeats 4000000 in
set_option maxRecDepth 100000 in
theorem s_X7_goers (l : Launch) (dC : Nat → ClassId) (dI : Nat → Nat → Nat) (cs : Nat → ClassId) (L : List Nat) (K G : Nat → Nat) (Q : Nat → Nat → Option Nat) (hQ : Sv L K G Q) (x0 m0 : Nat) (tx : GT) (tm : GT × Int) (sz : Nat) (I : Nat → Nat → Int32) (J : Nat → Nat → Int64) (hI : Iv L K x0 m0 tx tm I) (p0 : Nat) (hLp0 : p0 ∈ L) (hKp0 : K p0 = 7) (p1 : Int32) (bp1 : (0) ≤ p1.toInt ∧ p1.toInt ≤ 9) (p2 : Int32) (p3 : Int32) (bp3 : (-2000000000) ≤ p3.toInt ∧ p3.toInt ≤ 2000000000) : Met l yX7_goers (.code yX7_goers cX7_goers 7 (some .int) :: pw) ({ frames := 6, cells := 0, slots := 0, locals := 147 }) (sP (dC, dI) cs [.ref p0, .int p1, .int p2, .int p3] sz L K I J Q) (va_Qi (fun (r : Int32) (_ : Unit) => ((0) ≤ r.toInt ∧ r.toInt ≤ 1023) ∧ (∀ c : Fx, okF c → rI Q I p0 c → ldA Q J p0 c → p1.toInt.toNat < (c.1 1).toInt.toNat → ((-2000 ≤ p2.toInt ∧ p2.toInt ≤ 2000) ∧ (-2000 ≤ p3.toInt ∧ p3.toInt ≤ 2000)) → ∀ o : Nat, hbt r o = true ↔ gR c p1.toInt.toNat p2.toInt p3.toInt o)) (fun _ _ => True) (fun _ => False)) 0 0 (fun _ => False) := by
  refine Met.ofW (cc := cX7_goers) (maxL := 7) (ret := (some .int)) (by decide +kernel) rfl ?_
  intro p e s m args below meth c s₁ B hml hv
  obtain ⟨rfl, hsz, hP, hK, hD0, hN⟩ := hv
  have hx := B.exec
  have hb := B.bytes
  have hr := B.returns
  have hts := fun w (h : w ∈ pw) => atoms_spec (ws := Cond.code yX7_goers cX7_goers 7 (some .int) :: pw) B.pre w (List.mem_cons_of_mem _ h)
  have hown : s.vm.findClass RX7 = some m.cls := findClass_of_methodNamed B.named
  have hlocks := B.notSynchronized
  subst hsz
  have hBB : 999 ≤ tm.2 ∧ tm.2 ≤ 6000000 := hI.2.2.2.2.1
  have hD := hD0
  obtain ⟨H, hHe⟩ : ∃ H : Heap, H = s.heap := ⟨_, rfl⟩
  have hS : va_S (fun _ => False) s.heap H [] := by rw [hHe]; exact va_S.rf
  rw [← hHe] at hP
  have hl := lv_entry ([.ref p0, .int p1, .int p2, .int p3]) (n := 7) (Nat.le_of_ble_eq_true rfl)
  rw [lg_entry_eq]
  generalize (lg_sl ([.ref p0, .int p1, .int p2, .int p3]) ++ List.replicate (7 - (lg_sl ([.ref p0, .int p1, .int p2, .int p3])).length) Slot.unset).toArray = ls at hl ⊢
  have hl : lv_has ls 7 [(0, .ref p0), (1, .int p1), (2, .int p2), (3, .int p3)] := hl
  rw [← hHe]
  refine namedW (fun R Qz hR hQz => ?_)
  refine lv_iconst (v := 1) hx hb dX7_goers_0 (by decide +kernel) ?_
  refine lv_iload_n hx hb dX7_goers_1 rfl (lv_at hl 1 rfl) ?_
  refine lv_ishl hx hb dX7_goers_2 ?_
  refine lv_topi (fun z2 ez2 => ?_)
  have bz2 := shl10 ez2 bp1
  refine lv_istore (lv' := [(4, .int z2), (0, .ref p0), (1, .int p1), (2, .int p2), (3, .int p3)]) hx hb dX7_goers_3 hl (by decide) rfl (fun ls hl => ?_)
  refine lv_iconst (v := 1) hx hb dX7_goers_5 (by decide +kernel) ?_
  refine lv_istore (lv' := [(5, .int 1), (4, .int z2), (0, .ref p0), (1, .int p1), (2, .int p2), (3, .int p3)]) hx hb dX7_goers_6 hl (by decide) rfl (fun ls hl => ?_)
  have key8 := blocks (fun n => ∀ (v8_4 : Int32) (v8_5 : Int32) (H : Heap) (lo : List Loc) (ls : Array Slot), 2 * (1023 - v8_4.toInt).toNat + v8_5.toInt.toNat = n → ((0) ≤ v8_4.toInt ∧ v8_4.toInt ≤ 1023) → ((0) ≤ v8_5.toInt ∧ v8_5.toInt ≤ 1) → (∀ c : Fx, okF c → rI Q I p0 c → ldA Q J p0 c → p1.toInt.toNat < (c.1 1).toInt.toNat → ((-2000 ≤ p2.toInt ∧ p2.toInt ≤ 2000) ∧ (-2000 ≤ p3.toInt ∧ p3.toInt ≤ 2000)) → gp c p1.toInt.toNat p2.toInt p3.toInt v8_4 v8_5 (c.1 1).toInt.toNat) → va_P (dC, dI) vwCl (Wd cs L K I J Q) H → va_S (fun _ => False) s.heap H lo → lv_has ls 7 [(0, .ref p0), (1, .int p1), (2, .int p2), (3, .int p3), (4, .int v8_4), (5, .int v8_5)] → W p l e R s m (([.ref p0, .int p1, .int p2, .int p3] : List Value).toArray) below meth c H lo 0 0 Qz (F0 m 8 ls [])) (by
    intro n ih8
    intro v8_4 v8_5 H lo ls hmu8 bv8_4 bv8_5 g8 hP hS hl
    refine lv_iload hx hb dX7_goers_8 (lv_at hl 5 rfl) ?_
    refine lv_if_eq (tgt := 74) hx hb dX7_goers_10 (by decide) (fun c10 => ?_) (fun c10 => ?_)
    · have t10 := tq_eq (k := v8_5.toInt) (q := (0)) c10 rfl (by decide +kernel)
      refine lv_iload hx hb dX7_goers_74 (lv_at hl 4 rfl) ?_
      subst hR; subst hQz
      exact W.iret (v := v8_4) hx hb hr (fun t ht hW => ⟨⟨v8_4, (), rfl, ⟨⟨by omega, by omega⟩, (fun c ok h l ha bd o => gp_e (i := (c.1 1).toInt.toNat) ha (g8 c ok h l ha bd) (by omega) (Nat.le_refl _) o)⟩, trivial⟩, hS.F ht⟩) hS.2.2 dX7_goers_76
    · have t10 := tq_ne (k := v8_5.toInt) (q := (0)) c10 rfl (by decide +kernel)
      refine lv_iconst (v := 0) hx hb dX7_goers_13 (by decide +kernel) ?_
      refine lv_istore (lv' := [(5, .int 0), (0, .ref p0), (1, .int p1), (2, .int p2), (3, .int p3), (4, .int v8_4)]) hx hb dX7_goers_14 hl (by decide) rfl (fun ls hl => ?_)
      refine lv_iconst (v := 0) hx hb dX7_goers_16 (by decide +kernel) ?_
      refine lv_istore (lv' := [(6, .int 0), (5, .int 0), (0, .ref p0), (1, .int p1), (2, .int p2), (3, .int p3), (4, .int v8_4)]) hx hb dX7_goers_17 hl (by decide) rfl (fun ls hl => ?_)
      have key19 := blocks (fun n => ∀ (v19_4 : Int32) (v19_5 : Int32) (v19_6 : Int32) (H : Heap) (lo : List Loc) (ls : Array Slot), (11 - v19_6.toInt).toNat = n → ((0) ≤ v19_4.toInt ∧ v19_4.toInt ≤ 1023) → ((0) ≤ v19_5.toInt ∧ v19_5.toInt ≤ 1) → ((0) ≤ v19_6.toInt ∧ v19_6.toInt ≤ 10) → (v8_4.toInt ≤ v19_4.toInt ∧ (¬ v19_5.toInt = 0 → v8_4.toInt < v19_4.toInt)) → (∀ c : Fx, okF c → rI Q I p0 c → ldA Q J p0 c → p1.toInt.toNat < (c.1 1).toInt.toNat → ((-2000 ≤ p2.toInt ∧ p2.toInt ≤ 2000) ∧ (-2000 ≤ p3.toInt ∧ p3.toInt ≤ 2000)) → gp c p1.toInt.toNat p2.toInt p3.toInt v19_4 v19_5 v19_6.toInt.toNat) → va_P (dC, dI) vwCl (Wd cs L K I J Q) H → va_S (fun _ => False) s.heap H lo → lv_has ls 7 [(0, .ref p0), (1, .int p1), (2, .int p2), (3, .int p3), (4, .int v19_4), (5, .int v19_5), (6, .int v19_6)] → W p l e R s m (([.ref p0, .int p1, .int p2, .int p3] : List Value).toArray) below meth c H lo 0 0 Qz (F0 m 19 ls [])) (by
        intro n ih19
        intro v19_4 v19_5 v19_6 H lo ls hmu19 bv19_4 bv19_5 bv19_6 h19 g19 hP hS hl
        refine lv_iload hx hb dX7_goers_19 (lv_at hl 6 rfl) ?_
        refine lv_aload_n hx hb dX7_goers_21 rfl (lv_at hl 0 rfl) ?_
        obtain ⟨y22, ey22, hLy22, hKy22⟩ := oQ_7_0 (Sv_at hQ hLp0 hKp0)
        refine p_get (v := .ref y22) hx hb hts inX7 hown hK hP hLp0 hKp0 rfl rfl 0 (by decide) (hts _ pq1115) (congrArg (fun q => some (va_rf q)) ey22) dX7_goers_22 ?_
        refine lv_iconst (v := 1) hx hb dX7_goers_25 (by decide +kernel) ?_
        refine p_iald hx hb hK hP 8 hLy22 hKy22 rfl rfl (in_d (by decide +kernel)) dX7_goers_26 ?_
        refine lv_topi (fun z26 ez26 => ?_)
        have bz26 := rng1 (oR_18 (i := (1 : Int32)) (k := (1)) (by decide +kernel) (Iv_at hI hLy22 hKy22))
        rw [← ez26] at bz26
        refine lv_icmp_ge (tgt := 71) hx hb dX7_goers_27 (by decide) (fun c27 => ?_) (fun c27 => ?_)
        · have t27 := tq_le (k := z26.toInt) (q := v19_6.toInt) c27 rfl rfl
          refine lv_goto (tgt := 8) hx hb dX7_goers_71 (by decide) ?_
          exact ih8 _ (by omega) v19_4 v19_5 _ _ _ rfl ⟨by omega, by omega⟩ ⟨by omega, by omega⟩ (fun c ok h l ha bd => by have n : z26 = c.1 1 := (show z26 = I (a0 Q p0 0) 1 from by rw [ez26, show a0 Q p0 0 = y22 from gd_of ey22]; rfl).trans (h _ (by decide)); have g := g19 c ok h l ha bd; exact ⟨g.1, g.2.1, fun hm v hv hN => g.2.2 hm v (by rw [← n] at hN; omega) hN⟩) hP hS (lv_sub hl [0, 1, 2, 3, 4, 5] rfl)
        · have t27 := tq_nle (k := z26.toInt) (q := v19_6.toInt) c27 rfl rfl
          refine lv_iload hx hb dX7_goers_30 (lv_at hl 4 rfl) ?_
          refine lv_iload hx hb dX7_goers_32 (lv_at hl 6 rfl) ?_
          refine lv_ishr hx hb dX7_goers_34 ?_
          refine lv_topi (fun z34 ez34 => ?_)
          refine lv_iconst (v := 1) hx hb dX7_goers_35 (by decide +kernel) ?_
          refine lv_iand hx hb dX7_goers_36 ?_
          refine lv_topi (fun z36 ez36 => ?_)
          have bz36 := tq_and 1 ez36 (by decide +kernel) (by decide)
          have j65 : ∀ (v65_4 : Int32) (v65_5 : Int32) (H : Heap) (lo : List Loc) (ls : Array Slot), ((0) ≤ v65_4.toInt ∧ v65_4.toInt ≤ 1023) → ((0) ≤ v65_5.toInt ∧ v65_5.toInt ≤ 1) → (v8_4.toInt ≤ v65_4.toInt ∧ (¬ v65_5.toInt = 0 → v8_4.toInt < v65_4.toInt)) → (∀ c : Fx, okF c → rI Q I p0 c → ldA Q J p0 c → p1.toInt.toNat < (c.1 1).toInt.toNat → ((-2000 ≤ p2.toInt ∧ p2.toInt ≤ 2000) ∧ (-2000 ≤ p3.toInt ∧ p3.toInt ≤ 2000)) → gp c p1.toInt.toNat p2.toInt p3.toInt v65_4 v65_5 (v19_6.toInt.toNat + 1)) → va_P (dC, dI) vwCl (Wd cs L K I J Q) H → va_S (fun _ => False) s.heap H lo → lv_has ls 7 [(0, .ref p0), (1, .int p1), (2, .int p2), (3, .int p3), (4, .int v65_4), (5, .int v65_5), (6, .int v19_6)] → W p l e R s m (([.ref p0, .int p1, .int p2, .int p3] : List Value).toArray) below meth c H lo 0 0 Qz (F0 m 65 ls []) := by
            intro v65_4 v65_5 H lo ls bv65_4 bv65_5 h65 g65 hP hS hl
            obtain ⟨z65, ez65⟩ : ∃ y : Int32, y = v19_6 + 1 := ⟨_, rfl⟩
            refine lv_iinc (v := z65) (lv' := [(6, .int z65), (0, .ref p0), (1, .int p1), (2, .int p2), (3, .int p3), (4, .int v65_4), (5, .int v65_5)]) hx hb dX7_goers_65 hl (k := 6) rfl (by rw [ez65]; rfl) (by decide) rfl (fun ls hl => ?_)
            have bz65 := tq_add (k := v19_6.toInt) (q := 1) ez65 rfl (by decide +kernel) (by omega) (by omega)
            refine lv_goto (tgt := 19) hx hb dX7_goers_68 (by decide) ?_
            exact ih19 _ (by omega) v65_4 v65_5 z65 _ _ _ rfl ⟨by omega, by omega⟩ ⟨by omega, by omega⟩ ⟨by omega, by omega⟩ h65 (fun c ok h l ha bd => by rw [show z65.toInt.toNat = v19_6.toInt.toNat + 1 by omega]; exact g65 c ok h l ha bd) hP hS (lv_sub hl [1, 2, 3, 4, 5, 6, 0] rfl)
          refine lv_if_ne (tgt := 65) hx hb dX7_goers_37 (by decide) (fun c37 => ?_) (fun c37 => ?_)
          · have t37 := tq_ne (k := z36.toInt) (q := (0)) c37 rfl (by decide +kernel)
            exact j65 v19_4 v19_5 _ _ _ ⟨by omega, by omega⟩ ⟨by omega, by omega⟩ h19 (fun c ok h l ha bd => by have g := g19 c ok h l ha bd; have n : z26 = c.1 1 := (show z26 = I (a0 Q p0 0) 1 from by rw [ez26, show a0 Q p0 0 = y22 from gd_of ey22]; rfl).trans (h _ (by decide)); have hN : v19_6.toInt.toNat < (c.1 1).toInt.toNat := (by rw [← n]; omega); exact gp_no g rfl (Or.inl (Classical.byContradiction (fun q => t37 ((hb_shr ez34 ez36 ⟨by omega, by omega⟩).2.mpr (eq_false_of_ne_true q)))))) hP hS (lv_sub hl [0, 1, 2, 3, 4, 5, 6] rfl)
          · have t37 := tq_eq (k := z36.toInt) (q := (0)) c37 rfl (by decide +kernel)
            refine lv_aload_n hx hb dX7_goers_40 rfl (lv_at hl 0 rfl) ?_
            refine lv_iload hx hb dX7_goers_41 (lv_at hl 4 rfl) ?_
            refine lv_iload hx hb dX7_goers_43 (lv_at hl 6 rfl) ?_
            refine lv_iload_n hx hb dX7_goers_45 rfl (lv_at hl 2 rfl) ?_
            refine lv_iload_n hx hb dX7_goers_46 rfl (lv_at hl 3 rfl) ?_
            refine ro_i (va_runV (As := [.int v19_4, .int v19_6, .int p2, .int p3]) (rest := []) ⟨hx, hb, hml, hown, hts⟩ (s_X7_isPushed l dC dI cs L K G Q hQ x0 m0 tx tm H.size I J hI p0 hLp0 hKp0 v19_4 v19_6 ⟨by omega, by omega⟩ p2 p3 ⟨by omega, by omega⟩) (cwV 4 hts (gV pq1486 pq1488 pq50 pq81 pq1489) rfl rfl rfl (by decide +kernel) ⟨(by rw [hR]; exact (Nat.le_of_ble_eq_true rfl)), (by rw [hR]; exact (Nat.le_of_ble_eq_true rfl))⟩) (sP_V hP hD hK hN hLp0 hKp0 rfl rfl) rfl rfl hl.1 rfl (lv_room (Nat.le_of_ble_eq_true rfl)) dX7_goers_47 ⟨(by rw [hR]; exact (Nat.le_of_ble_eq_true rfl)), (by rw [hR]; exact (Nat.le_of_ble_eq_true rfl))⟩) hS hP (fun z47 H locs hz47 hP hS => ?_)
            obtain ⟨bz47, xpz47⟩ := hz47
            refine lv_if_eq (tgt := 65) hx hb dX7_goers_50 (by decide) (fun c50 => ?_) (fun c50 => ?_)
            · have t50 := tq_eq (k := z47.toInt) (q := (0)) c50 rfl (by decide +kernel)
              exact j65 v19_4 v19_5 _ _ _ ⟨by omega, by omega⟩ ⟨by omega, by omega⟩ h19 (fun c ok h l ha bd => by have g := g19 c ok h l ha bd; have n : z26 = c.1 1 := (show z26 = I (a0 Q p0 0) 1 from by rw [ez26, show a0 Q p0 0 = y22 from gd_of ey22]; rfl).trans (h _ (by decide)); have hN : v19_6.toInt.toNat < (c.1 1).toInt.toNat := (by rw [← n]; omega); exact gp_no g rfl (Or.inr (fun q => (xpz47 c ok h l hN bd).mpr q t50))) hP hS (lv_sub hl [0, 1, 2, 3, 4, 5, 6] rfl)
            · have t50 := tq_ne (k := z47.toInt) (q := (0)) c50 rfl (by decide +kernel)
              refine lv_iload hx hb dX7_goers_53 (lv_at hl 4 rfl) ?_
              refine lv_iconst (v := 1) hx hb dX7_goers_55 (by decide +kernel) ?_
              refine lv_iload hx hb dX7_goers_56 (lv_at hl 6 rfl) ?_
              refine lv_ishl hx hb dX7_goers_58 ?_
              refine lv_topi (fun z58 ez58 => ?_)
              have bz58 := shl10 ez58 ⟨by omega, by omega⟩
              refine lv_ior hx hb dX7_goers_59 ?_
              refine lv_topi (fun z59 ez59 => ?_)
              have bz59 := or10 ez59 bv19_4 bz58
              refine lv_istore (lv' := [(4, .int z59), (0, .ref p0), (1, .int p1), (2, .int p2), (3, .int p3), (5, .int v19_5), (6, .int v19_6)]) hx hb dX7_goers_60 hl (by decide) rfl (fun ls hl => ?_)
              refine lv_iconst (v := 1) hx hb dX7_goers_62 (by decide +kernel) ?_
              refine lv_istore (lv' := [(5, .int 1), (4, .int z59), (0, .ref p0), (1, .int p1), (2, .int p2), (3, .int p3), (6, .int v19_6)]) hx hb dX7_goers_63 hl (by decide) rfl (fun ls hl => ?_)
              exact j65 z59 1 _ _ _ ⟨by omega, by omega⟩ ⟨by decide +kernel, by decide +kernel⟩ ⟨by have q := orgt ez34 ez36 t37 ez58 ez59 bv19_4 ⟨by omega, by omega⟩; have := h19.1; omega, fun _ => by have q := orgt ez34 ez36 t37 ez58 ez59 bv19_4 ⟨by omega, by omega⟩; have := h19.1; omega⟩ (fun c ok h l ha bd => by have g := g19 c ok h l ha bd; have n : z26 = c.1 1 := (show z26 = I (a0 Q p0 0) 1 from by rw [ez26, show a0 Q p0 0 = y22 from gd_of ey22]; rfl).trans (h _ (by decide)); have hN : v19_6.toInt.toNat < (c.1 1).toInt.toNat := (by rw [← n]; omega); exact gp_yes g hN ((xpz47 c ok h l hN bd).mp t50) (hb_set ez58 ez59 ⟨by omega, by omega⟩)) hP hS (lv_sub hl [2, 3, 4, 5, 1, 0, 6] rfl))
      exact key19 _ v8_4 0 0 _ _ _ rfl ⟨by omega, by omega⟩ ⟨by decide +kernel, by decide +kernel⟩ ⟨by decide +kernel, by decide +kernel⟩ ⟨Int.le_refl _, fun h => absurd (by decide +kernel) h⟩ (fun c ok h l ha bd => ⟨(g8 c ok h l ha bd).1, (g8 c ok h l ha bd).2.1, fun _ v hv => absurd hv (by rw [show (0 : Int32).toInt.toNat = 0 from by decide +kernel]; omega)⟩) hP hS (lv_sub hl [2, 3, 4, 5, 6, 1, 0] rfl))
  exact key8 _ z2 1 _ _ _ rfl ⟨by omega, by omega⟩ ⟨by decide +kernel, by decide +kernel⟩ (fun c ok h l ha bd => ⟨by rw [hb_one ez2 bp1]; simp, fun o ho => (by rw [hb_one ez2 bp1, decide_eq_true_iff] at ho; rw [ho]; exact gR_0), fun hm => absurd hm (by decide +kernel)⟩) hP hS (lv_sub hl [2, 3, 4, 5, 1, 0] rfl)

set_option maxHeartbeats 4000000 in
set_option maxRecDepth 100000 in
theorem s_X7_canGo (l : Launch) (dC : Nat → ClassId) (dI : Nat → Nat → Nat) (cs : Nat → ClassId) (L : List Nat) (K G : Nat → Nat) (Q : Nat → Nat → Option Nat) (hQ : Sv L K G Q) (x0 m0 : Nat) (tx : GT) (tm : GT × Int) (sz : Nat) (I : Nat → Nat → Int32) (J : Nat → Nat → Int64) (hI : Iv L K x0 m0 tx tm I) (p0 : Nat) (hLp0 : p0 ∈ L) (hKp0 : K p0 = 7) (p1 : Int32) (p2 : Int32) (p3 : Int32) : Met l yX7_canGo (.code yX7_canGo cX7_canGo 6 (some .boolean) :: pw) ({ frames := 2, cells := 0, slots := 0, locals := 47 }) (sP (dC, dI) cs [.ref p0, .int p1, .int p2, .int p3] sz L K I J Q) (va_Qi (fun (r : Int32) (_ : Unit) => ((0) ≤ r.toInt ∧ r.toInt ≤ 1) ∧ ((¬ r.toInt = 0 → cgO (I ((Q p0 0).getD 0)) (I ((Q p0 0).getD 0) 1).toInt p1 p2 p3 0 (I ((Q p0 0).getD 0) 1).toInt) ∧ (∀ c : Fx, okF c → rI Q I p0 c → ((-2000 ≤ p2.toInt ∧ p2.toInt ≤ 2000) ∧ (-2000 ≤ p3.toInt ∧ p3.toInt ≤ 2000)) → (¬ r.toInt = 0 ↔ ∀ o : Nat, o < (c.1 1).toInt.toNat → hbt p1 o = true → ¬ farB c o p2.toInt p3.toInt)))) (fun _ _ => True) (fun _ => False)) 0 0 (fun _ => False) := by
  refine Met.ofW (cc := cX7_canGo) (maxL := 6) (ret := (some .boolean)) (by decide +kernel) rfl ?_
  intro p e s m args below meth c s₁ B hml hv
  obtain ⟨rfl, hsz, hP, hK, hD0, hN⟩ := hv
  have hx := B.exec
  have hb := B.bytes
  have hr := B.returns
  have hts := fun w (h : w ∈ pw) => atoms_spec (ws := Cond.code yX7_canGo cX7_canGo 6 (some .boolean) :: pw) B.pre w (List.mem_cons_of_mem _ h)
  have hown : s.vm.findClass RX7 = some m.cls := findClass_of_methodNamed B.named
  have hlocks := B.notSynchronized
  subst hsz
  have hBB : 999 ≤ tm.2 ∧ tm.2 ≤ 6000000 := hI.2.2.2.2.1
  have hD := hD0
  obtain ⟨H, hHe⟩ : ∃ H : Heap, H = s.heap := ⟨_, rfl⟩
  have hS : va_S (fun _ => False) s.heap H [] := by rw [hHe]; exact va_S.rf
  rw [← hHe] at hP
  have hl := lv_entry ([.ref p0, .int p1, .int p2, .int p3]) (n := 6) (Nat.le_of_ble_eq_true rfl)
  rw [lg_entry_eq]
  generalize (lg_sl ([.ref p0, .int p1, .int p2, .int p3]) ++ List.replicate (6 - (lg_sl ([.ref p0, .int p1, .int p2, .int p3])).length) Slot.unset).toArray = ls at hl ⊢
  have hl : lv_has ls 6 [(0, .ref p0), (1, .int p1), (2, .int p2), (3, .int p3)] := hl
  rw [← hHe]
  refine namedW (fun R Qz hR hQz => ?_)
  refine lv_iconst (v := 1) hx hb dX7_canGo_0 (by decide +kernel) ?_
  refine lv_istore (lv' := [(4, .int 1), (0, .ref p0), (1, .int p1), (2, .int p2), (3, .int p3)]) hx hb dX7_canGo_1 hl (by decide) rfl (fun ls hl => ?_)
  refine lv_iconst (v := 0) hx hb dX7_canGo_3 (by decide +kernel) ?_
  refine lv_istore (lv' := [(5, .int 0), (4, .int 1), (0, .ref p0), (1, .int p1), (2, .int p2), (3, .int p3)]) hx hb dX7_canGo_4 hl (by decide) rfl (fun ls hl => ?_)
  have key6 := blocks (fun n => ∀ (v6_4 : Int32) (v6_5 : Int32) (H : Heap) (lo : List Loc) (ls : Array Slot), (11 - v6_5.toInt).toNat = n → ((0) ≤ v6_4.toInt ∧ v6_4.toInt ≤ 1) → ((0) ≤ v6_5.toInt ∧ v6_5.toInt ≤ 10) → (¬ v6_4.toInt = 0 → cgO (I ((Q p0 0).getD 0)) (I ((Q p0 0).getD 0) 1).toInt p1 p2 p3 0 v6_5.toInt) → (∀ c : Fx, okF c → rI Q I p0 c → ((-2000 ≤ p2.toInt ∧ p2.toInt ≤ 2000) ∧ (-2000 ≤ p3.toInt ∧ p3.toInt ≤ 2000)) → (¬ v6_4.toInt = 0 ↔ ∀ o : Nat, o < v6_5.toInt.toNat → o < (c.1 1).toInt.toNat → hbt p1 o = true → ¬ farB c o p2.toInt p3.toInt)) → va_P (dC, dI) vwCl (Wd cs L K I J Q) H → va_S (fun _ => False) s.heap H lo → lv_has ls 6 [(0, .ref p0), (1, .int p1), (2, .int p2), (3, .int p3), (4, .int v6_4), (5, .int v6_5)] → W p l e R s m (([.ref p0, .int p1, .int p2, .int p3] : List Value).toArray) below meth c H lo 0 0 Qz (F0 m 6 ls [])) (by
    intro n ih6
    intro v6_4 v6_5 H lo ls hmu6 bv6_4 bv6_5 hcg g6 hP hS hl
    refine lv_iload hx hb dX7_canGo_6 (lv_at hl 5 rfl) ?_
    refine lv_aload_n hx hb dX7_canGo_8 rfl (lv_at hl 0 rfl) ?_
    obtain ⟨y9, ey9, hLy9, hKy9⟩ := oQ_7_0 (Sv_at hQ hLp0 hKp0)
    refine p_get (v := .ref y9) hx hb hts inX7 hown hK hP hLp0 hKp0 rfl rfl 0 (by decide) (hts _ pq1115) (congrArg (fun q => some (va_rf q)) ey9) dX7_canGo_9 ?_
    refine lv_iconst (v := 1) hx hb dX7_canGo_12 (by decide +kernel) ?_
    refine p_iald hx hb hK hP 8 hLy9 hKy9 rfl rfl (in_d (by decide +kernel)) dX7_canGo_13 ?_
    refine lv_topi (fun z13 ez13 => ?_)
    have bz13 := rng1 (oR_18 (i := (1 : Int32)) (k := (1)) (by decide +kernel) (Iv_at hI hLy9 hKy9))
    rw [← ez13] at bz13
    refine lv_icmp_ge (tgt := 69) hx hb dX7_canGo_14 (by decide) (fun c14 => ?_) (fun c14 => ?_)
    · have t14 := tq_le (k := z13.toInt) (q := v6_5.toInt) c14 rfl rfl
      refine lv_iload hx hb dX7_canGo_69 (lv_at hl 4 rfl) ?_
      subst hR; subst hQz
      exact W.zret (v := v6_4) hx hb hr (nar01 (by omega) (by omega)) (fun t ht hW => ⟨⟨v6_4, (), rfl, ⟨⟨by omega, by omega⟩, ⟨(fun h b b0 bh bn hb => hcg h b b0 (by have c := congrArg Int32.toInt (show z13 = I ((Q p0 0).getD 0) 1 from by rw [ez13, ey9]; rfl); omega) bn hb), fun c ok h bd => ⟨fun q o ho hs => (g6 c ok h bd).mp q o (by have n : z13 = c.1 1 := (show z13 = I (a0 Q p0 0) 1 from by rw [ez13, show a0 Q p0 0 = y9 from gd_of ey9]; rfl).trans (h _ (by decide)); rw [← n] at ho; omega) ho hs, fun q => (g6 c ok h bd).mpr (fun o _ ho hs => q o ho hs)⟩⟩⟩, trivial⟩, hS.F ht⟩) hS.2.2 dX7_canGo_71
    · have t14 := tq_nle (k := z13.toInt) (q := v6_5.toInt) c14 rfl rfl
      refine lv_iload hx hb dX7_canGo_17 (lv_at hl 4 rfl) ?_
      have j61 : ∀ (w61_0 : Int32) (H : Heap) (lo : List Loc) (ls : Array Slot), ((0) ≤ w61_0.toInt ∧ w61_0.toInt ≤ 1) → (¬ w61_0.toInt = 0 → ¬ v6_4.toInt = 0 ∧ ((p1 >>> (v6_5 &&& 31)) &&& 1 = 1 → gB 999 (I ((Q p0 0).getD 0)) v6_5.toInt.toNat p2 p3)) → (∀ c : Fx, okF c → rI Q I p0 c → ((-2000 ≤ p2.toInt ∧ p2.toInt ≤ 2000) ∧ (-2000 ≤ p3.toInt ∧ p3.toInt ≤ 2000)) → v6_5.toInt.toNat < (c.1 1).toInt.toNat → (¬ w61_0.toInt = 0 ↔ ¬ v6_4.toInt = 0 ∧ (hbt p1 v6_5.toInt.toNat = true → ¬ farB c v6_5.toInt.toNat p2.toInt p3.toInt))) → va_P (dC, dI) vwCl (Wd cs L K I J Q) H → va_S (fun _ => False) s.heap H lo → lv_has ls 6 [(0, .ref p0), (1, .int p1), (2, .int p2), (3, .int p3), (4, .int v6_4), (5, .int v6_5)] → W p l e R s m (([.ref p0, .int p1, .int p2, .int p3] : List Value).toArray) below meth c H lo 0 0 Qz (F0 m 61 ls [.int w61_0]) := by
        intro w61_0 H lo ls bw61_0 h61 g61 hP hS hl
        refine lv_istore (lv' := [(4, .int w61_0), (0, .ref p0), (1, .int p1), (2, .int p2), (3, .int p3), (5, .int v6_5)]) hx hb dX7_canGo_61 hl (by decide) rfl (fun ls hl => ?_)
        obtain ⟨z63, ez63⟩ : ∃ y : Int32, y = v6_5 + 1 := ⟨_, rfl⟩
        refine lv_iinc (v := z63) (lv' := [(5, .int z63), (4, .int w61_0), (0, .ref p0), (1, .int p1), (2, .int p2), (3, .int p3)]) hx hb dX7_canGo_63 hl (k := 5) rfl (by rw [ez63]; rfl) (by decide) rfl (fun ls hl => ?_)
        have bz63 := tq_add (k := v6_5.toInt) (q := 1) ez63 rfl (by decide +kernel) (by omega) (by omega)
        refine lv_goto (tgt := 6) hx hb dX7_canGo_66 (by decide) ?_
        exact ih6 _ (by omega) w61_0 z63 _ _ _ rfl ⟨by omega, by omega⟩ ⟨by omega, by omega⟩ (fun h => cgO_step (hcg (h61 h).1) bz63 (h61 h).2) (fun c ok h bd => by have n : z13 = c.1 1 := (show z13 = I (a0 Q p0 0) 1 from by rw [ez13, show a0 Q p0 0 = y9 from gd_of ey9]; rfl).trans (h _ (by decide)); have hN : v6_5.toInt.toNat < (c.1 1).toInt.toNat := (by rw [← n]; omega); have w := g61 c ok h bd hN; have g := g6 c ok h bd; rw [show z63.toInt.toNat = v6_5.toInt.toNat + 1 by omega]; exact ⟨fun q o ho hO hs => (by by_cases e : o < v6_5.toInt.toNat; (exact g.mp (w.mp q).1 o e hO hs); (obtain rfl : o = v6_5.toInt.toNat := (by omega); exact (w.mp q).2 hs)), fun q => w.mpr ⟨g.mpr (fun o ho hO hs => q o (by omega) hO hs), fun hs => q _ (by omega) hN hs⟩⟩) hP hS (lv_sub hl [2, 3, 4, 5, 1, 0] rfl)
      have j60 : ∀ (H : Heap) (lo : List Loc) (ls : Array Slot), (∀ c : Fx, okF c → rI Q I p0 c → ((-2000 ≤ p2.toInt ∧ p2.toInt ≤ 2000) ∧ (-2000 ≤ p3.toInt ∧ p3.toInt ≤ 2000)) → v6_5.toInt.toNat < (c.1 1).toInt.toNat → (v6_4.toInt = 0 ∨ (hbt p1 v6_5.toInt.toNat = true ∧ farB c v6_5.toInt.toNat p2.toInt p3.toInt))) → va_P (dC, dI) vwCl (Wd cs L K I J Q) H → va_S (fun _ => False) s.heap H lo → lv_has ls 6 [(0, .ref p0), (1, .int p1), (2, .int p2), (3, .int p3), (4, .int v6_4), (5, .int v6_5)] → W p l e R s m (([.ref p0, .int p1, .int p2, .int p3] : List Value).toArray) below meth c H lo 0 0 Qz (F0 m 60 ls []) := by
        intro H lo ls g60 hP hS hl
        refine lv_iconst (v := 0) hx hb dX7_canGo_60 (by decide +kernel) ?_
        exact j61 0 _ _ _ ⟨by decide +kernel, by decide +kernel⟩ (fun h => absurd (by decide +kernel) h) (fun c ok h bd hN => ⟨fun q => absurd (by decide +kernel) q, fun q => (by rcases g60 c ok h bd hN with w | w; (exact absurd w q.1); (exact absurd w.2 (q.2 w.1)))⟩) hP hS (lv_sub hl [0, 1, 2, 3, 4, 5] rfl)
      refine lv_if_eq (tgt := 60) hx hb dX7_canGo_19 (by decide) (fun c19 => ?_) (fun c19 => ?_)
      · have t19 := tq_eq (k := v6_4.toInt) (q := (0)) c19 rfl (by decide +kernel)
        exact j60  _ _ _ (fun c ok h bd hN => Or.inl t19) hP hS (lv_sub hl [0, 1, 2, 3, 4, 5] rfl)
      · have t19 := tq_ne (k := v6_4.toInt) (q := (0)) c19 rfl (by decide +kernel)
        refine lv_iload_n hx hb dX7_canGo_22 rfl (lv_at hl 1 rfl) ?_
        refine lv_iload hx hb dX7_canGo_23 (lv_at hl 5 rfl) ?_
        refine lv_ishr hx hb dX7_canGo_25 ?_
        refine lv_topi (fun z25 ez25 => ?_)
        refine lv_iconst (v := 1) hx hb dX7_canGo_26 (by decide +kernel) ?_
        refine lv_iand hx hb dX7_canGo_27 ?_
        refine lv_topi (fun z27 ez27 => ?_)
        have bz27 := tq_and 1 ez27 (by decide +kernel) (by decide)
        have j56 : ∀ (H : Heap) (lo : List Loc) (ls : Array Slot), ((p1 >>> (v6_5 &&& 31)) &&& 1 = 1 → gB 999 (I ((Q p0 0).getD 0)) v6_5.toInt.toNat p2 p3) → (∀ c : Fx, okF c → rI Q I p0 c → ((-2000 ≤ p2.toInt ∧ p2.toInt ≤ 2000) ∧ (-2000 ≤ p3.toInt ∧ p3.toInt ≤ 2000)) → v6_5.toInt.toNat < (c.1 1).toInt.toNat → hbt p1 v6_5.toInt.toNat = true → ¬ farB c v6_5.toInt.toNat p2.toInt p3.toInt) → va_P (dC, dI) vwCl (Wd cs L K I J Q) H → va_S (fun _ => False) s.heap H lo → lv_has ls 6 [(0, .ref p0), (1, .int p1), (2, .int p2), (3, .int p3), (4, .int v6_4), (5, .int v6_5)] → W p l e R s m (([.ref p0, .int p1, .int p2, .int p3] : List Value).toArray) below meth c H lo 0 0 Qz (F0 m 56 ls []) := by
          intro H lo ls h56 g56 hP hS hl
          refine lv_iconst (v := 1) hx hb dX7_canGo_56 (by decide +kernel) ?_
          refine lv_goto (tgt := 61) hx hb dX7_canGo_57 (by decide) ?_
          exact j61 1 _ _ _ ⟨by decide +kernel, by decide +kernel⟩ (fun _ => ⟨t19, h56⟩) (fun c ok h bd hN => ⟨fun _ => ⟨t19, g56 c ok h bd hN⟩, fun _ => by decide +kernel⟩) hP hS (lv_sub hl [0, 1, 2, 3, 4, 5] rfl)
        refine lv_if_eq (tgt := 56) hx hb dX7_canGo_28 (by decide) (fun c28 => ?_) (fun c28 => ?_)
        · have t28 := tq_eq (k := z27.toInt) (q := (0)) c28 rfl (by decide +kernel)
          exact j56  _ _ _ (fun h => absurd ((congrArg Int32.toInt (show z27 = 1 by rw [ez27, ez25]; exact h)).trans (show (1 : Int32).toInt = 1 by decide +kernel)) (by omega)) (fun c ok h bd hN hs => by have b1 := (hb_shr ez25 ez27 ⟨by omega, by omega⟩).2.mp t28; rw [b1] at hs; cases hs) hP hS (lv_sub hl [0, 1, 2, 3, 4, 5] rfl)
        · have t28 := tq_ne (k := z27.toInt) (q := (0)) c28 rfl (by decide +kernel)
          refine lv_aload_n hx hb dX7_canGo_31 rfl (lv_at hl 0 rfl) ?_
          refine lv_aload_n hx hb dX7_canGo_32 rfl (lv_at hl 0 rfl) ?_
          refine lv_iload hx hb dX7_canGo_33 (lv_at hl 5 rfl) ?_
          refine lv_iconst (v := 1) hx hb dX7_canGo_35 (by decide +kernel) ?_
          refine ro_i (va_runV (As := [.int v6_5, .int 1]) (rest := [.ref p0]) ⟨hx, hb, hml, hown, hts⟩ (s_X7_of l dC dI cs L K G Q hQ x0 m0 tx tm H.size I J hI p0 hLp0 hKp0 v6_5 ⟨by omega, by omega⟩ 1 ⟨by decide +kernel, by decide +kernel⟩) (cwV 2 hts (gV pq1320 pq1322 pq25 pq81 pq1323) rfl rfl rfl (by decide +kernel) ⟨(by rw [hR]; exact (Nat.le_of_ble_eq_true rfl)), (by rw [hR]; exact (Nat.le_of_ble_eq_true rfl))⟩) (sP_V hP hD hK hN hLp0 hKp0 rfl rfl) rfl rfl hl.1 rfl (lv_room (Nat.le_of_ble_eq_true rfl)) dX7_canGo_36 ⟨(by rw [hR]; exact (Nat.le_of_ble_eq_true rfl)), (by rw [hR]; exact (Nat.le_of_ble_eq_true rfl))⟩) hS hP (fun z36 H locs hz36 hP hS => ?_)
          have cst36_1 : (1 : Int32).toInt = 1 := by decide +kernel
          obtain ⟨fez36, xpz36⟩ := hz36
          have bz36 := xpz36.2.1 rfl
          refine lv_iload_n hx hb dX7_canGo_39 rfl (lv_at hl 2 rfl) ?_
          refine lv_iadd hx hb dX7_canGo_40 ?_
          refine lv_topi (fun z40 ez40 => ?_)
          refine lv_aload_n hx hb dX7_canGo_41 rfl (lv_at hl 0 rfl) ?_
          refine lv_iload hx hb dX7_canGo_42 (lv_at hl 5 rfl) ?_
          refine lv_iconst (v := 2) hx hb dX7_canGo_44 (by decide +kernel) ?_
          refine ro_i (va_runV (As := [.int v6_5, .int 2]) (rest := [.int z40, .ref p0]) ⟨hx, hb, hml, hown, hts⟩ (s_X7_of l dC dI cs L K G Q hQ x0 m0 tx tm H.size I J hI p0 hLp0 hKp0 v6_5 ⟨by omega, by omega⟩ 2 ⟨by decide +kernel, by decide +kernel⟩) (cwV 2 hts (gV pq1320 pq1322 pq25 pq81 pq1323) rfl rfl rfl (by decide +kernel) ⟨(by rw [hR]; exact (Nat.le_of_ble_eq_true rfl)), (by rw [hR]; exact (Nat.le_of_ble_eq_true rfl))⟩) (sP_V hP hD hK hN hLp0 hKp0 rfl rfl) rfl rfl hl.1 rfl (lv_room (Nat.le_of_ble_eq_true rfl)) dX7_canGo_45 ⟨(by rw [hR]; exact (Nat.le_of_ble_eq_true rfl)), (by rw [hR]; exact (Nat.le_of_ble_eq_true rfl))⟩) hS hP (fun z45 H locs hz45 hP hS => ?_)
          have cst45_2 : (2 : Int32).toInt = 2 := by decide +kernel
          obtain ⟨fez45, xpz45⟩ := hz45
          have bz45 := xpz45.2.2.1 rfl
          refine lv_iload_n hx hb dX7_canGo_48 rfl (lv_at hl 3 rfl) ?_
          refine lv_iadd hx hb dX7_canGo_49 ?_
          refine lv_topi (fun z49 ez49 => ?_)
          refine ro_i (va_runV (As := [.int z40, .int z49]) (rest := []) ⟨hx, hb, hml, hown, hts⟩ (s_X7_isPlace l dC dI cs L K G Q hQ x0 m0 tx tm H.size I J hI p0 hLp0 hKp0 z40 z49) (cwV 2 hts (gV pq1314 pq1316 pq24 pq81 pq1317) rfl rfl rfl (by decide +kernel) ⟨(by rw [hR]; exact (Nat.le_of_ble_eq_true rfl)), (by rw [hR]; exact (Nat.le_of_ble_eq_true rfl))⟩) (sP_V hP hD hK hN hLp0 hKp0 rfl rfl) rfl rfl hl.1 rfl (lv_room (Nat.le_of_ble_eq_true rfl)) dX7_canGo_50 ⟨(by rw [hR]; exact (Nat.le_of_ble_eq_true rfl)), (by rw [hR]; exact (Nat.le_of_ble_eq_true rfl))⟩) hS hP (fun z50 H locs hz50 hP hS => ?_)
          obtain ⟨bz50, imz50, xpz50⟩ := hz50
          refine lv_if_eq (tgt := 60) hx hb dX7_canGo_53 (by decide) (fun c53 => ?_) (fun c53 => ?_)
          · have t53 := tq_eq (k := z50.toInt) (q := (0)) c53 rfl (by decide +kernel)
            exact j60  _ _ _ (fun c ok h bd hN => Or.inr ⟨by have b1 := (hb_shr ez25 ez27 ⟨by omega, by omega⟩).2; exact Classical.byContradiction (fun q => t28 (b1.mpr (eq_false_of_ne_true q))), fun w => by have o36 : z36 = c.1 (19 + 8 * v6_5.toInt.toNat + 1) := (show z36 = I (a0 Q p0 0) (19 + 8 * v6_5.toInt.toNat + 1) from fez36).trans (h _ (by omega)); have o45 : z45 = c.1 (19 + 8 * v6_5.toInt.toNat + 2) := (show z45 = I (a0 Q p0 0) (19 + 8 * v6_5.toInt.toNat + 2) from fez45).trans (h _ (by omega)); have e40 := tq_add (k := z36.toInt) (q := p2.toInt) ez40 rfl rfl (by omega) (by omega); have e49 := tq_add (k := z45.toInt) (q := p3.toInt) ez49 rfl rfl (by omega) (by omega); unfold bX bY at w; rw [← o36, ← o45] at w; exact xpz50.2 t53 (by omega)⟩) hP hS (lv_sub hl [0, 1, 2, 3, 4, 5] rfl)
          · have t53 := tq_ne (k := z50.toInt) (q := (0)) c53 rfl (by decide +kernel)
            have i53 := imz50 t53
            exact j56  _ _ _ (fun _ => by have e1 : z40 = I ((Q p0 0).getD 0) (19 + 8 * v6_5.toInt.toNat + 1) + p2 := (by rw [ez40, fez36]; rfl); have e2 : z49 = I ((Q p0 0).getD 0) (19 + 8 * v6_5.toInt.toNat + 2) + p3 := (by rw [ez49, fez45]; rfl); unfold gB inR; rw [← e1, ← e2]; omega) (fun c ok h bd hN hs w => by have o36 : z36 = c.1 (19 + 8 * v6_5.toInt.toNat + 1) := (show z36 = I (a0 Q p0 0) (19 + 8 * v6_5.toInt.toNat + 1) from fez36).trans (h _ (by omega)); have o45 : z45 = c.1 (19 + 8 * v6_5.toInt.toNat + 2) := (show z45 = I (a0 Q p0 0) (19 + 8 * v6_5.toInt.toNat + 2) from fez45).trans (h _ (by omega)); have e40 := tq_add (k := z36.toInt) (q := p2.toInt) ez40 rfl rfl (by omega) (by omega); have e49 := tq_add (k := z45.toInt) (q := p3.toInt) ez49 rfl rfl (by omega) (by omega); unfold farB bX bY at w; rw [← o36, ← o45] at w; have := xpz50.1 t53; omega) hP hS (lv_sub hl [0, 1, 2, 3, 4, 5] rfl))
  exact key6 _ 1 0 _ _ _ rfl ⟨by decide +kernel, by decide +kernel⟩ ⟨by decide +kernel, by decide +kernel⟩ (fun _ b h0 h1 => by rw [show (0 : Int32).toInt = 0 from by decide +kernel] at h1; omega) (fun c ok h bd => ⟨fun _ o ho => absurd ho (by rw [show (0 : Int32).toInt.toNat = 0 from by decide +kernel]; omega), fun _ => by decide +kernel⟩) hP hS (lv_sub hl [2, 3, 4, 5, 1, 0] rfl)
