abbrev cX3_shared : ByteArray := prog_5_method_24_code
def yX3_shared : MethodName := ⟨RX3, "shared", "(LMaskTouch$Mask;LMaskTouch$Mask;II)I"⟩
theorem dX3_shared_0 : decode cX3_shared 0 = .ok (.aload_n 0, 1) := by decide +kernel
theorem dX3_shared_1 : decode cX3_shared 1 = .ok (.aload_n 1, 1) := by decide +kernel
theorem dX3_shared_2 : decode cX3_shared 2 = .ok (.iload_n 2, 1) := by decide +kernel
theorem dX3_shared_3 : decode cX3_shared 3 = .ok (.iload_n 3, 1) := by decide +kernel
theorem dX3_shared_4 : decode cX3_shared 4 = .ok (.invokestatic 123, 3) := by decide +kernel
theorem dX3_shared_7 : decode cX3_shared 7 = .ok (.ifCond .ne 5, 3) := by decide +kernel
theorem dX3_shared_10 : decode cX3_shared 10 = .ok (.iconst 0, 1) := by decide +kernel
theorem dX3_shared_11 : decode cX3_shared 11 = .ok (.ireturn, 1) := by decide +kernel
theorem dX3_shared_12 : decode cX3_shared 12 = .ok (.iload_n 2, 1) := by decide +kernel
theorem dX3_shared_13 : decode cX3_shared 13 = .ok (.ifCond .ge 7, 3) := by decide +kernel
theorem dX3_shared_16 : decode cX3_shared 16 = .ok (.aload_n 1, 1) := by decide +kernel
theorem dX3_shared_17 : decode cX3_shared 17 = .ok (.goto 4, 3) := by decide +kernel
theorem dX3_shared_20 : decode cX3_shared 20 = .ok (.aload_n 0, 1) := by decide +kernel
theorem dX3_shared_21 : decode cX3_shared 21 = .ok (.astore 4, 2) := by decide +kernel
theorem dX3_shared_23 : decode cX3_shared 23 = .ok (.iload_n 2, 1) := by decide +kernel
theorem dX3_shared_24 : decode cX3_shared 24 = .ok (.ifCond .ge 7, 3) := by decide +kernel
theorem dX3_shared_27 : decode cX3_shared 27 = .ok (.aload_n 0, 1) := by decide +kernel
theorem dX3_shared_28 : decode cX3_shared 28 = .ok (.goto 4, 3) := by decide +kernel
theorem dX3_shared_31 : decode cX3_shared 31 = .ok (.aload_n 1, 1) := by decide +kernel
theorem dX3_shared_32 : decode cX3_shared 32 = .ok (.astore 5, 2) := by decide +kernel
theorem dX3_shared_34 : decode cX3_shared 34 = .ok (.iload_n 2, 1) := by decide +kernel
theorem dX3_shared_35 : decode cX3_shared 35 = .ok (.ifCond .ge 8, 3) := by decide +kernel
theorem dX3_shared_38 : decode cX3_shared 38 = .ok (.iload_n 2, 1) := by decide +kernel
theorem dX3_shared_39 : decode cX3_shared 39 = .ok (.ineg, 1) := by decide +kernel
theorem dX3_shared_40 : decode cX3_shared 40 = .ok (.goto 4, 3) := by decide +kernel
theorem dX3_shared_43 : decode cX3_shared 43 = .ok (.iload_n 2, 1) := by decide +kernel
theorem dX3_shared_44 : decode cX3_shared 44 = .ok (.istore 6, 2) := by decide +kernel
theorem dX3_shared_46 : decode cX3_shared 46 = .ok (.iload_n 2, 1) := by decide +kernel
theorem dX3_shared_47 : decode cX3_shared 47 = .ok (.ifCond .ge 8, 3) := by decide +kernel
theorem dX3_shared_50 : decode cX3_shared 50 = .ok (.iload_n 3, 1) := by decide +kernel
theorem dX3_shared_51 : decode cX3_shared 51 = .ok (.ineg, 1) := by decide +kernel
theorem dX3_shared_52 : decode cX3_shared 52 = .ok (.goto 4, 3) := by decide +kernel
theorem dX3_shared_55 : decode cX3_shared 55 = .ok (.iload_n 3, 1) := by decide +kernel
theorem dX3_shared_56 : decode cX3_shared 56 = .ok (.istore 7, 2) := by decide +kernel
theorem dX3_shared_58 : decode cX3_shared 58 = .ok (.aload 4, 2) := by decide +kernel
theorem dX3_shared_60 : decode cX3_shared 60 = .ok (.getfield 38, 3) := by decide +kernel
theorem dX3_shared_63 : decode cX3_shared 63 = .ok (.aload 5, 2) := by decide +kernel
theorem dX3_shared_65 : decode cX3_shared 65 = .ok (.getfield 38, 3) := by decide +kernel
theorem dX3_shared_68 : decode cX3_shared 68 = .ok (.iload 7, 2) := by decide +kernel
theorem dX3_shared_70 : decode cX3_shared 70 = .ok (.iadd, 1) := by decide +kernel
theorem dX3_shared_71 : decode cX3_shared 71 = .ok (.invokestatic 106, 3) := by decide +kernel
theorem dX3_shared_74 : decode cX3_shared 74 = .ok (.istore 8, 2) := by decide +kernel
theorem dX3_shared_76 : decode cX3_shared 76 = .ok (.iconst 0, 1) := by decide +kernel
theorem dX3_shared_77 : decode cX3_shared 77 = .ok (.istore 9, 2) := by decide +kernel
theorem dX3_shared_79 : decode cX3_shared 79 = .ok (.aload 4, 2) := by decide +kernel
theorem dX3_shared_81 : decode cX3_shared 81 = .ok (.getfield 35, 3) := by decide +kernel
theorem dX3_shared_84 : decode cX3_shared 84 = .ok (.aload 5, 2) := by decide +kernel
theorem dX3_shared_86 : decode cX3_shared 86 = .ok (.getfield 35, 3) := by decide +kernel
theorem dX3_shared_89 : decode cX3_shared 89 = .ok (.iload 7, 2) := by decide +kernel
theorem dX3_shared_91 : decode cX3_shared 91 = .ok (.iadd, 1) := by decide +kernel
theorem dX3_shared_92 : decode cX3_shared 92 = .ok (.invokestatic 112, 3) := by decide +kernel
theorem dX3_shared_95 : decode cX3_shared 95 = .ok (.istore 10, 2) := by decide +kernel
theorem dX3_shared_97 : decode cX3_shared 97 = .ok (.iload 10, 2) := by decide +kernel
theorem dX3_shared_99 : decode cX3_shared 99 = .ok (.iload 8, 2) := by decide +kernel
theorem dX3_shared_101 : decode cX3_shared 101 = .ok (.if_icmp .gt 97, 3) := by decide +kernel
theorem dX3_shared_104 : decode cX3_shared 104 = .ok (.iconst 2, 1) := by decide +kernel
theorem dX3_shared_105 : decode cX3_shared 105 = .ok (.iload 10, 2) := by decide +kernel
theorem dX3_shared_107 : decode cX3_shared 107 = .ok (.iload 7, 2) := by decide +kernel
theorem dX3_shared_109 : decode cX3_shared 109 = .ok (.isub, 1) := by decide +kernel
theorem dX3_shared_110 : decode cX3_shared 110 = .ok (.imul, 1) := by decide +kernel
theorem dX3_shared_111 : decode cX3_shared 111 = .ok (.istore 11, 2) := by decide +kernel
theorem dX3_shared_113 : decode cX3_shared 113 = .ok (.aload 5, 2) := by decide +kernel
theorem dX3_shared_115 : decode cX3_shared 115 = .ok (.getfield 9, 3) := by decide +kernel
theorem dX3_shared_118 : decode cX3_shared 118 = .ok (.iload 11, 2) := by decide +kernel
theorem dX3_shared_120 : decode cX3_shared 120 = .ok (.laload, 1) := by decide +kernel
theorem dX3_shared_121 : decode cX3_shared 121 = .ok (.lstore 12, 2) := by decide +kernel
theorem dX3_shared_123 : decode cX3_shared 123 = .ok (.iload 6, 2) := by decide +kernel
theorem dX3_shared_125 : decode cX3_shared 125 = .ok (.bipush 64, 2) := by decide +kernel
theorem dX3_shared_127 : decode cX3_shared 127 = .ok (.if_icmp .ge 27, 3) := by decide +kernel
theorem dX3_shared_130 : decode cX3_shared 130 = .ok (.iload 9, 2) := by decide +kernel
theorem dX3_shared_132 : decode cX3_shared 132 = .ok (.aload 4, 2) := by decide +kernel
theorem dX3_shared_134 : decode cX3_shared 134 = .ok (.getfield 9, 3) := by decide +kernel
theorem dX3_shared_137 : decode cX3_shared 137 = .ok (.iconst 2, 1) := by decide +kernel
theorem dX3_shared_138 : decode cX3_shared 138 = .ok (.iload 10, 2) := by decide +kernel
theorem dX3_shared_140 : decode cX3_shared 140 = .ok (.imul, 1) := by decide +kernel
theorem dX3_shared_141 : decode cX3_shared 141 = .ok (.laload, 1) := by decide +kernel
theorem dX3_shared_142 : decode cX3_shared 142 = .ok (.lload 12, 2) := by decide +kernel
theorem dX3_shared_144 : decode cX3_shared 144 = .ok (.iload 6, 2) := by decide +kernel
theorem dX3_shared_146 : decode cX3_shared 146 = .ok (.lshl, 1) := by decide +kernel
theorem dX3_shared_147 : decode cX3_shared 147 = .ok (.land, 1) := by decide +kernel
theorem dX3_shared_148 : decode cX3_shared 148 = .ok (.invokestatic 41, 3) := by decide +kernel
theorem dX3_shared_151 : decode cX3_shared 151 = .ok (.iadd, 1) := by decide +kernel
theorem dX3_shared_152 : decode cX3_shared 152 = .ok (.istore 9, 2) := by decide +kernel
theorem dX3_shared_154 : decode cX3_shared 154 = .ok (.iload 9, 2) := by decide +kernel
theorem dX3_shared_156 : decode cX3_shared 156 = .ok (.aload 4, 2) := by decide +kernel
theorem dX3_shared_158 : decode cX3_shared 158 = .ok (.getfield 9, 3) := by decide +kernel
theorem dX3_shared_161 : decode cX3_shared 161 = .ok (.iconst 2, 1) := by decide +kernel
theorem dX3_shared_162 : decode cX3_shared 162 = .ok (.iload 10, 2) := by decide +kernel
theorem dX3_shared_164 : decode cX3_shared 164 = .ok (.imul, 1) := by decide +kernel
theorem dX3_shared_165 : decode cX3_shared 165 = .ok (.iconst 1, 1) := by decide +kernel
theorem dX3_shared_166 : decode cX3_shared 166 = .ok (.iadd, 1) := by decide +kernel
theorem dX3_shared_167 : decode cX3_shared 167 = .ok (.laload, 1) := by decide +kernel
theorem dX3_shared_168 : decode cX3_shared 168 = .ok (.lload 12, 2) := by decide +kernel
theorem dX3_shared_170 : decode cX3_shared 170 = .ok (.aload 5, 2) := by decide +kernel
theorem dX3_shared_172 : decode cX3_shared 172 = .ok (.getfield 9, 3) := by decide +kernel
theorem dX3_shared_175 : decode cX3_shared 175 = .ok (.iload 11, 2) := by decide +kernel
theorem dX3_shared_177 : decode cX3_shared 177 = .ok (.iconst 1, 1) := by decide +kernel
theorem dX3_shared_178 : decode cX3_shared 178 = .ok (.iadd, 1) := by decide +kernel
theorem dX3_shared_179 : decode cX3_shared 179 = .ok (.laload, 1) := by decide +kernel
theorem dX3_shared_180 : decode cX3_shared 180 = .ok (.iload 6, 2) := by decide +kernel
theorem dX3_shared_182 : decode cX3_shared 182 = .ok (.invokestatic 127, 3) := by decide +kernel
theorem dX3_shared_185 : decode cX3_shared 185 = .ok (.land, 1) := by decide +kernel
theorem dX3_shared_186 : decode cX3_shared 186 = .ok (.invokestatic 41, 3) := by decide +kernel
theorem dX3_shared_189 : decode cX3_shared 189 = .ok (.iadd, 1) := by decide +kernel
theorem dX3_shared_190 : decode cX3_shared 190 = .ok (.istore 9, 2) := by decide +kernel
theorem dX3_shared_192 : decode cX3_shared 192 = .ok (.iinc 10 1, 3) := by decide +kernel
theorem dX3_shared_195 : decode cX3_shared 195 = .ok (.goto (-98), 3) := by decide +kernel
theorem dX3_shared_198 : decode cX3_shared 198 = .ok (.iload 9, 2) := by decide +kernel
theorem dX3_shared_200 : decode cX3_shared 200 = .ok (.ireturn, 1) := by decide +kernel
set_option maxRecDepth 100000 in
theorem pq773 : Cond.methodLink RX3 123 yX3_boxesShare ∈ pw := pw_mem (i := 773) (by decide +kernel) rfl
set_option maxRecDepth 100000 in
theorem pq774 : Cond.static yX3_boxesShare ∈ pw := pw_mem (i := 774) (by decide +kernel) rfl
set_option maxRecDepth 100000 in
theorem pq775 : Cond.code yX3_boxesShare cX3_boxesShare 4 (some .boolean) ∈ pw := pw_mem (i := 775) (by rfl) rfl
set_option maxHeartbeats 4000000 in
set_option maxRecDepth 100000 in
theorem s_X3_shared (l : Launch) (dC : Nat → ClassId) (dI : Nat → Nat → Nat) (cs : Nat → ClassId) (L : List Nat) (K G : Nat → Nat) (Q : Nat → Nat → Option Nat) (hQ : Sv L K G Q) (x0 m0 : Nat) (tx : GT) (tm : GT × Int) (sz : Nat) (I : Nat → Nat → Int32) (J : Nat → Nat → Int64) (hI : Iv L K x0 m0 tx tm I) (p0 : Nat) (hLp0 : p0 ∈ L) (hKp0 : K p0 = 3) (p1 : Nat) (hLp1 : p1 ∈ L) (hKp1 : K p1 = 3) (p2 : Int32) (p3 : Int32) : Met l yX3_shared (.code yX3_shared cX3_shared 14 (some .int) :: pw) ({ frames := 1, cells := 0, slots := 0, locals := 24 }) (sP (dC, dI) cs [.ref p0, .ref p1, .int p2, .int p3] sz L K I J Q) (va_Qi (fun (r : Int32) (_ : Unit) => (((-1000000 ≤ p2.toInt ∧ p2.toInt ≤ 1000000) ∧ (-1000000 ≤ p3.toInt ∧ p3.toInt ≤ 1000000)) → mko Q I J p0 → mko Q I J p1 → r.toInt = cmN (J (wo Q p0)) (J (wo Q p1)) p2.toInt p3.toInt)) (fun _ _ => True) (fun _ => False)) 0 0 (fun _ => False) := by
  refine Met.ofW (cc := cX3_shared) (maxL := 14) (ret := (some .int)) (by decide +kernel) rfl ?_
  intro p e s m args below meth c s₁ B hml hv
  obtain ⟨rfl, hsz, hP, hK, hD0, hN⟩ := hv
  have hx := B.exec
  have hb := B.bytes
  have hr := B.returns
  have hts := fun w (h : w ∈ pw) => atoms_spec (ws := Cond.code yX3_shared cX3_shared 14 (some .int) :: pw) B.pre w (List.mem_cons_of_mem _ h)
  have hown : s.vm.findClass RX3 = some m.cls := findClass_of_methodNamed B.named
  have hlocks := B.notSynchronized
  subst hsz
  have hBB : 999 ≤ tm.2 ∧ tm.2 ≤ 6000000 := hI.2.2.2.2.1
  have hD := hD0
  obtain ⟨H, hHe⟩ : ∃ H : Heap, H = s.heap := ⟨_, rfl⟩
  have hS : va_S (fun _ => False) s.heap H [] := by rw [hHe]; exact va_S.rf
  rw [← hHe] at hP
  have hl := lv_entry ([.ref p0, .ref p1, .int p2, .int p3]) (n := 14) (Nat.le_of_ble_eq_true rfl)
  rw [lg_entry_eq]
  generalize (lg_sl ([.ref p0, .ref p1, .int p2, .int p3]) ++ List.replicate (14 - (lg_sl ([.ref p0, .ref p1, .int p2, .int p3])).length) Slot.unset).toArray = ls at hl ⊢
  have hl : lv_has ls 14 [(0, .ref p0), (1, .ref p1), (2, .int p2), (3, .int p3)] := hl
  rw [← hHe]
  refine namedW (fun R Qz hR hQz => ?_)
  refine lv_aload_n hx hb dX3_shared_0 rfl (lv_at hl 0 rfl) ?_
  refine lv_aload_n hx hb dX3_shared_1 rfl (lv_at hl 1 rfl) ?_
  refine lv_iload_n hx hb dX3_shared_2 rfl (lv_at hl 2 rfl) ?_
  refine lv_iload_n hx hb dX3_shared_3 rfl (lv_at hl 3 rfl) ?_
  refine ro_i (va_runS (As := [.ref p0, .ref p1, .int p2, .int p3]) (rest := []) ⟨hx, hb, hml, hown, hts⟩ (s_X3_boxesShare l dC dI cs L K G Q hQ x0 m0 tx tm H.size I J hI p0 hLp0 hKp0 p1 hLp1 hKp1 p2 p3) (va_cwS 4 hts (gS pq773 pq774 pq76 pq775) rfl rfl rfl (by decide +kernel) ⟨(by rw [hR]; exact (Nat.le_of_ble_eq_true rfl)), (by rw [hR]; exact (Nat.le_of_ble_eq_true rfl))⟩) (sP_S hP hD hK hN) rfl rfl hl.1 rfl (lv_room (Nat.le_of_ble_eq_true rfl)) dX3_shared_4 ⟨(by rw [hR]; exact (Nat.le_of_ble_eq_true rfl)), (by rw [hR]; exact (Nat.le_of_ble_eq_true rfl))⟩) hS hP (fun z4 H locs hz4 hP hS => ?_)
  obtain ⟨bz4, imz4, xpz4⟩ := hz4
  refine lv_if_ne (tgt := 12) hx hb dX3_shared_7 (by decide) (fun c7 => ?_) (fun c7 => ?_)
  · have t7 := tq_ne (k := z4.toInt) (q := (0)) c7 rfl (by decide +kernel)
    have i7 := imz4 t7
    refine lv_iload_n hx hb dX3_shared_12 rfl (lv_at hl 2 rfl) ?_
    have j21 : ∀ (w21_0 : Nat) (H : Heap) (lo : List Loc) (ls : Array Slot), w21_0 ∈ L → K w21_0 = 3 → ¬ (I w21_0 3).toInt = 0 → ((p2.toInt < 0 → w21_0 = p1) ∧ (¬ p2.toInt < 0 → w21_0 = p0)) → va_P (dC, dI) vwCl (Wd cs L K I J Q) H → va_S (fun _ => False) s.heap H lo → lv_has ls 14 [(0, .ref p0), (1, .ref p1), (2, .int p2), (3, .int p3)] → W p l e R s m (([.ref p0, .ref p1, .int p2, .int p3] : List Value).toArray) below meth c H lo 0 0 Qz (F0 m 21 ls [.ref w21_0]) := by
      intro w21_0 H lo ls hLw21_0 hKw21_0 hn21 hw21 hP hS hl
      refine lv_astore (lv' := [(4, .ref w21_0), (0, .ref p0), (1, .ref p1), (2, .int p2), (3, .int p3)]) hx hb dX3_shared_21 hl (by decide) rfl (fun ls hl => ?_)
      refine lv_iload_n hx hb dX3_shared_23 rfl (lv_at hl 3 rfl) ?_
      have j32 : ∀ (w32_0 : Nat) (H : Heap) (lo : List Loc) (ls : Array Slot), w32_0 ∈ L → K w32_0 = 3 → ¬ (I w32_0 3).toInt = 0 → ((p2.toInt < 0 → w32_0 = p0) ∧ (¬ p2.toInt < 0 → w32_0 = p1)) → va_P (dC, dI) vwCl (Wd cs L K I J Q) H → va_S (fun _ => False) s.heap H lo → lv_has ls 14 [(0, .ref p0), (1, .ref p1), (2, .int p2), (3, .int p3), (4, .ref w21_0)] → W p l e R s m (([.ref p0, .ref p1, .int p2, .int p3] : List Value).toArray) below meth c H lo 0 0 Qz (F0 m 32 ls [.ref w32_0]) := by
        intro w32_0 H lo ls hLw32_0 hKw32_0 hn32 hw32 hP hS hl
        refine lv_astore (lv' := [(5, .ref w32_0), (0, .ref p0), (1, .ref p1), (2, .int p2), (3, .int p3), (4, .ref w21_0)]) hx hb dX3_shared_32 hl (by decide) rfl (fun ls hl => ?_)
        refine lv_iload_n hx hb dX3_shared_34 rfl (lv_at hl 3 rfl) ?_
        have j44 : ∀ (w44_0 : Int32) (H : Heap) (lo : List Loc) (ls : Array Slot), (((-1000000 ≤ p2.toInt ∧ p2.toInt ≤ 1000000) ∧ (-1000000 ≤ p3.toInt ∧ p3.toInt ≤ 1000000)) → w44_0.toInt = if p2.toInt < 0 then -p2.toInt else p2.toInt) → va_P (dC, dI) vwCl (Wd cs L K I J Q) H → va_S (fun _ => False) s.heap H lo → lv_has ls 14 [(0, .ref p0), (1, .ref p1), (2, .int p2), (3, .int p3), (4, .ref w21_0), (5, .ref w32_0)] → W p l e R s m (([.ref p0, .ref p1, .int p2, .int p3] : List Value).toArray) below meth c H lo 0 0 Qz (F0 m 44 ls [.int w44_0]) := by
          intro w44_0 H lo ls hw44 hP hS hl
          refine lv_istore (lv' := [(6, .int w44_0), (0, .ref p0), (1, .ref p1), (2, .int p2), (3, .int p3), (4, .ref w21_0), (5, .ref w32_0)]) hx hb dX3_shared_44 hl (by decide) rfl (fun ls hl => ?_)
          refine lv_iload_n hx hb dX3_shared_46 rfl (lv_at hl 3 rfl) ?_
          have j56 : ∀ (w56_0 : Int32) (H : Heap) (lo : List Loc) (ls : Array Slot), ((-39) ≤ w56_0.toInt ∧ w56_0.toInt ≤ 39) → (w56_0.toInt = if p2.toInt < 0 then -p3.toInt else p3.toInt) → va_P (dC, dI) vwCl (Wd cs L K I J Q) H → va_S (fun _ => False) s.heap H lo → lv_has ls 14 [(0, .ref p0), (1, .ref p1), (2, .int p2), (3, .int p3), (4, .ref w21_0), (5, .ref w32_0), (6, .int w44_0)] → W p l e R s m (([.ref p0, .ref p1, .int p2, .int p3] : List Value).toArray) below meth c H lo 0 0 Qz (F0 m 56 ls [.int w56_0]) := by
            intro w56_0 H lo ls bw56_0 hw56 hP hS hl
            refine lv_istore (lv' := [(7, .int w56_0), (0, .ref p0), (1, .ref p1), (2, .int p2), (3, .int p3), (4, .ref w21_0), (5, .ref w32_0), (6, .int w44_0)]) hx hb dX3_shared_56 hl (by decide) rfl (fun ls hl => ?_)
            have SW : ((-1000000 ≤ p2.toInt ∧ p2.toInt ≤ 1000000) ∧ (-1000000 ≤ p3.toInt ∧ p3.toInt ≤ 1000000)) → mko Q I J p0 → mko Q I J p1 → mko Q I J w21_0 ∧ mko Q I J w32_0 ∧ (cmN (J (wo Q p0)) (J (wo Q p1)) p2.toInt p3.toInt = cmN (J (wo Q w21_0)) (J (wo Q w32_0)) w44_0.toInt w56_0.toInt) ∧ (0 ≤ w44_0.toInt ∧ w44_0.toInt ≤ 127) := fun bd m0 m1 => by have bx := bx_dx m0.2 m1.2 ((xpz4.2 bd).mp t7); have e3 := hw44 bd; have e4 := hw56; (by_cases n : p2.toInt < 0); (rw [if_pos n] at e3 e4; rw [hw21.1 n, hw32.1 n, e3, e4]; exact ⟨m1, m0, cm_swap, by omega⟩); (rw [if_neg n] at e3 e4; rw [hw21.2 n, hw32.2 n, e3, e4]; exact ⟨m0, m1, rfl, by omega⟩)
            refine lv_aload hx hb dX3_shared_58 (lv_at hl 5 rfl) ?_
            refine p_get hx hb hts inX3 hown hK hP hLw21_0 hKw21_0 rfl rfl 7 (by decide) (hts _ pq143) rfl dX3_shared_60 ?_
            refine lv_topi (fun z60 ez60 => ?_)
            have bz60 := oI_3_7 (Iv_at hI hLw21_0 hKw21_0)
            rw [← ez60] at bz60
            refine lv_aload hx hb dX3_shared_63 (lv_at hl 6 rfl) ?_
            refine p_get hx hb hts inX3 hown hK hP hLw32_0 hKw32_0 rfl rfl 7 (by decide) (hts _ pq143) rfl dX3_shared_65 ?_
            refine lv_topi (fun z65 ez65 => ?_)
            have bz65 := oI_3_7 (Iv_at hI hLw32_0 hKw32_0)
            rw [← ez65] at bz65
            refine lv_iload hx hb dX3_shared_68 (lv_at hl 0 rfl) ?_
            refine lv_iadd hx hb dX3_shared_70 ?_
            refine lv_topi (fun z70 ez70 => ?_)
            have bz70 := tq_add (k := z65.toInt) (q := w56_0.toInt) ez70 rfl rfl (by omega) (by omega)
            refine va_mmin hx hb (hml.trans hl.1.symm) hown (hts _ pq776) (hts _ pq407) (hts _ pq82) (hts _ pq408) (by rw [hR]; exact (Nat.le_of_ble_eq_true rfl)) (by rw [hR]; exact (Nat.le_of_ble_eq_true rfl)) (by rw [hR]; exact (Nat.le_of_ble_eq_true rfl)) (by rw [hR]; exact (Nat.le_of_ble_eq_true rfl)) dX3_shared_71 ?_
            refine lv_topi (fun z71 ez71 => ?_)
            have bz71 := tq_min ez71
            refine lv_istore (lv' := [(8, .int z71), (7, .int w56_0), (0, .ref p0), (1, .ref p1), (2, .int p2), (3, .int p3), (4, .ref w21_0), (5, .ref w32_0), (6, .int w44_0)]) hx hb dX3_shared_74 hl (by decide) rfl (fun ls hl => ?_)
            refine lv_iconst (v := 0) hx hb dX3_shared_76 (by decide +kernel) ?_
            refine lv_istore (lv' := [(9, .int 0), (8, .int z71), (7, .int w56_0), (0, .ref p0), (1, .ref p1), (2, .int p2), (3, .int p3), (4, .ref w21_0), (5, .ref w32_0), (6, .int w44_0)]) hx hb dX3_shared_77 hl (by decide) rfl (fun ls hl => ?_)
            refine lv_aload hx hb dX3_shared_79 (lv_at hl 7 rfl) ?_
            refine p_get hx hb hts inX3 hown hK hP hLw21_0 hKw21_0 rfl rfl 5 (by decide) (hts _ pq137) rfl dX3_shared_81 ?_
            refine lv_topi (fun z81 ez81 => ?_)
            have bz81 := oI_3_5 (Iv_at hI hLw21_0 hKw21_0)
            rw [← ez81] at bz81
            refine lv_aload hx hb dX3_shared_84 (lv_at hl 8 rfl) ?_
            refine p_get hx hb hts inX3 hown hK hP hLw32_0 hKw32_0 rfl rfl 5 (by decide) (hts _ pq137) rfl dX3_shared_86 ?_
            refine lv_topi (fun z86 ez86 => ?_)
            have bz86 := oI_3_5 (Iv_at hI hLw32_0 hKw32_0)
            rw [← ez86] at bz86
            refine lv_iload hx hb dX3_shared_89 (lv_at hl 2 rfl) ?_
            have ra := oI_3_t (Iv_at hI hLw21_0 hKw21_0)
            rw [← ez81] at ra
            have rb := oI_3_t (Iv_at hI hLw32_0 hKw32_0)
            rw [← ez86] at rb
            refine lv_iadd hx hb dX3_shared_91 ?_
            refine lv_topi (fun z91 ez91 => ?_)
            have bz91 := tq_add (k := z86.toInt) (q := w56_0.toInt) ez91 rfl rfl (by omega) (by omega)
            refine va_mmax hx hb (hml.trans hl.1.symm) hown (hts _ pq777) (hts _ pq750) (hts _ pq82) (hts _ pq751) (by rw [hR]; exact (Nat.le_of_ble_eq_true rfl)) (by rw [hR]; exact (Nat.le_of_ble_eq_true rfl)) (by rw [hR]; exact (Nat.le_of_ble_eq_true rfl)) (by rw [hR]; exact (Nat.le_of_ble_eq_true rfl)) dX3_shared_92 ?_
            refine lv_topi (fun z92 ez92 => ?_)
            have bz92 := tq_max ez92
            refine lv_istore (lv' := [(10, .int z92), (9, .int 0), (8, .int z71), (7, .int w56_0), (0, .ref p0), (1, .ref p1), (2, .int p2), (3, .int p3), (4, .ref w21_0), (5, .ref w32_0), (6, .int w44_0)]) hx hb dX3_shared_95 hl (by decide) rfl (fun ls hl => ?_)
            have key97 := blocks (fun n => ∀ (v97_10 : Int32) (v97_9 : Int32) (H : Heap) (lo : List Loc) (ls : Array Slot), (79 - v97_10.toInt).toNat = n → ((-1) ≤ v97_10.toInt ∧ v97_10.toInt ≤ 78) → z81.toInt ≤ v97_10.toInt → z91.toInt ≤ v97_10.toInt → (((-1000000 ≤ p2.toInt ∧ p2.toInt ≤ 1000000) ∧ (-1000000 ≤ p3.toInt ∧ p3.toInt ≤ 1000000)) → mko Q I J p0 → mko Q I J p1 → v97_9.toInt = (totr (mkw (cmD (J (wo Q w21_0)) (J (wo Q w32_0)) w44_0.toInt w56_0.toInt)) (min v97_10.toInt.toNat 40) : Int)) → va_P (dC, dI) vwCl (Wd cs L K I J Q) H → va_S (fun _ => False) s.heap H lo → lv_has ls 14 [(0, .ref p0), (1, .ref p1), (2, .int p2), (3, .int p3), (4, .ref w21_0), (5, .ref w32_0), (6, .int w44_0), (7, .int w56_0), (8, .int z71), (9, .int v97_9), (10, .int v97_10)] → W p l e R s m (([.ref p0, .ref p1, .int p2, .int p3] : List Value).toArray) below meth c H lo 0 0 Qz (F0 m 97 ls [])) (by
              intro n ih97
              intro v97_10 v97_9 H lo ls hmu97 bv97_10 hy4 hy5 hcn hP hS hl
              refine lv_iload hx hb dX3_shared_97 (lv_at hl 10 rfl) ?_
              refine lv_iload hx hb dX3_shared_99 (lv_at hl 8 rfl) ?_
              refine lv_icmp_gt (tgt := 198) hx hb dX3_shared_101 (by decide) (fun c101 => ?_) (fun c101 => ?_)
              · have t101 := tq_lt (k := z71.toInt) (q := v97_10.toInt) c101 rfl rfl
                refine lv_iload hx hb dX3_shared_198 (lv_at hl 9 rfl) ?_
                subst hR; subst hQz
                exact W.iret (v := v97_9) hx hb hr (fun t ht hW => ⟨⟨v97_9, (), rfl, (fun bd m0 m1 => by obtain ⟨ma, mb, ho, hr⟩ := SW bd m0 m1; rw [ho, hcn bd m0 m1, tr_hi (r := min v97_10.toInt.toNat 40) (by omega) (fun X Y q => by have w := cm_t.mp q; have k0 := msr_pos ma.2 w.1; have k1 := msr_pos mb.2 w.2; have k2 := md_rng w.1; have e1 := congrArg Int32.toInt ez81; have e2 := congrArg Int32.toInt ez86; have e3 := congrArg Int32.toInt ez60; have e4 := congrArg Int32.toInt ez65; omega)]; rfl), trivial⟩, hS.F ht⟩) hS.2.2 dX3_shared_200
              · have t101 := tq_nlt (k := z71.toInt) (q := v97_10.toInt) c101 rfl rfl
                refine lv_iconst (v := 2) hx hb dX3_shared_104 (by decide +kernel) ?_
                refine lv_iload hx hb dX3_shared_105 (lv_at hl 10 rfl) ?_
                refine lv_iload hx hb dX3_shared_107 (lv_at hl 7 rfl) ?_
                refine lv_isub hx hb dX3_shared_109 ?_
                refine lv_topi (fun z109 ez109 => ?_)
                have bz109 := tq_sub (k := v97_10.toInt) (q := w56_0.toInt) ez109 rfl rfl (by omega) (by omega)
                refine lv_imul hx hb dX3_shared_110 ?_
                refine lv_topi (fun z110 ez110 => ?_)
                have bz110 := tq_mul (k := (2)) (q := z109.toInt) ez110 (by decide +kernel) rfl (by omega) (by omega)
                refine lv_istore (lv' := [(11, .int z110), (0, .ref p0), (1, .ref p1), (2, .int p2), (3, .int p3), (4, .ref w21_0), (5, .ref w32_0), (6, .int w44_0), (7, .int w56_0), (8, .int z71), (9, .int v97_9), (10, .int v97_10)]) hx hb dX3_shared_111 hl (by decide) rfl (fun ls hl => ?_)
                refine lv_aload hx hb dX3_shared_113 (lv_at hl 6 rfl) ?_
                obtain ⟨y115, ey115, hLy115, hKy115, hGy115⟩ := oQ_3_2 (Sv_at hQ hLw32_0 hKw32_0)
                refine p_get (v := .ref y115) hx hb hts inX3 hown hK hP hLw32_0 hKw32_0 rfl rfl 2 (by decide) (hts _ pq124) (congrArg (fun q => some (va_rf q)) ey115) dX3_shared_115 ?_
                refine lv_iload hx hb dX3_shared_118 (lv_at hl 0 rfl) ?_
                refine p_lald hx hb hK hP 2 hLy115 hKy115 rfl rfl (in_of (by omega) (by omega)) dX3_shared_120 ?_
                refine lv_topl (fun z120 ez120 => ?_)
                refine lv_lstore (lv' := [(12, .long z120), (11, .int z110), (0, .ref p0), (1, .ref p1), (2, .int p2), (3, .int p3), (4, .ref w21_0), (5, .ref w32_0), (6, .int w44_0), (7, .int w56_0), (8, .int z71), (9, .int v97_9), (10, .int v97_10)]) hx hb dX3_shared_121 hl (by decide) rfl (fun ls hl => ?_)
                have f120 : z120 = (J (wo Q w32_0)) (2 * z109.toInt.toNat) := by rw [ez120, wo_of ey115]; congr 1; show z110.toInt.toNat = _; omega
                refine lv_iload hx hb dX3_shared_123 (lv_at hl 8 rfl) ?_
                refine lv_bipush (v := 64) hx hb dX3_shared_125 (by decide +kernel) ?_
                have j154 : ∀ (v154_9 : Int32) (H : Heap) (lo : List Loc) (ls : Array Slot), (((-1000000 ≤ p2.toInt ∧ p2.toInt ≤ 1000000) ∧ (-1000000 ≤ p3.toInt ∧ p3.toInt ≤ 1000000)) → mko Q I J p0 → mko Q I J p1 → v154_9.toInt = (totr (mkw (cmD (J (wo Q w21_0)) (J (wo Q w32_0)) w44_0.toInt w56_0.toInt)) v97_10.toInt.toNat : Int) + (nb (mkw (cmD (J (wo Q w21_0)) (J (wo Q w32_0)) w44_0.toInt w56_0.toInt) (2 * v97_10.toInt.toNat)) : Int)) → va_P (dC, dI) vwCl (Wd cs L K I J Q) H → va_S (fun _ => False) s.heap H lo → lv_has ls 14 [(0, .ref p0), (1, .ref p1), (2, .int p2), (3, .int p3), (4, .ref w21_0), (5, .ref w32_0), (6, .int w44_0), (7, .int w56_0), (8, .int z71), (9, .int v154_9), (10, .int v97_10), (11, .int z110), (12, .long z120)] → W p l e R s m (([.ref p0, .ref p1, .int p2, .int p3] : List Value).toArray) below meth c H lo 0 0 Qz (F0 m 154 ls []) := by
                  intro v154_9 H lo ls h154 hP hS hl
                  refine lv_iload hx hb dX3_shared_154 (lv_at hl 9 rfl) ?_
                  refine lv_aload hx hb dX3_shared_156 (lv_at hl 4 rfl) ?_
                  obtain ⟨y158, ey158, hLy158, hKy158, hGy158⟩ := oQ_3_2 (Sv_at hQ hLw21_0 hKw21_0)
                  refine p_get (v := .ref y158) hx hb hts inX3 hown hK hP hLw21_0 hKw21_0 rfl rfl 2 (by decide) (hts _ pq124) (congrArg (fun q => some (va_rf q)) ey158) dX3_shared_158 ?_
                  refine lv_iconst (v := 2) hx hb dX3_shared_161 (by decide +kernel) ?_
                  refine lv_iload hx hb dX3_shared_162 (lv_at hl 10 rfl) ?_
                  refine lv_imul hx hb dX3_shared_164 ?_
                  refine lv_topi (fun z164 ez164 => ?_)
                  have bz164 := tq_mul (k := (2)) (q := v97_10.toInt) ez164 (by decide +kernel) rfl (by omega) (by omega)
                  refine lv_iconst (v := 1) hx hb dX3_shared_165 (by decide +kernel) ?_
                  refine lv_iadd hx hb dX3_shared_166 ?_
                  refine lv_topi (fun z166 ez166 => ?_)
                  have bz166 := tq_add (k := z164.toInt) (q := (1)) ez166 rfl (by decide +kernel) (by omega) (by omega)
                  refine p_lald hx hb hK hP 2 hLy158 hKy158 rfl rfl (in_of (by omega) (by omega)) dX3_shared_167 ?_
                  refine lv_topl (fun z167 ez167 => ?_)
                  have f167 : z167 = (J (wo Q w21_0)) (2 * v97_10.toInt.toNat + 1) := by rw [ez167, wo_of ey158]; congr 1; show z166.toInt.toNat = _; omega
                  refine lv_lload hx hb dX3_shared_168 (lv_at hl 12 rfl) ?_
                  refine lv_aload hx hb dX3_shared_170 (lv_at hl 5 rfl) ?_
                  refine p_get (v := .ref y115) hx hb hts inX3 hown hK hP hLw32_0 hKw32_0 rfl rfl 2 (by decide) (hts _ pq124) (congrArg (fun q => some (va_rf q)) ey115) dX3_shared_172 ?_
                  refine lv_iload hx hb dX3_shared_175 (lv_at hl 11 rfl) ?_
                  refine lv_iconst (v := 1) hx hb dX3_shared_177 (by decide +kernel) ?_
                  refine lv_iadd hx hb dX3_shared_178 ?_
                  refine lv_topi (fun z178 ez178 => ?_)
                  have bz178 := tq_add (k := z110.toInt) (q := (1)) ez178 rfl (by decide +kernel) (by omega) (by omega)
                  refine p_lald hx hb hK hP 2 hLy115 hKy115 rfl rfl (in_of (by omega) (by omega)) dX3_shared_179 ?_
                  refine lv_topl (fun z179 ez179 => ?_)
                  have f179 : z179 = (J (wo Q w32_0)) (2 * z109.toInt.toNat + 1) := by rw [ez179, wo_of ey115]; congr 1; show z178.toInt.toNat = _; omega
                  refine lv_iload hx hb dX3_shared_180 (lv_at hl 6 rfl) ?_
                  refine ro_l (va_runS (As := [.long z120, .long z179, .int w44_0]) (rest := [.long z167, .int v154_9]) ⟨hx, hb, hml, hown, hts⟩ (s_X3_movedHigh l dC dI cs L K G Q hQ x0 m0 tx tm H.size I J hI z120 z179 w44_0) (va_cwS 3 hts (gS pq628 pq629 pq76 pq630) rfl rfl rfl (by decide +kernel) ⟨(by rw [hR]; exact (Nat.le_of_ble_eq_true rfl)), (by rw [hR]; exact (Nat.le_of_ble_eq_true rfl))⟩) (sP_S hP hD hK hN) rfl rfl hl.1 rfl (lv_room (Nat.le_of_ble_eq_true rfl)) dX3_shared_182 ⟨(by rw [hR]; exact (Nat.le_of_ble_eq_true rfl)), (by rw [hR]; exact (Nat.le_of_ble_eq_true rfl))⟩) hS hP (fun z182 H locs hz182 hP hS => ?_)
                  have xpz182 := hz182
                  refine lv_land hx hb dX3_shared_185 ?_
                  refine lv_topl (fun z185 ez185 => ?_)
                  refine ro_i (va_runS (As := [.long z185]) (rest := [.int v154_9]) ⟨hx, hb, hml, hown, hts⟩ (s_J13_bitCount l dC dI cs L K Q H.size I J z185) (va_cwS 1 hts (gS pq545 pq546 pq89 pq547) rfl rfl rfl (by decide +kernel) ⟨(by rw [hR]; exact (Nat.le_of_ble_eq_true rfl)), (by rw [hR]; exact (Nat.le_of_ble_eq_true rfl))⟩) (sP_S hP hD hK hN) rfl rfl hl.1 rfl (lv_room (Nat.le_of_ble_eq_true rfl)) dX3_shared_186 ⟨(by rw [hR]; exact (Nat.le_of_ble_eq_true rfl)), (by rw [hR]; exact (Nat.le_of_ble_eq_true rfl))⟩) hS hP (fun z186 H locs hz186 hP hS => ?_)
                  obtain ⟨bz186, xpz186⟩ := hz186
                  refine lv_iadd hx hb dX3_shared_189 ?_
                  refine lv_topi (fun z189 ez189 => ?_)
                  refine lv_istore (lv' := [(9, .int z189), (0, .ref p0), (1, .ref p1), (2, .int p2), (3, .int p3), (4, .ref w21_0), (5, .ref w32_0), (6, .int w44_0), (7, .int w56_0), (8, .int z71), (10, .int v97_10), (11, .int z110), (12, .long z120)]) hx hb dX3_shared_190 hl (by decide) rfl (fun ls hl => ?_)
                  obtain ⟨z192, ez192⟩ : ∃ y : Int32, y = v97_10 + 1 := ⟨_, rfl⟩
                  refine lv_iinc (v := z192) (lv' := [(10, .int z192), (9, .int z189), (0, .ref p0), (1, .ref p1), (2, .int p2), (3, .int p3), (4, .ref w21_0), (5, .ref w32_0), (6, .int w44_0), (7, .int w56_0), (8, .int z71), (11, .int z110), (12, .long z120)]) hx hb dX3_shared_192 hl (k := 10) rfl (by rw [ez192]; rfl) (by decide) rfl (fun ls hl => ?_)
                  have bz192 := tq_add (k := v97_10.toInt) (q := 1) ez192 rfl (by decide +kernel) (by omega) (by omega)
                  refine lv_goto (tgt := 97) hx hb dX3_shared_195 (by decide) ?_
                  exact ih97 _ (by omega) z192 z189 _ _ _ rfl ⟨by omega, by omega⟩ (by omega) (by omega) (fun bd m0 m1 => by obtain ⟨ma, mb, -, hr⟩ := SW bd m0 m1; have g := h154 bd m0 m1; have e2 := cm_hi (f := (J (wo Q w21_0))) (g := (J (wo Q w32_0))) (dx := w44_0.toInt) (dy := w56_0.toInt) (r := v97_10.toInt.toNat) (k := z109.toInt.toNat) (by omega) (by omega) (by omega) f167 f120 f179 (xpz182 hr) ez185; rw [e2] at xpz186; have T : totr (mkw (cmD (J (wo Q w21_0)) (J (wo Q w32_0)) w44_0.toInt w56_0.toInt)) (v97_10.toInt.toNat + 1) = totr (mkw (cmD (J (wo Q w21_0)) (J (wo Q w32_0)) w44_0.toInt w56_0.toInt)) v97_10.toInt.toNat + (nb (mkw (cmD (J (wo Q w21_0)) (J (wo Q w32_0)) w44_0.toInt w56_0.toInt) (2 * v97_10.toInt.toNat)) + nb (mkw (cmD (J (wo Q w21_0)) (J (wo Q w32_0)) w44_0.toInt w56_0.toInt) (2 * v97_10.toInt.toNat + 1))) := rfl; have x186 : z186.toInt = (nb (mkw (cmD (J (wo Q w21_0)) (J (wo Q w32_0)) w44_0.toInt w56_0.toInt) (2 * v97_10.toInt.toNat + 1)) : Int) := xpz186; have tl := totr_le (mkw (cmD (J (wo Q w21_0)) (J (wo Q w32_0)) w44_0.toInt w56_0.toInt)) (v97_10.toInt.toNat + 1); have a189 := tq_add (k := v154_9.toInt) (q := z186.toInt) ez189 rfl rfl (by omega) (by omega); rw [show min z192.toInt.toNat 40 = v97_10.toInt.toNat + 1 by omega]; omega) hP hS (lv_sub hl [2, 3, 4, 5, 6, 7, 8, 9, 10, 1, 0] rfl)
                refine lv_icmp_ge (tgt := 154) hx hb dX3_shared_127 (by decide) (fun c127 => ?_) (fun c127 => ?_)
                · have t127 := tq_le (k := (64)) (q := w44_0.toInt) c127 (by decide +kernel) rfl
                  exact j154 v97_9 _ _ _ (fun bd m0 m1 => by have g := hcn bd m0 m1; rw [show min v97_10.toInt.toNat 40 = v97_10.toInt.toNat by omega] at g; rw [g, cm_lo0 (r := v97_10.toInt.toNat) (by omega) (by omega), show nb (0 : Int64) = 0 from nb_0.mpr rfl]; omega) hP hS (lv_sub hl [2, 3, 4, 5, 6, 7, 8, 9, 10, 11, 12, 1, 0] rfl)
                · have t127 := tq_nle (k := (64)) (q := w44_0.toInt) c127 (by decide +kernel) rfl
                  refine lv_iload hx hb dX3_shared_130 (lv_at hl 11 rfl) ?_
                  refine lv_aload hx hb dX3_shared_132 (lv_at hl 6 rfl) ?_
                  obtain ⟨y134, ey134, hLy134, hKy134, hGy134⟩ := oQ_3_2 (Sv_at hQ hLw21_0 hKw21_0)
                  refine p_get (v := .ref y134) hx hb hts inX3 hown hK hP hLw21_0 hKw21_0 rfl rfl 2 (by decide) (hts _ pq124) (congrArg (fun q => some (va_rf q)) ey134) dX3_shared_134 ?_
                  refine lv_iconst (v := 2) hx hb dX3_shared_137 (by decide +kernel) ?_
                  refine lv_iload hx hb dX3_shared_138 (lv_at hl 12 rfl) ?_
                  refine lv_imul hx hb dX3_shared_140 ?_
                  refine lv_topi (fun z140 ez140 => ?_)
                  have bz140 := tq_mul (k := (2)) (q := v97_10.toInt) ez140 (by decide +kernel) rfl (by omega) (by omega)
                  refine p_lald hx hb hK hP 2 hLy134 hKy134 rfl rfl (in_of (by omega) (by omega)) dX3_shared_141 ?_
                  refine lv_topl (fun z141 ez141 => ?_)
                  have f141 : z141 = (J (wo Q w21_0)) (2 * v97_10.toInt.toNat) := by rw [ez141, wo_of ey134]; congr 1; show z140.toInt.toNat = _; omega
                  refine lv_lload hx hb dX3_shared_142 (lv_at hl 0 rfl) ?_
                  refine lv_iload hx hb dX3_shared_144 (lv_at hl 8 rfl) ?_
                  refine lv_lshl hx hb dX3_shared_146 rfl ?_
                  refine lv_topl (fun z146 ez146 => ?_)
                  refine lv_land hx hb dX3_shared_147 ?_
                  refine lv_topl (fun z147 ez147 => ?_)
                  refine ro_i (va_runS (As := [.long z147]) (rest := [.int v97_9]) ⟨hx, hb, hml, hown, hts⟩ (s_J13_bitCount l dC dI cs L K Q H.size I J z147) (va_cwS 1 hts (gS pq545 pq546 pq89 pq547) rfl rfl rfl (by decide +kernel) ⟨(by rw [hR]; exact (Nat.le_of_ble_eq_true rfl)), (by rw [hR]; exact (Nat.le_of_ble_eq_true rfl))⟩) (sP_S hP hD hK hN) rfl rfl hl.1 rfl (lv_room (Nat.le_of_ble_eq_true rfl)) dX3_shared_148 ⟨(by rw [hR]; exact (Nat.le_of_ble_eq_true rfl)), (by rw [hR]; exact (Nat.le_of_ble_eq_true rfl))⟩) hS hP (fun z148 H locs hz148 hP hS => ?_)
                  obtain ⟨bz148, xpz148⟩ := hz148
                  refine lv_iadd hx hb dX3_shared_151 ?_
                  refine lv_topi (fun z151 ez151 => ?_)
                  refine lv_istore (lv' := [(9, .int z151), (12, .long z120), (11, .int z110), (0, .ref p0), (1, .ref p1), (2, .int p2), (3, .int p3), (4, .ref w21_0), (5, .ref w32_0), (6, .int w44_0), (7, .int w56_0), (8, .int z71), (10, .int v97_10)]) hx hb dX3_shared_152 hl (by decide) rfl (fun ls hl => ?_)
                  exact j154 z151 _ _ _ (fun bd m0 m1 => by obtain ⟨ma, mb, -, hr⟩ := SW bd m0 m1; have g := hcn bd m0 m1; rw [show min v97_10.toInt.toNat 40 = v97_10.toInt.toNat by omega] at g; have e1 := cm_lo (f := (J (wo Q w21_0))) (g := (J (wo Q w32_0))) (dx := w44_0.toInt) (dy := w56_0.toInt) (r := v97_10.toInt.toNat) (k := z109.toInt.toNat) (by omega) (by omega) (by omega) rfl hr.1 (by omega) f141 f120 ez146 ez147; have x148 : z148.toInt = (nb (mkw (cmD (J (wo Q w21_0)) (J (wo Q w32_0)) w44_0.toInt w56_0.toInt) (2 * v97_10.toInt.toNat)) : Int) := (by rw [← e1]; exact xpz148); have tl := totr_le (mkw (cmD (J (wo Q w21_0)) (J (wo Q w32_0)) w44_0.toInt w56_0.toInt)) v97_10.toInt.toNat; have nl := nb_le (mkw (cmD (J (wo Q w21_0)) (J (wo Q w32_0)) w44_0.toInt w56_0.toInt) (2 * v97_10.toInt.toNat)); have a151 := tq_add (k := v97_9.toInt) (q := z148.toInt) ez151 rfl rfl (by omega) (by omega); omega) hP hS (lv_sub hl [3, 4, 5, 6, 7, 8, 9, 10, 11, 0, 12, 2, 1] rfl))
            exact key97 _ z92 0 _ _ _ rfl ⟨by omega, by omega⟩ (by omega) (by omega) (fun bd m0 m1 => by obtain ⟨ma, mb, -, -⟩ := SW bd m0 m1; rw [tr_lo (r := min z92.toInt.toNat 40) (by omega) (fun X Y q => by have w := cm_t.mp q; have k0 := msr_pos ma.2 w.1; have k1 := msr_pos mb.2 w.2; have k2 := md_rng w.1; have e1 := congrArg Int32.toInt ez81; have e2 := congrArg Int32.toInt ez86; have e3 := congrArg Int32.toInt ez60; have e4 := congrArg Int32.toInt ez65; omega)]; show (0 : Int32).toInt = 0; decide +kernel) hP hS (lv_sub hl [4, 5, 6, 7, 8, 9, 10, 3, 2, 1, 0] rfl)
          refine lv_if_ge (tgt := 55) hx hb dX3_shared_47 (by decide) (fun c47 => ?_) (fun c47 => ?_)
          · have t47 := tq_le (k := (0)) (q := p2.toInt) c47 (by decide +kernel) rfl
            refine lv_iload_n hx hb dX3_shared_55 rfl (lv_at hl 4 rfl) ?_
            exact j56 p3 _ _ _ ⟨by omega, by omega⟩ (by rw [if_neg (by omega)]) hP hS (lv_sub hl [1, 2, 3, 4, 5, 6, 0] rfl)
          · have t47 := tq_nle (k := (0)) (q := p2.toInt) c47 (by decide +kernel) rfl
            refine lv_iload_n hx hb dX3_shared_50 rfl (lv_at hl 4 rfl) ?_
            refine lv_ineg hx hb dX3_shared_51 ?_
            refine lv_topi (fun z51 ez51 => ?_)
            have bz51 := tq_neg (k := p3.toInt) ez51 rfl (by omega) (by omega)
            refine lv_goto (tgt := 56) hx hb dX3_shared_52 (by decide) ?_
            exact j56 z51 _ _ _ ⟨by omega, by omega⟩ (by rw [if_pos (by omega)]; omega) hP hS (lv_sub hl [1, 2, 3, 4, 5, 6, 0] rfl)
        refine lv_if_ge (tgt := 43) hx hb dX3_shared_35 (by decide) (fun c35 => ?_) (fun c35 => ?_)
        · have t35 := tq_le (k := (0)) (q := p2.toInt) c35 (by decide +kernel) rfl
          refine lv_iload_n hx hb dX3_shared_43 rfl (lv_at hl 3 rfl) ?_
          exact j44 p2 _ _ _ (fun bd => by rw [if_neg (by omega)]) hP hS (lv_sub hl [1, 2, 3, 4, 5, 0] rfl)
        · have t35 := tq_nle (k := (0)) (q := p2.toInt) c35 (by decide +kernel) rfl
          refine lv_iload_n hx hb dX3_shared_38 rfl (lv_at hl 3 rfl) ?_
          refine lv_ineg hx hb dX3_shared_39 ?_
          refine lv_topi (fun z39 ez39 => ?_)
          refine lv_goto (tgt := 44) hx hb dX3_shared_40 (by decide) ?_
          exact j44 z39 _ _ _ (fun bd => by rw [if_pos (by omega)]; exact tq_neg (k := p2.toInt) ez39 rfl (by omega) (by omega)) hP hS (lv_sub hl [1, 2, 3, 4, 5, 0] rfl)
      refine lv_if_ge (tgt := 31) hx hb dX3_shared_24 (by decide) (fun c24 => ?_) (fun c24 => ?_)
      · have t24 := tq_le (k := (0)) (q := p2.toInt) c24 (by decide +kernel) rfl
        refine lv_aload_n hx hb dX3_shared_31 rfl (lv_at hl 2 rfl) ?_
        exact j32 p1 _ _ _ hLp1 hKp1 (by intro h; exact (xpz4.1 t7).2 h) ⟨fun h => by first | rfl | (exfalso; omega), fun h => by first | rfl | (exfalso; omega)⟩ hP hS (lv_sub hl [1, 2, 3, 4, 0] rfl)
      · have t24 := tq_nle (k := (0)) (q := p2.toInt) c24 (by decide +kernel) rfl
        refine lv_aload_n hx hb dX3_shared_27 rfl (lv_at hl 1 rfl) ?_
        refine lv_goto (tgt := 32) hx hb dX3_shared_28 (by decide) ?_
        exact j32 p0 _ _ _ hLp0 hKp0 (by intro h; exact (xpz4.1 t7).1 h) ⟨fun h => by first | rfl | (exfalso; omega), fun h => by first | rfl | (exfalso; omega)⟩ hP hS (lv_sub hl [1, 2, 3, 4, 0] rfl)
    refine lv_if_ge (tgt := 20) hx hb dX3_shared_13 (by decide) (fun c13 => ?_) (fun c13 => ?_)
    · have t13 := tq_le (k := (0)) (q := p2.toInt) c13 (by decide +kernel) rfl
      refine lv_aload_n hx hb dX3_shared_20 rfl (lv_at hl 0 rfl) ?_
      exact j21 p0 _ _ _ hLp0 hKp0 (by intro h; exact (xpz4.1 t7).1 h) ⟨fun h => by first | rfl | (exfalso; omega), fun h => by first | rfl | (exfalso; omega)⟩ hP hS (lv_sub hl [0, 1, 2, 3] rfl)
    · have t13 := tq_nle (k := (0)) (q := p2.toInt) c13 (by decide +kernel) rfl
      refine lv_aload_n hx hb dX3_shared_16 rfl (lv_at hl 1 rfl) ?_
      refine lv_goto (tgt := 21) hx hb dX3_shared_17 (by decide) ?_
      exact j21 p1 _ _ _ hLp1 hKp1 (by intro h; exact (xpz4.1 t7).2 h) ⟨fun h => by first | rfl | (exfalso; omega), fun h => by first | rfl | (exfalso; omega)⟩ hP hS (lv_sub hl [0, 1, 2, 3] rfl)
  · have t7 := tq_eq (k := z4.toInt) (q := (0)) c7 rfl (by decide +kernel)
    refine lv_iconst (v := 0) hx hb dX3_shared_10 (by decide +kernel) ?_
    subst hR; subst hQz
    exact W.iret (v := 0) hx hb hr (fun t ht hW => ⟨⟨0, (), rfl, (fun bd m0 m1 => by rw [cm_z (fun o => absurd t7 ((xpz4.2 bd).mpr (ovl_box m0.2 m1.2 o)))]; show (0 : Int32).toInt = 0; decide +kernel), trivial⟩, hS.F ht⟩) hS.2.2 dX3_shared_11
