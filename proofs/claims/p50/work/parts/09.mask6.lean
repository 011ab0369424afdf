abbrev cX3_shareAny : ByteArray := prog_5_method_25_code
def yX3_shareAny : MethodName := ⟨RX3, "shareAny", "(LMaskTouch$Mask;LMaskTouch$Mask;II)Z"⟩
theorem dX3_shareAny_0 : decode cX3_shareAny 0 = .ok (.aload_n 0, 1) := by decide +kernel
theorem dX3_shareAny_1 : decode cX3_shareAny 1 = .ok (.aload_n 1, 1) := by decide +kernel
theorem dX3_shareAny_2 : decode cX3_shareAny 2 = .ok (.iload_n 2, 1) := by decide +kernel
theorem dX3_shareAny_3 : decode cX3_shareAny 3 = .ok (.iload_n 3, 1) := by decide +kernel
theorem dX3_shareAny_4 : decode cX3_shareAny 4 = .ok (.invokestatic 123, 3) := by decide +kernel
theorem dX3_shareAny_7 : decode cX3_shareAny 7 = .ok (.ifCond .ne 5, 3) := by decide +kernel
theorem dX3_shareAny_10 : decode cX3_shareAny 10 = .ok (.iconst 0, 1) := by decide +kernel
theorem dX3_shareAny_11 : decode cX3_shareAny 11 = .ok (.ireturn, 1) := by decide +kernel
theorem dX3_shareAny_12 : decode cX3_shareAny 12 = .ok (.iload_n 2, 1) := by decide +kernel
theorem dX3_shareAny_13 : decode cX3_shareAny 13 = .ok (.ifCond .ge 7, 3) := by decide +kernel
theorem dX3_shareAny_16 : decode cX3_shareAny 16 = .ok (.aload_n 1, 1) := by decide +kernel
theorem dX3_shareAny_17 : decode cX3_shareAny 17 = .ok (.goto 4, 3) := by decide +kernel
theorem dX3_shareAny_20 : decode cX3_shareAny 20 = .ok (.aload_n 0, 1) := by decide +kernel
theorem dX3_shareAny_21 : decode cX3_shareAny 21 = .ok (.astore 4, 2) := by decide +kernel
theorem dX3_shareAny_23 : decode cX3_shareAny 23 = .ok (.iload_n 2, 1) := by decide +kernel
theorem dX3_shareAny_24 : decode cX3_shareAny 24 = .ok (.ifCond .ge 7, 3) := by decide +kernel
theorem dX3_shareAny_27 : decode cX3_shareAny 27 = .ok (.aload_n 0, 1) := by decide +kernel
theorem dX3_shareAny_28 : decode cX3_shareAny 28 = .ok (.goto 4, 3) := by decide +kernel
theorem dX3_shareAny_31 : decode cX3_shareAny 31 = .ok (.aload_n 1, 1) := by decide +kernel
theorem dX3_shareAny_32 : decode cX3_shareAny 32 = .ok (.astore 5, 2) := by decide +kernel
theorem dX3_shareAny_34 : decode cX3_shareAny 34 = .ok (.iload_n 2, 1) := by decide +kernel
theorem dX3_shareAny_35 : decode cX3_shareAny 35 = .ok (.ifCond .ge 8, 3) := by decide +kernel
theorem dX3_shareAny_38 : decode cX3_shareAny 38 = .ok (.iload_n 2, 1) := by decide +kernel
theorem dX3_shareAny_39 : decode cX3_shareAny 39 = .ok (.ineg, 1) := by decide +kernel
theorem dX3_shareAny_40 : decode cX3_shareAny 40 = .ok (.goto 4, 3) := by decide +kernel
theorem dX3_shareAny_43 : decode cX3_shareAny 43 = .ok (.iload_n 2, 1) := by decide +kernel
theorem dX3_shareAny_44 : decode cX3_shareAny 44 = .ok (.istore 6, 2) := by decide +kernel
theorem dX3_shareAny_46 : decode cX3_shareAny 46 = .ok (.iload_n 2, 1) := by decide +kernel
theorem dX3_shareAny_47 : decode cX3_shareAny 47 = .ok (.ifCond .ge 8, 3) := by decide +kernel
theorem dX3_shareAny_50 : decode cX3_shareAny 50 = .ok (.iload_n 3, 1) := by decide +kernel
theorem dX3_shareAny_51 : decode cX3_shareAny 51 = .ok (.ineg, 1) := by decide +kernel
theorem dX3_shareAny_52 : decode cX3_shareAny 52 = .ok (.goto 4, 3) := by decide +kernel
theorem dX3_shareAny_55 : decode cX3_shareAny 55 = .ok (.iload_n 3, 1) := by decide +kernel
theorem dX3_shareAny_56 : decode cX3_shareAny 56 = .ok (.istore 7, 2) := by decide +kernel
theorem dX3_shareAny_58 : decode cX3_shareAny 58 = .ok (.aload 4, 2) := by decide +kernel
theorem dX3_shareAny_60 : decode cX3_shareAny 60 = .ok (.getfield 38, 3) := by decide +kernel
theorem dX3_shareAny_63 : decode cX3_shareAny 63 = .ok (.aload 5, 2) := by decide +kernel
theorem dX3_shareAny_65 : decode cX3_shareAny 65 = .ok (.getfield 38, 3) := by decide +kernel
theorem dX3_shareAny_68 : decode cX3_shareAny 68 = .ok (.iload 7, 2) := by decide +kernel
theorem dX3_shareAny_70 : decode cX3_shareAny 70 = .ok (.iadd, 1) := by decide +kernel
theorem dX3_shareAny_71 : decode cX3_shareAny 71 = .ok (.invokestatic 106, 3) := by decide +kernel
theorem dX3_shareAny_74 : decode cX3_shareAny 74 = .ok (.istore 8, 2) := by decide +kernel
theorem dX3_shareAny_76 : decode cX3_shareAny 76 = .ok (.aload 4, 2) := by decide +kernel
theorem dX3_shareAny_78 : decode cX3_shareAny 78 = .ok (.getfield 35, 3) := by decide +kernel
theorem dX3_shareAny_81 : decode cX3_shareAny 81 = .ok (.aload 5, 2) := by decide +kernel
theorem dX3_shareAny_83 : decode cX3_shareAny 83 = .ok (.getfield 35, 3) := by decide +kernel
theorem dX3_shareAny_86 : decode cX3_shareAny 86 = .ok (.iload 7, 2) := by decide +kernel
theorem dX3_shareAny_88 : decode cX3_shareAny 88 = .ok (.iadd, 1) := by decide +kernel
theorem dX3_shareAny_89 : decode cX3_shareAny 89 = .ok (.invokestatic 112, 3) := by decide +kernel
theorem dX3_shareAny_92 : decode cX3_shareAny 92 = .ok (.istore 9, 2) := by decide +kernel
theorem dX3_shareAny_94 : decode cX3_shareAny 94 = .ok (.iload 9, 2) := by decide +kernel
theorem dX3_shareAny_96 : decode cX3_shareAny 96 = .ok (.iload 8, 2) := by decide +kernel
theorem dX3_shareAny_98 : decode cX3_shareAny 98 = .ok (.if_icmp .gt 95, 3) := by decide +kernel
theorem dX3_shareAny_101 : decode cX3_shareAny 101 = .ok (.iconst 2, 1) := by decide +kernel
theorem dX3_shareAny_102 : decode cX3_shareAny 102 = .ok (.iload 9, 2) := by decide +kernel
theorem dX3_shareAny_104 : decode cX3_shareAny 104 = .ok (.iload 7, 2) := by decide +kernel
theorem dX3_shareAny_106 : decode cX3_shareAny 106 = .ok (.isub, 1) := by decide +kernel
theorem dX3_shareAny_107 : decode cX3_shareAny 107 = .ok (.imul, 1) := by decide +kernel
theorem dX3_shareAny_108 : decode cX3_shareAny 108 = .ok (.istore 10, 2) := by decide +kernel
theorem dX3_shareAny_110 : decode cX3_shareAny 110 = .ok (.aload 5, 2) := by decide +kernel
theorem dX3_shareAny_112 : decode cX3_shareAny 112 = .ok (.getfield 9, 3) := by decide +kernel
theorem dX3_shareAny_115 : decode cX3_shareAny 115 = .ok (.iload 10, 2) := by decide +kernel
theorem dX3_shareAny_117 : decode cX3_shareAny 117 = .ok (.laload, 1) := by decide +kernel
theorem dX3_shareAny_118 : decode cX3_shareAny 118 = .ok (.lstore 11, 2) := by decide +kernel
theorem dX3_shareAny_120 : decode cX3_shareAny 120 = .ok (.iload 6, 2) := by decide +kernel
theorem dX3_shareAny_122 : decode cX3_shareAny 122 = .ok (.bipush 64, 2) := by decide +kernel
theorem dX3_shareAny_124 : decode cX3_shareAny 124 = .ok (.if_icmp .ge 26, 3) := by decide +kernel
theorem dX3_shareAny_127 : decode cX3_shareAny 127 = .ok (.aload 4, 2) := by decide +kernel
theorem dX3_shareAny_129 : decode cX3_shareAny 129 = .ok (.getfield 9, 3) := by decide +kernel
theorem dX3_shareAny_132 : decode cX3_shareAny 132 = .ok (.iconst 2, 1) := by decide +kernel
theorem dX3_shareAny_133 : decode cX3_shareAny 133 = .ok (.iload 9, 2) := by decide +kernel
theorem dX3_shareAny_135 : decode cX3_shareAny 135 = .ok (.imul, 1) := by decide +kernel
theorem dX3_shareAny_136 : decode cX3_shareAny 136 = .ok (.laload, 1) := by decide +kernel
theorem dX3_shareAny_137 : decode cX3_shareAny 137 = .ok (.lload 11, 2) := by decide +kernel
theorem dX3_shareAny_139 : decode cX3_shareAny 139 = .ok (.iload 6, 2) := by decide +kernel
theorem dX3_shareAny_141 : decode cX3_shareAny 141 = .ok (.lshl, 1) := by decide +kernel
theorem dX3_shareAny_142 : decode cX3_shareAny 142 = .ok (.land, 1) := by decide +kernel
theorem dX3_shareAny_143 : decode cX3_shareAny 143 = .ok (.lconst 0, 1) := by decide +kernel
theorem dX3_shareAny_144 : decode cX3_shareAny 144 = .ok (.lcmp, 1) := by decide +kernel
theorem dX3_shareAny_145 : decode cX3_shareAny 145 = .ok (.ifCond .eq 5, 3) := by decide +kernel
theorem dX3_shareAny_148 : decode cX3_shareAny 148 = .ok (.iconst 1, 1) := by decide +kernel
theorem dX3_shareAny_149 : decode cX3_shareAny 149 = .ok (.ireturn, 1) := by decide +kernel
theorem dX3_shareAny_150 : decode cX3_shareAny 150 = .ok (.aload 4, 2) := by decide +kernel
theorem dX3_shareAny_152 : decode cX3_shareAny 152 = .ok (.getfield 9, 3) := by decide +kernel
theorem dX3_shareAny_155 : decode cX3_shareAny 155 = .ok (.iconst 2, 1) := by decide +kernel
theorem dX3_shareAny_156 : decode cX3_shareAny 156 = .ok (.iload 9, 2) := by decide +kernel
theorem dX3_shareAny_158 : decode cX3_shareAny 158 = .ok (.imul, 1) := by decide +kernel
theorem dX3_shareAny_159 : decode cX3_shareAny 159 = .ok (.iconst 1, 1) := by decide +kernel
theorem dX3_shareAny_160 : decode cX3_shareAny 160 = .ok (.iadd, 1) := by decide +kernel
theorem dX3_shareAny_161 : decode cX3_shareAny 161 = .ok (.laload, 1) := by decide +kernel
theorem dX3_shareAny_162 : decode cX3_shareAny 162 = .ok (.lload 11, 2) := by decide +kernel
theorem dX3_shareAny_164 : decode cX3_shareAny 164 = .ok (.aload 5, 2) := by decide +kernel
theorem dX3_shareAny_166 : decode cX3_shareAny 166 = .ok (.getfield 9, 3) := by decide +kernel
theorem dX3_shareAny_169 : decode cX3_shareAny 169 = .ok (.iload 10, 2) := by decide +kernel
theorem dX3_shareAny_171 : decode cX3_shareAny 171 = .ok (.iconst 1, 1) := by decide +kernel
theorem dX3_shareAny_172 : decode cX3_shareAny 172 = .ok (.iadd, 1) := by decide +kernel
theorem dX3_shareAny_173 : decode cX3_shareAny 173 = .ok (.laload, 1) := by decide +kernel
theorem dX3_shareAny_174 : decode cX3_shareAny 174 = .ok (.iload 6, 2) := by decide +kernel
theorem dX3_shareAny_176 : decode cX3_shareAny 176 = .ok (.invokestatic 127, 3) := by decide +kernel
theorem dX3_shareAny_179 : decode cX3_shareAny 179 = .ok (.land, 1) := by decide +kernel
theorem dX3_shareAny_180 : decode cX3_shareAny 180 = .ok (.lconst 0, 1) := by decide +kernel
theorem dX3_shareAny_181 : decode cX3_shareAny 181 = .ok (.lcmp, 1) := by decide +kernel
theorem dX3_shareAny_182 : decode cX3_shareAny 182 = .ok (.ifCond .eq 5, 3) := by decide +kernel
theorem dX3_shareAny_185 : decode cX3_shareAny 185 = .ok (.iconst 1, 1) := by decide +kernel
theorem dX3_shareAny_186 : decode cX3_shareAny 186 = .ok (.ireturn, 1) := by decide +kernel
theorem dX3_shareAny_187 : decode cX3_shareAny 187 = .ok (.iinc 9 1, 3) := by decide +kernel
theorem dX3_shareAny_190 : decode cX3_shareAny 190 = .ok (.goto (-96), 3) := by decide +kernel
theorem dX3_shareAny_193 : decode cX3_shareAny 193 = .ok (.iconst 0, 1) := by decide +kernel
theorem dX3_shareAny_194 : decode cX3_shareAny 194 = .ok (.ireturn, 1) := by decide +kernel
set_option maxHeartbeats 4000000 in
set_option maxRecDepth 100000 in
theorem s_X3_shareAny (l : Launch) (dC : Nat → ClassId) (dI : Nat → Nat → Nat) (cs : Nat → ClassId) (L : List Nat) (K G : Nat → Nat) (Q : Nat → Nat → Option Nat) (hQ : Sv L K G Q) (x0 m0 : Nat) (tx : GT) (tm : GT × Int) (sz : Nat) (I : Nat → Nat → Int32) (J : Nat → Nat → Int64) (hI : Iv L K x0 m0 tx tm I) (p0 : Nat) (hLp0 : p0 ∈ L) (hKp0 : K p0 = 3) (p1 : Nat) (hLp1 : p1 ∈ L) (hKp1 : K p1 = 3) (p2 : Int32) (p3 : Int32) : Met l yX3_shareAny (.code yX3_shareAny cX3_shareAny 13 (some .boolean) :: pw) ({ frames := 1, cells := 0, slots := 0, locals := 24 }) (sP (dC, dI) cs [.ref p0, .ref p1, .int p2, .int p3] sz L K I J Q) (va_Qi (fun (r : Int32) (_ : Unit) => ((0) ≤ r.toInt ∧ r.toInt ≤ 1) ∧ (((-1000000 ≤ p2.toInt ∧ p2.toInt ≤ 1000000) ∧ (-1000000 ≤ p3.toInt ∧ p3.toInt ≤ 1000000)) → mko Q I J p0 → mko Q I J p1 → (¬ r.toInt = 0 ↔ ovl (J (wo Q p0)) (J (wo Q p1)) p2.toInt p3.toInt))) (fun _ _ => True) (fun _ => False)) 0 0 (fun _ => False) := by
  refine Met.ofW (cc := cX3_shareAny) (maxL := 13) (ret := (some .boolean)) (by decide +kernel) rfl ?_
  intro p e s m args below meth c s₁ B hml hv
  obtain ⟨rfl, hsz, hP, hK, hD0, hN⟩ := hv
  have hx := B.exec
  have hb := B.bytes
  have hr := B.returns
  have hts := fun w (h : w ∈ pw) => atoms_spec (ws := Cond.code yX3_shareAny cX3_shareAny 13 (some .boolean) :: pw) B.pre w (List.mem_cons_of_mem _ h)
  have hown : s.vm.findClass RX3 = some m.cls := findClass_of_methodNamed B.named
  have hlocks := B.notSynchronized
  subst hsz
  have hBB : 999 ≤ tm.2 ∧ tm.2 ≤ 6000000 := hI.2.2.2.2.1
  have hD := hD0
  obtain ⟨H, hHe⟩ : ∃ H : Heap, H = s.heap := ⟨_, rfl⟩
  have hS : va_S (fun _ => False) s.heap H [] := by rw [hHe]; exact va_S.rf
  rw [← hHe] at hP
  have hl := lv_entry ([.ref p0, .ref p1, .int p2, .int p3]) (n := 13) (Nat.le_of_ble_eq_true rfl)
  rw [lg_entry_eq]
  generalize (lg_sl ([.ref p0, .ref p1, .int p2, .int p3]) ++ List.replicate (13 - (lg_sl ([.ref p0, .ref p1, .int p2, .int p3])).length) Slot.unset).toArray = ls at hl ⊢
  have hl : lv_has ls 13 [(0, .ref p0), (1, .ref p1), (2, .int p2), (3, .int p3)] := hl
  rw [← hHe]
  refine namedW (fun R Qz hR hQz => ?_)
  refine lv_aload_n hx hb dX3_shareAny_0 rfl (lv_at hl 0 rfl) ?_
  refine lv_aload_n hx hb dX3_shareAny_1 rfl (lv_at hl 1 rfl) ?_
  refine lv_iload_n hx hb dX3_shareAny_2 rfl (lv_at hl 2 rfl) ?_
  refine lv_iload_n hx hb dX3_shareAny_3 rfl (lv_at hl 3 rfl) ?_
  refine ro_i (va_runS (As := [.ref p0, .ref p1, .int p2, .int p3]) (rest := []) ⟨hx, hb, hml, hown, hts⟩ (s_X3_boxesShare l dC dI cs L K G Q hQ x0 m0 tx tm H.size I J hI p0 hLp0 hKp0 p1 hLp1 hKp1 p2 p3) (va_cwS 4 hts (gS pq773 pq774 pq76 pq775) rfl rfl rfl (by decide +kernel) ⟨(by rw [hR]; exact (Nat.le_of_ble_eq_true rfl)), (by rw [hR]; exact (Nat.le_of_ble_eq_true rfl))⟩) (sP_S hP hD hK hN) rfl rfl hl.1 rfl (lv_room (Nat.le_of_ble_eq_true rfl)) dX3_shareAny_4 ⟨(by rw [hR]; exact (Nat.le_of_ble_eq_true rfl)), (by rw [hR]; exact (Nat.le_of_ble_eq_true rfl))⟩) hS hP (fun z4 H locs hz4 hP hS => ?_)
  obtain ⟨bz4, imz4, xpz4⟩ := hz4
  refine lv_if_ne (tgt := 12) hx hb dX3_shareAny_7 (by decide) (fun c7 => ?_) (fun c7 => ?_)
  · have t7 := tq_ne (k := z4.toInt) (q := (0)) c7 rfl (by decide +kernel)
    have i7 := imz4 t7
    refine lv_iload_n hx hb dX3_shareAny_12 rfl (lv_at hl 2 rfl) ?_
    have j21 : ∀ (w21_0 : Nat) (H : Heap) (lo : List Loc) (ls : Array Slot), w21_0 ∈ L → K w21_0 = 3 → ¬ (I w21_0 3).toInt = 0 → ((p2.toInt < 0 → w21_0 = p1) ∧ (¬ p2.toInt < 0 → w21_0 = p0)) → va_P (dC, dI) vwCl (Wd cs L K I J Q) H → va_S (fun _ => False) s.heap H lo → lv_has ls 13 [(0, .ref p0), (1, .ref p1), (2, .int p2), (3, .int p3)] → W p l e R s m (([.ref p0, .ref p1, .int p2, .int p3] : List Value).toArray) below meth c H lo 0 0 Qz (F0 m 21 ls [.ref w21_0]) := by
      intro w21_0 H lo ls hLw21_0 hKw21_0 hn21 hw21 hP hS hl
      refine lv_astore (lv' := [(4, .ref w21_0), (0, .ref p0), (1, .ref p1), (2, .int p2), (3, .int p3)]) hx hb dX3_shareAny_21 hl (by decide) rfl (fun ls hl => ?_)
      refine lv_iload_n hx hb dX3_shareAny_23 rfl (lv_at hl 3 rfl) ?_
      have j32 : ∀ (w32_0 : Nat) (H : Heap) (lo : List Loc) (ls : Array Slot), w32_0 ∈ L → K w32_0 = 3 → ¬ (I w32_0 3).toInt = 0 → ((p2.toInt < 0 → w32_0 = p0) ∧ (¬ p2.toInt < 0 → w32_0 = p1)) → va_P (dC, dI) vwCl (Wd cs L K I J Q) H → va_S (fun _ => False) s.heap H lo → lv_has ls 13 [(0, .ref p0), (1, .ref p1), (2, .int p2), (3, .int p3), (4, .ref w21_0)] → W p l e R s m (([.ref p0, .ref p1, .int p2, .int p3] : List Value).toArray) below meth c H lo 0 0 Qz (F0 m 32 ls [.ref w32_0]) := by
        intro w32_0 H lo ls hLw32_0 hKw32_0 hn32 hw32 hP hS hl
        refine lv_astore (lv' := [(5, .ref w32_0), (0, .ref p0), (1, .ref p1), (2, .int p2), (3, .int p3), (4, .ref w21_0)]) hx hb dX3_shareAny_32 hl (by decide) rfl (fun ls hl => ?_)
        refine lv_iload_n hx hb dX3_shareAny_34 rfl (lv_at hl 3 rfl) ?_
        have j44 : ∀ (w44_0 : Int32) (H : Heap) (lo : List Loc) (ls : Array Slot), (((-1000000 ≤ p2.toInt ∧ p2.toInt ≤ 1000000) ∧ (-1000000 ≤ p3.toInt ∧ p3.toInt ≤ 1000000)) → w44_0.toInt = if p2.toInt < 0 then -p2.toInt else p2.toInt) → va_P (dC, dI) vwCl (Wd cs L K I J Q) H → va_S (fun _ => False) s.heap H lo → lv_has ls 13 [(0, .ref p0), (1, .ref p1), (2, .int p2), (3, .int p3), (4, .ref w21_0), (5, .ref w32_0)] → W p l e R s m (([.ref p0, .ref p1, .int p2, .int p3] : List Value).toArray) below meth c H lo 0 0 Qz (F0 m 44 ls [.int w44_0]) := by
          intro w44_0 H lo ls hw44 hP hS hl
          refine lv_istore (lv' := [(6, .int w44_0), (0, .ref p0), (1, .ref p1), (2, .int p2), (3, .int p3), (4, .ref w21_0), (5, .ref w32_0)]) hx hb dX3_shareAny_44 hl (by decide) rfl (fun ls hl => ?_)
          refine lv_iload_n hx hb dX3_shareAny_46 rfl (lv_at hl 3 rfl) ?_
          have j56 : ∀ (w56_0 : Int32) (H : Heap) (lo : List Loc) (ls : Array Slot), ((-39) ≤ w56_0.toInt ∧ w56_0.toInt ≤ 39) → (w56_0.toInt = if p2.toInt < 0 then -p3.toInt else p3.toInt) → va_P (dC, dI) vwCl (Wd cs L K I J Q) H → va_S (fun _ => False) s.heap H lo → lv_has ls 13 [(0, .ref p0), (1, .ref p1), (2, .int p2), (3, .int p3), (4, .ref w21_0), (5, .ref w32_0), (6, .int w44_0)] → W p l e R s m (([.ref p0, .ref p1, .int p2, .int p3] : List Value).toArray) below meth c H lo 0 0 Qz (F0 m 56 ls [.int w56_0]) := by
            intro w56_0 H lo ls bw56_0 hw56 hP hS hl
            refine lv_istore (lv' := [(7, .int w56_0), (0, .ref p0), (1, .ref p1), (2, .int p2), (3, .int p3), (4, .ref w21_0), (5, .ref w32_0), (6, .int w44_0)]) hx hb dX3_shareAny_56 hl (by decide) rfl (fun ls hl => ?_)
            have SW : ((-1000000 ≤ p2.toInt ∧ p2.toInt ≤ 1000000) ∧ (-1000000 ≤ p3.toInt ∧ p3.toInt ≤ 1000000)) → mko Q I J p0 → mko Q I J p1 → mko Q I J w21_0 ∧ mko Q I J w32_0 ∧ (ovl (J (wo Q p0)) (J (wo Q p1)) p2.toInt p3.toInt ↔ ovl (J (wo Q w21_0)) (J (wo Q w32_0)) w44_0.toInt w56_0.toInt) ∧ (0 ≤ w44_0.toInt ∧ w44_0.toInt ≤ 127) := fun bd m0 m1 => by have bx := bx_dx m0.2 m1.2 ((xpz4.2 bd).mp t7); have e3 := hw44 bd; have e4 := hw56; (by_cases n : p2.toInt < 0); (rw [if_pos n] at e3 e4; rw [hw21.1 n, hw32.1 n, e3, e4]; exact ⟨m1, m0, ovl_swap, by omega⟩); (rw [if_neg n] at e3 e4; rw [hw21.2 n, hw32.2 n, e3, e4]; exact ⟨m0, m1, Iff.rfl, by omega⟩)
            refine lv_aload hx hb dX3_shareAny_58 (lv_at hl 5 rfl) ?_
            refine p_get hx hb hts inX3 hown hK hP hLw21_0 hKw21_0 rfl rfl 7 (by decide) (hts _ pq143) rfl dX3_shareAny_60 ?_
            refine lv_topi (fun z60 ez60 => ?_)
            have bz60 := oI_3_7 (Iv_at hI hLw21_0 hKw21_0)
            rw [← ez60] at bz60
            refine lv_aload hx hb dX3_shareAny_63 (lv_at hl 6 rfl) ?_
            refine p_get hx hb hts inX3 hown hK hP hLw32_0 hKw32_0 rfl rfl 7 (by decide) (hts _ pq143) rfl dX3_shareAny_65 ?_
            refine lv_topi (fun z65 ez65 => ?_)
            have bz65 := oI_3_7 (Iv_at hI hLw32_0 hKw32_0)
            rw [← ez65] at bz65
            refine lv_iload hx hb dX3_shareAny_68 (lv_at hl 0 rfl) ?_
            refine lv_iadd hx hb dX3_shareAny_70 ?_
            refine lv_topi (fun z70 ez70 => ?_)
            have bz70 := tq_add (k := z65.toInt) (q := w56_0.toInt) ez70 rfl rfl (by omega) (by omega)
            refine va_mmin hx hb (hml.trans hl.1.symm) hown (hts _ pq776) (hts _ pq407) (hts _ pq82) (hts _ pq408) (by rw [hR]; exact (Nat.le_of_ble_eq_true rfl)) (by rw [hR]; exact (Nat.le_of_ble_eq_true rfl)) (by rw [hR]; exact (Nat.le_of_ble_eq_true rfl)) (by rw [hR]; exact (Nat.le_of_ble_eq_true rfl)) dX3_shareAny_71 ?_
            refine lv_topi (fun z71 ez71 => ?_)
            have bz71 := tq_min ez71
            refine lv_istore (lv' := [(8, .int z71), (7, .int w56_0), (0, .ref p0), (1, .ref p1), (2, .int p2), (3, .int p3), (4, .ref w21_0), (5, .ref w32_0), (6, .int w44_0)]) hx hb dX3_shareAny_74 hl (by decide) rfl (fun ls hl => ?_)
            refine lv_aload hx hb dX3_shareAny_76 (lv_at hl 6 rfl) ?_
            refine p_get hx hb hts inX3 hown hK hP hLw21_0 hKw21_0 rfl rfl 5 (by decide) (hts _ pq137) rfl dX3_shareAny_78 ?_
            refine lv_topi (fun z78 ez78 => ?_)
            have bz78 := oI_3_5 (Iv_at hI hLw21_0 hKw21_0)
            rw [← ez78] at bz78
            refine lv_aload hx hb dX3_shareAny_81 (lv_at hl 7 rfl) ?_
            refine p_get hx hb hts inX3 hown hK hP hLw32_0 hKw32_0 rfl rfl 5 (by decide) (hts _ pq137) rfl dX3_shareAny_83 ?_
            refine lv_topi (fun z83 ez83 => ?_)
            have bz83 := oI_3_5 (Iv_at hI hLw32_0 hKw32_0)
            rw [← ez83] at bz83
            refine lv_iload hx hb dX3_shareAny_86 (lv_at hl 1 rfl) ?_
            have ra := oI_3_t (Iv_at hI hLw21_0 hKw21_0)
            rw [← ez78] at ra
            have rb := oI_3_t (Iv_at hI hLw32_0 hKw32_0)
            rw [← ez83] at rb
            refine lv_iadd hx hb dX3_shareAny_88 ?_
            refine lv_topi (fun z88 ez88 => ?_)
            have bz88 := tq_add (k := z83.toInt) (q := w56_0.toInt) ez88 rfl rfl (by omega) (by omega)
            refine va_mmax hx hb (hml.trans hl.1.symm) hown (hts _ pq777) (hts _ pq750) (hts _ pq82) (hts _ pq751) (by rw [hR]; exact (Nat.le_of_ble_eq_true rfl)) (by rw [hR]; exact (Nat.le_of_ble_eq_true rfl)) (by rw [hR]; exact (Nat.le_of_ble_eq_true rfl)) (by rw [hR]; exact (Nat.le_of_ble_eq_true rfl)) dX3_shareAny_89 ?_
            refine lv_topi (fun z89 ez89 => ?_)
            have bz89 := tq_max ez89
            refine lv_istore (lv' := [(9, .int z89), (8, .int z71), (7, .int w56_0), (0, .ref p0), (1, .ref p1), (2, .int p2), (3, .int p3), (4, .ref w21_0), (5, .ref w32_0), (6, .int w44_0)]) hx hb dX3_shareAny_92 hl (by decide) rfl (fun ls hl => ?_)
            have key94 := blocks (fun n => ∀ (v94_9 : Int32) (H : Heap) (lo : List Loc) (ls : Array Slot), (79 - v94_9.toInt).toNat = n → ((-1) ≤ v94_9.toInt ∧ v94_9.toInt ≤ 78) → z78.toInt ≤ v94_9.toInt → z88.toInt ≤ v94_9.toInt → (((-1000000 ≤ p2.toInt ∧ p2.toInt ≤ 1000000) ∧ (-1000000 ≤ p3.toInt ∧ p3.toInt ≤ 1000000)) → mko Q I J p0 → mko Q I J p1 → nov (J (wo Q w21_0)) (J (wo Q w32_0)) w44_0.toInt w56_0.toInt v94_9.toInt) → va_P (dC, dI) vwCl (Wd cs L K I J Q) H → va_S (fun _ => False) s.heap H lo → lv_has ls 13 [(0, .ref p0), (1, .ref p1), (2, .int p2), (3, .int p3), (4, .ref w21_0), (5, .ref w32_0), (6, .int w44_0), (7, .int w56_0), (8, .int z71), (9, .int v94_9)] → W p l e R s m (([.ref p0, .ref p1, .int p2, .int p3] : List Value).toArray) below meth c H lo 0 0 Qz (F0 m 94 ls [])) (by
              intro n ih94
              intro v94_9 H lo ls hmu94 bv94_9 hy4 hy5 hnv hP hS hl
              refine lv_iload hx hb dX3_shareAny_94 (lv_at hl 9 rfl) ?_
              refine lv_iload hx hb dX3_shareAny_96 (lv_at hl 8 rfl) ?_
              refine lv_icmp_gt (tgt := 193) hx hb dX3_shareAny_98 (by decide) (fun c98 => ?_) (fun c98 => ?_)
              · have t98 := tq_lt (k := z71.toInt) (q := v94_9.toInt) c98 rfl rfl
                refine lv_iconst (v := 0) hx hb dX3_shareAny_193 (by decide +kernel) ?_
                subst hR; subst hQz
                exact W.zret (v := 0) hx hb hr (by decide +kernel) (fun t ht hW => ⟨⟨0, (), rfl, ⟨⟨by decide +kernel, by decide +kernel⟩, (fun bd m0 m1 => ⟨fun h => absurd (by decide +kernel) h, fun o => by obtain ⟨ma, mb, ho, -⟩ := SW bd m0 m1; exact absurd (ho.mp o) (nov_end ma.2 mb.2 (hnv bd m0 m1) (by rw [← ez60, ← ez65]; omega))⟩)⟩, trivial⟩, hS.F ht⟩) hS.2.2 dX3_shareAny_194
              · have t98 := tq_nlt (k := z71.toInt) (q := v94_9.toInt) c98 rfl rfl
                refine lv_iconst (v := 2) hx hb dX3_shareAny_101 (by decide +kernel) ?_
                refine lv_iload hx hb dX3_shareAny_102 (lv_at hl 9 rfl) ?_
                refine lv_iload hx hb dX3_shareAny_104 (lv_at hl 7 rfl) ?_
                refine lv_isub hx hb dX3_shareAny_106 ?_
                refine lv_topi (fun z106 ez106 => ?_)
                have bz106 := tq_sub (k := v94_9.toInt) (q := w56_0.toInt) ez106 rfl rfl (by omega) (by omega)
                refine lv_imul hx hb dX3_shareAny_107 ?_
                refine lv_topi (fun z107 ez107 => ?_)
                have bz107 := tq_mul (k := (2)) (q := z106.toInt) ez107 (by decide +kernel) rfl (by omega) (by omega)
                refine lv_istore (lv' := [(10, .int z107), (0, .ref p0), (1, .ref p1), (2, .int p2), (3, .int p3), (4, .ref w21_0), (5, .ref w32_0), (6, .int w44_0), (7, .int w56_0), (8, .int z71), (9, .int v94_9)]) hx hb dX3_shareAny_108 hl (by decide) rfl (fun ls hl => ?_)
                refine lv_aload hx hb dX3_shareAny_110 (lv_at hl 6 rfl) ?_
                obtain ⟨y112, ey112, hLy112, hKy112, hGy112⟩ := oQ_3_2 (Sv_at hQ hLw32_0 hKw32_0)
                refine p_get (v := .ref y112) hx hb hts inX3 hown hK hP hLw32_0 hKw32_0 rfl rfl 2 (by decide) (hts _ pq124) (congrArg (fun q => some (va_rf q)) ey112) dX3_shareAny_112 ?_
                refine lv_iload hx hb dX3_shareAny_115 (lv_at hl 0 rfl) ?_
                refine p_lald hx hb hK hP 2 hLy112 hKy112 rfl rfl (in_of (by omega) (by omega)) dX3_shareAny_117 ?_
                refine lv_topl (fun z117 ez117 => ?_)
                refine lv_lstore (lv' := [(11, .long z117), (10, .int z107), (0, .ref p0), (1, .ref p1), (2, .int p2), (3, .int p3), (4, .ref w21_0), (5, .ref w32_0), (6, .int w44_0), (7, .int w56_0), (8, .int z71), (9, .int v94_9)]) hx hb dX3_shareAny_118 hl (by decide) rfl (fun ls hl => ?_)
                have f117 : z117 = (J (wo Q w32_0)) (2 * (v94_9.toInt - w56_0.toInt).toNat) := by rw [ez117, wo_of ey112]; congr 1; show z107.toInt.toNat = _; omega
                refine lv_iload hx hb dX3_shareAny_120 (lv_at hl 8 rfl) ?_
                refine lv_bipush (v := 64) hx hb dX3_shareAny_122 (by decide +kernel) ?_
                have j150 : ∀ (H : Heap) (lo : List Loc) (ls : Array Slot), (((-1000000 ≤ p2.toInt ∧ p2.toInt ≤ 1000000) ∧ (-1000000 ≤ p3.toInt ∧ p3.toInt ≤ 1000000)) → mko Q I J p0 → mko Q I J p1 → w44_0.toInt < 64 → ¬ (∃ i : Nat, i < 64 ∧ b64 ((J (wo Q w21_0)) (2 * v94_9.toInt.toNat)) i = true ∧ dt ((J (wo Q w32_0)) (2 * (v94_9.toInt - w56_0.toInt).toNat)) ((J (wo Q w32_0)) (2 * (v94_9.toInt - w56_0.toInt).toNat + 1)) ((i : Int) - w44_0.toInt) = true)) → va_P (dC, dI) vwCl (Wd cs L K I J Q) H → va_S (fun _ => False) s.heap H lo → lv_has ls 13 [(0, .ref p0), (1, .ref p1), (2, .int p2), (3, .int p3), (4, .ref w21_0), (5, .ref w32_0), (6, .int w44_0), (7, .int w56_0), (8, .int z71), (9, .int v94_9), (10, .int z107), (11, .long z117)] → W p l e R s m (([.ref p0, .ref p1, .int p2, .int p3] : List Value).toArray) below meth c H lo 0 0 Qz (F0 m 150 ls []) := by
                  intro H lo ls h150 hP hS hl
                  refine lv_aload hx hb dX3_shareAny_150 (lv_at hl 4 rfl) ?_
                  obtain ⟨y152, ey152, hLy152, hKy152, hGy152⟩ := oQ_3_2 (Sv_at hQ hLw21_0 hKw21_0)
                  refine p_get (v := .ref y152) hx hb hts inX3 hown hK hP hLw21_0 hKw21_0 rfl rfl 2 (by decide) (hts _ pq124) (congrArg (fun q => some (va_rf q)) ey152) dX3_shareAny_152 ?_
                  refine lv_iconst (v := 2) hx hb dX3_shareAny_155 (by decide +kernel) ?_
                  refine lv_iload hx hb dX3_shareAny_156 (lv_at hl 9 rfl) ?_
                  refine lv_imul hx hb dX3_shareAny_158 ?_
                  refine lv_topi (fun z158 ez158 => ?_)
                  have bz158 := tq_mul (k := (2)) (q := v94_9.toInt) ez158 (by decide +kernel) rfl (by omega) (by omega)
                  refine lv_iconst (v := 1) hx hb dX3_shareAny_159 (by decide +kernel) ?_
                  refine lv_iadd hx hb dX3_shareAny_160 ?_
                  refine lv_topi (fun z160 ez160 => ?_)
                  have bz160 := tq_add (k := z158.toInt) (q := (1)) ez160 rfl (by decide +kernel) (by omega) (by omega)
                  refine p_lald hx hb hK hP 2 hLy152 hKy152 rfl rfl (in_of (by omega) (by omega)) dX3_shareAny_161 ?_
                  refine lv_topl (fun z161 ez161 => ?_)
                  refine lv_lload hx hb dX3_shareAny_162 (lv_at hl 11 rfl) ?_
                  refine lv_aload hx hb dX3_shareAny_164 (lv_at hl 5 rfl) ?_
                  refine p_get (v := .ref y112) hx hb hts inX3 hown hK hP hLw32_0 hKw32_0 rfl rfl 2 (by decide) (hts _ pq124) (congrArg (fun q => some (va_rf q)) ey112) dX3_shareAny_166 ?_
                  refine lv_iload hx hb dX3_shareAny_169 (lv_at hl 10 rfl) ?_
                  refine lv_iconst (v := 1) hx hb dX3_shareAny_171 (by decide +kernel) ?_
                  refine lv_iadd hx hb dX3_shareAny_172 ?_
                  refine lv_topi (fun z172 ez172 => ?_)
                  have bz172 := tq_add (k := z107.toInt) (q := (1)) ez172 rfl (by decide +kernel) (by omega) (by omega)
                  refine p_lald hx hb hK hP 2 hLy112 hKy112 rfl rfl (in_of (by omega) (by omega)) dX3_shareAny_173 ?_
                  refine lv_topl (fun z173 ez173 => ?_)
                  have f161 : z161 = (J (wo Q w21_0)) (2 * v94_9.toInt.toNat + 1) := by rw [ez161, wo_of ey152]; congr 1; show z160.toInt.toNat = _; omega
                  have f173 : z173 = (J (wo Q w32_0)) (2 * (v94_9.toInt - w56_0.toInt).toNat + 1) := by rw [ez173, wo_of ey112]; congr 1; show z172.toInt.toNat = _; omega
                  refine lv_iload hx hb dX3_shareAny_174 (lv_at hl 6 rfl) ?_
                  refine ro_l (va_runS (As := [.long z117, .long z173, .int w44_0]) (rest := [.long z161]) ⟨hx, hb, hml, hown, hts⟩ (s_X3_movedHigh l dC dI cs L K G Q hQ x0 m0 tx tm H.size I J hI z117 z173 w44_0) (va_cwS 3 hts (gS pq628 pq629 pq76 pq630) rfl rfl rfl (by decide +kernel) ⟨(by rw [hR]; exact (Nat.le_of_ble_eq_true rfl)), (by rw [hR]; exact (Nat.le_of_ble_eq_true rfl))⟩) (sP_S hP hD hK hN) rfl rfl hl.1 rfl (lv_room (Nat.le_of_ble_eq_true rfl)) dX3_shareAny_176 ⟨(by rw [hR]; exact (Nat.le_of_ble_eq_true rfl)), (by rw [hR]; exact (Nat.le_of_ble_eq_true rfl))⟩) hS hP (fun z176 H locs hz176 hP hS => ?_)
                  have xpz176 := hz176
                  refine lv_land hx hb dX3_shareAny_179 ?_
                  refine lv_topl (fun z179 ez179 => ?_)
                  refine lv_lconst (v := 0) hx hb dX3_shareAny_180 (by decide +kernel) ?_
                  refine W.lcmp hx hb dX3_shareAny_181 ?_
                  refine lv_topi (fun z181 ez181 => ?_)
                  refine lv_if_eq (tgt := 187) hx hb dX3_shareAny_182 (by decide) (fun c182 => ?_) (fun c182 => ?_)
                  · have t182 := tq_eq (k := z181.toInt) (q := (0)) c182 rfl (by decide +kernel)
                    obtain ⟨z187, ez187⟩ : ∃ y : Int32, y = v94_9 + 1 := ⟨_, rfl⟩
                    refine lv_iinc (v := z187) (lv' := [(9, .int z187), (0, .ref p0), (1, .ref p1), (2, .int p2), (3, .int p3), (4, .ref w21_0), (5, .ref w32_0), (6, .int w44_0), (7, .int w56_0), (8, .int z71), (10, .int z107), (11, .long z117)]) hx hb dX3_shareAny_187 hl (k := 9) rfl (by rw [ez187]; rfl) (by decide) rfl (fun ls hl => ?_)
                    have bz187 := tq_add (k := v94_9.toInt) (q := 1) ez187 rfl (by decide +kernel) (by omega) (by omega)
                    refine lv_goto (tgt := 94) hx hb dX3_shareAny_190 (by decide) ?_
                    exact ih94 _ (by omega) z187 _ _ _ rfl ⟨by omega, by omega⟩ (by omega) (by omega) (fun bd m0 m1 => by obtain ⟨ma, mb, -, hr⟩ := SW bd m0 m1; exact nov_step (r := v94_9.toInt.toNat) (k := (v94_9.toInt - w56_0.toInt).toNat) (hnv bd m0 m1) (by omega) (by omega) (by omega) (by omega) (by omega) rfl rfl rfl rfl (h150 bd m0 m1) (fun q => ((row_hi (low := z117) (hi := z173) (b := z161) (xpz176 hr) ez179).mpr (by rw [f161, f117, f173]; exact q)) ((lc0 ez181).mp t182))) hP hS (lv_sub hl [1, 2, 3, 4, 5, 6, 7, 8, 9, 0] rfl)
                  · have t182 := tq_ne (k := z181.toInt) (q := (0)) c182 rfl (by decide +kernel)
                    refine lv_iconst (v := 1) hx hb dX3_shareAny_185 (by decide +kernel) ?_
                    subst hR; subst hQz
                    exact W.zret (v := 1) hx hb hr (by decide +kernel) (fun t ht hW => ⟨⟨1, (), rfl, ⟨⟨by decide +kernel, by decide +kernel⟩, (fun bd m0 m1 => ⟨fun _ => by obtain ⟨ma, mb, ho, hr⟩ := SW bd m0 m1; have q := (row_hi (low := z117) (hi := z173) (b := z161) (xpz176 hr) ez179).mp (fun z => t182 ((lc0 ez181).mpr z)); rw [f161, f117, f173] at q; exact ho.mpr (ov_hi (y := v94_9.toInt) (r := v94_9.toInt.toNat) (k := (v94_9.toInt - w56_0.toInt).toNat) (by omega) (by omega) (by omega) (by omega) rfl rfl rfl rfl q), fun _ => by decide +kernel⟩)⟩, trivial⟩, hS.F ht⟩) hS.2.2 dX3_shareAny_186
                refine lv_icmp_ge (tgt := 150) hx hb dX3_shareAny_124 (by decide) (fun c124 => ?_) (fun c124 => ?_)
                · have t124 := tq_le (k := (64)) (q := w44_0.toInt) c124 (by decide +kernel) rfl
                  exact j150  _ _ _ (fun bd m0 m1 h => absurd h (by omega)) hP hS (lv_sub hl [2, 3, 4, 5, 6, 7, 8, 9, 10, 11, 1, 0] rfl)
                · have t124 := tq_nle (k := (64)) (q := w44_0.toInt) c124 (by decide +kernel) rfl
                  refine lv_aload hx hb dX3_shareAny_127 (lv_at hl 6 rfl) ?_
                  obtain ⟨y129, ey129, hLy129, hKy129, hGy129⟩ := oQ_3_2 (Sv_at hQ hLw21_0 hKw21_0)
                  refine p_get (v := .ref y129) hx hb hts inX3 hown hK hP hLw21_0 hKw21_0 rfl rfl 2 (by decide) (hts _ pq124) (congrArg (fun q => some (va_rf q)) ey129) dX3_shareAny_129 ?_
                  refine lv_iconst (v := 2) hx hb dX3_shareAny_132 (by decide +kernel) ?_
                  refine lv_iload hx hb dX3_shareAny_133 (lv_at hl 11 rfl) ?_
                  refine lv_imul hx hb dX3_shareAny_135 ?_
                  refine lv_topi (fun z135 ez135 => ?_)
                  have bz135 := tq_mul (k := (2)) (q := v94_9.toInt) ez135 (by decide +kernel) rfl (by omega) (by omega)
                  refine p_lald hx hb hK hP 2 hLy129 hKy129 rfl rfl (in_of (by omega) (by omega)) dX3_shareAny_136 ?_
                  refine lv_topl (fun z136 ez136 => ?_)
                  have f136 : z136 = (J (wo Q w21_0)) (2 * v94_9.toInt.toNat) := by rw [ez136, wo_of ey129]; congr 1; show z135.toInt.toNat = _; omega
                  refine lv_lload hx hb dX3_shareAny_137 (lv_at hl 0 rfl) ?_
                  refine lv_iload hx hb dX3_shareAny_139 (lv_at hl 8 rfl) ?_
                  refine lv_lshl hx hb dX3_shareAny_141 rfl ?_
                  refine lv_topl (fun z141 ez141 => ?_)
                  refine lv_land hx hb dX3_shareAny_142 ?_
                  refine lv_topl (fun z142 ez142 => ?_)
                  refine lv_lconst (v := 0) hx hb dX3_shareAny_143 (by decide +kernel) ?_
                  refine W.lcmp hx hb dX3_shareAny_144 ?_
                  refine lv_topi (fun z144 ez144 => ?_)
                  refine lv_if_eq (tgt := 150) hx hb dX3_shareAny_145 (by decide) (fun c145 => ?_) (fun c145 => ?_)
                  · have t145 := tq_eq (k := z144.toInt) (q := (0)) c145 rfl (by decide +kernel)
                    exact j150  _ _ _ (fun bd m0 m1 h q => by obtain ⟨ma, mb, -, hr⟩ := SW bd m0 m1; exact ((row_lo (a := z136) (low := z117) (hi := (J (wo Q w32_0)) (2 * (v94_9.toInt - w56_0.toInt).toNat + 1)) ez141 ez142 hr.1 (by omega)).mpr (by rw [f136, f117]; exact q)) ((lc0 ez144).mp t145)) hP hS (lv_sub hl [2, 3, 4, 5, 6, 7, 8, 9, 10, 11, 1, 0] rfl)
                  · have t145 := tq_ne (k := z144.toInt) (q := (0)) c145 rfl (by decide +kernel)
                    refine lv_iconst (v := 1) hx hb dX3_shareAny_148 (by decide +kernel) ?_
                    subst hR; subst hQz
                    exact W.zret (v := 1) hx hb hr (by decide +kernel) (fun t ht hW => ⟨⟨1, (), rfl, ⟨⟨by decide +kernel, by decide +kernel⟩, (fun bd m0 m1 => ⟨fun _ => by obtain ⟨ma, mb, ho, hr⟩ := SW bd m0 m1; have q := (row_lo (a := z136) (low := z117) (hi := (J (wo Q w32_0)) (2 * (v94_9.toInt - w56_0.toInt).toNat + 1)) ez141 ez142 hr.1 (by omega)).mp (fun z => t145 ((lc0 ez144).mpr z)); rw [f136, f117] at q; exact ho.mpr (ov_lo (y := v94_9.toInt) (r := v94_9.toInt.toNat) (k := (v94_9.toInt - w56_0.toInt).toNat) (by omega) (by omega) (by omega) (by omega) rfl rfl rfl rfl q), fun _ => by decide +kernel⟩)⟩, trivial⟩, hS.F ht⟩) hS.2.2 dX3_shareAny_149)
            exact key94 _ z89 _ _ _ rfl ⟨by omega, by omega⟩ (by omega) (by omega) (fun bd m0 m1 => by obtain ⟨ma, mb, -, -⟩ := SW bd m0 m1; exact nov_0 ma.2 mb.2 (by rw [← ez78, ← ez83]; omega)) hP hS (lv_sub hl [3, 4, 5, 6, 7, 8, 9, 2, 1, 0] rfl)
          refine lv_if_ge (tgt := 55) hx hb dX3_shareAny_47 (by decide) (fun c47 => ?_) (fun c47 => ?_)
          · have t47 := tq_le (k := (0)) (q := p2.toInt) c47 (by decide +kernel) rfl
            refine lv_iload_n hx hb dX3_shareAny_55 rfl (lv_at hl 4 rfl) ?_
            exact j56 p3 _ _ _ ⟨by omega, by omega⟩ (by rw [if_neg (by omega)]) hP hS (lv_sub hl [1, 2, 3, 4, 5, 6, 0] rfl)
          · have t47 := tq_nle (k := (0)) (q := p2.toInt) c47 (by decide +kernel) rfl
            refine lv_iload_n hx hb dX3_shareAny_50 rfl (lv_at hl 4 rfl) ?_
            refine lv_ineg hx hb dX3_shareAny_51 ?_
            refine lv_topi (fun z51 ez51 => ?_)
            have bz51 := tq_neg (k := p3.toInt) ez51 rfl (by omega) (by omega)
            refine lv_goto (tgt := 56) hx hb dX3_shareAny_52 (by decide) ?_
            exact j56 z51 _ _ _ ⟨by omega, by omega⟩ (by rw [if_pos (by omega)]; omega) hP hS (lv_sub hl [1, 2, 3, 4, 5, 6, 0] rfl)
        refine lv_if_ge (tgt := 43) hx hb dX3_shareAny_35 (by decide) (fun c35 => ?_) (fun c35 => ?_)
        · have t35 := tq_le (k := (0)) (q := p2.toInt) c35 (by decide +kernel) rfl
          refine lv_iload_n hx hb dX3_shareAny_43 rfl (lv_at hl 3 rfl) ?_
          exact j44 p2 _ _ _ (fun bd => by rw [if_neg (by omega)]) hP hS (lv_sub hl [1, 2, 3, 4, 5, 0] rfl)
        · have t35 := tq_nle (k := (0)) (q := p2.toInt) c35 (by decide +kernel) rfl
          refine lv_iload_n hx hb dX3_shareAny_38 rfl (lv_at hl 3 rfl) ?_
          refine lv_ineg hx hb dX3_shareAny_39 ?_
          refine lv_topi (fun z39 ez39 => ?_)
          refine lv_goto (tgt := 44) hx hb dX3_shareAny_40 (by decide) ?_
          exact j44 z39 _ _ _ (fun bd => by rw [if_pos (by omega)]; exact tq_neg (k := p2.toInt) ez39 rfl (by omega) (by omega)) hP hS (lv_sub hl [1, 2, 3, 4, 5, 0] rfl)
      refine lv_if_ge (tgt := 31) hx hb dX3_shareAny_24 (by decide) (fun c24 => ?_) (fun c24 => ?_)
      · have t24 := tq_le (k := (0)) (q := p2.toInt) c24 (by decide +kernel) rfl
        refine lv_aload_n hx hb dX3_shareAny_31 rfl (lv_at hl 2 rfl) ?_
        exact j32 p1 _ _ _ hLp1 hKp1 (by intro h; exact (xpz4.1 t7).2 h) ⟨fun h => by first | rfl | (exfalso; omega), fun h => by first | rfl | (exfalso; omega)⟩ hP hS (lv_sub hl [1, 2, 3, 4, 0] rfl)
      · have t24 := tq_nle (k := (0)) (q := p2.toInt) c24 (by decide +kernel) rfl
        refine lv_aload_n hx hb dX3_shareAny_27 rfl (lv_at hl 1 rfl) ?_
        refine lv_goto (tgt := 32) hx hb dX3_shareAny_28 (by decide) ?_
        exact j32 p0 _ _ _ hLp0 hKp0 (by intro h; exact (xpz4.1 t7).1 h) ⟨fun h => by first | rfl | (exfalso; omega), fun h => by first | rfl | (exfalso; omega)⟩ hP hS (lv_sub hl [1, 2, 3, 4, 0] rfl)
    refine lv_if_ge (tgt := 20) hx hb dX3_shareAny_13 (by decide) (fun c13 => ?_) (fun c13 => ?_)
    · have t13 := tq_le (k := (0)) (q := p2.toInt) c13 (by decide +kernel) rfl
      refine lv_aload_n hx hb dX3_shareAny_20 rfl (lv_at hl 0 rfl) ?_
      exact j21 p0 _ _ _ hLp0 hKp0 (by intro h; exact (xpz4.1 t7).1 h) ⟨fun h => by first | rfl | (exfalso; omega), fun h => by first | rfl | (exfalso; omega)⟩ hP hS (lv_sub hl [0, 1, 2, 3] rfl)
    · have t13 := tq_nle (k := (0)) (q := p2.toInt) c13 (by decide +kernel) rfl
      refine lv_aload_n hx hb dX3_shareAny_16 rfl (lv_at hl 1 rfl) ?_
      refine lv_goto (tgt := 21) hx hb dX3_shareAny_17 (by decide) ?_
      exact j21 p1 _ _ _ hLp1 hKp1 (by intro h; exact (xpz4.1 t7).2 h) ⟨fun h => by first | rfl | (exfalso; omega), fun h => by first | rfl | (exfalso; omega)⟩ hP hS (lv_sub hl [0, 1, 2, 3] rfl)
  · have t7 := tq_eq (k := z4.toInt) (q := (0)) c7 rfl (by decide +kernel)
    refine lv_iconst (v := 0) hx hb dX3_shareAny_10 (by decide +kernel) ?_
    subst hR; subst hQz
    exact W.zret (v := 0) hx hb hr (by decide +kernel) (fun t ht hW => ⟨⟨0, (), rfl, ⟨⟨by decide +kernel, by decide +kernel⟩, (fun bd m0 m1 => ⟨fun h => absurd (by decide +kernel) h, fun o => absurd t7 ((xpz4.2 bd).mpr (ovl_box m0.2 m1.2 o))⟩)⟩, trivial⟩, hS.F ht⟩) hS.2.2 dX3_shareAny_11
