abbrev cX6_crop : ByteArray := prog_1_method_14_code
def yX6_crop : MethodName := ⟨RX6, "crop", "(I)I"⟩
theorem dX6_crop_0 : decode cX6_crop 0 = .ok (.aload_n 0, 1) := by decide +kernel
theorem dX6_crop_1 : decode cX6_crop 1 = .ok (.iload_n 1, 1) := by decide +kernel
theorem dX6_crop_2 : decode cX6_crop 2 = .ok (.invokevirtual 130, 3) := by decide +kernel
theorem dX6_crop_5 : decode cX6_crop 5 = .ok (.ifCond .ne 5, 3) := by decide +kernel
theorem dX6_crop_8 : decode cX6_crop 8 = .ok (.iconst (-1), 1) := by decide +kernel
theorem dX6_crop_9 : decode cX6_crop 9 = .ok (.ireturn, 1) := by decide +kernel
theorem dX6_crop_10 : decode cX6_crop 10 = .ok (.aload_n 0, 1) := by decide +kernel
theorem dX6_crop_11 : decode cX6_crop 11 = .ok (.getfield 20, 3) := by decide +kernel
theorem dX6_crop_14 : decode cX6_crop 14 = .ok (.getfield 133, 3) := by decide +kernel
theorem dX6_crop_17 : decode cX6_crop 17 = .ok (.iload_n 1, 1) := by decide +kernel
theorem dX6_crop_18 : decode cX6_crop 18 = .ok (.aaload, 1) := by decide +kernel
theorem dX6_crop_19 : decode cX6_crop 19 = .ok (.astore_n 2, 1) := by decide +kernel
theorem dX6_crop_20 : decode cX6_crop 20 = .ok (.aload_n 0, 1) := by decide +kernel
theorem dX6_crop_21 : decode cX6_crop 21 = .ok (.getfield 48, 3) := by decide +kernel
theorem dX6_crop_24 : decode cX6_crop 24 = .ok (.aload_n 2, 1) := by decide +kernel
theorem dX6_crop_25 : decode cX6_crop 25 = .ok (.invokevirtual 167, 3) := by decide +kernel
theorem dX6_crop_28 : decode cX6_crop 28 = .ok (.aload_n 2, 1) := by decide +kernel
theorem dX6_crop_29 : decode cX6_crop 29 = .ok (.getfield 150, 3) := by decide +kernel
theorem dX6_crop_32 : decode cX6_crop 32 = .ok (.ifCond .eq 31, 3) := by decide +kernel
theorem dX6_crop_35 : decode cX6_crop 35 = .ok (.aload_n 0, 1) := by decide +kernel
theorem dX6_crop_36 : decode cX6_crop 36 = .ok (.getfield 48, 3) := by decide +kernel
theorem dX6_crop_39 : decode cX6_crop 39 = .ok (.getfield 170, 3) := by decide +kernel
theorem dX6_crop_42 : decode cX6_crop 42 = .ok (.aload_n 2, 1) := by decide +kernel
theorem dX6_crop_43 : decode cX6_crop 43 = .ok (.getfield 170, 3) := by decide +kernel
theorem dX6_crop_46 : decode cX6_crop 46 = .ok (.if_icmp .ne 20, 3) := by decide +kernel
theorem dX6_crop_49 : decode cX6_crop 49 = .ok (.aload_n 0, 1) := by decide +kernel
theorem dX6_crop_50 : decode cX6_crop 50 = .ok (.getfield 48, 3) := by decide +kernel
theorem dX6_crop_53 : decode cX6_crop 53 = .ok (.getfield 173, 3) := by decide +kernel
theorem dX6_crop_56 : decode cX6_crop 56 = .ok (.aload_n 2, 1) := by decide +kernel
theorem dX6_crop_57 : decode cX6_crop 57 = .ok (.getfield 173, 3) := by decide +kernel
theorem dX6_crop_60 : decode cX6_crop 60 = .ok (.if_icmp .ne 6, 3) := by decide +kernel
theorem dX6_crop_63 : decode cX6_crop 63 = .ok (.bipush (-2), 2) := by decide +kernel
theorem dX6_crop_65 : decode cX6_crop 65 = .ok (.ireturn, 1) := by decide +kernel
theorem dX6_crop_66 : decode cX6_crop 66 = .ok (.iconst 0, 1) := by decide +kernel
theorem dX6_crop_67 : decode cX6_crop 67 = .ok (.istore_n 3, 1) := by decide +kernel
theorem dX6_crop_68 : decode cX6_crop 68 = .ok (.iload_n 3, 1) := by decide +kernel
theorem dX6_crop_69 : decode cX6_crop 69 = .ok (.aload_n 0, 1) := by decide +kernel
theorem dX6_crop_70 : decode cX6_crop 70 = .ok (.getfield 20, 3) := by decide +kernel
theorem dX6_crop_73 : decode cX6_crop 73 = .ok (.getfield 83, 3) := by decide +kernel
theorem dX6_crop_76 : decode cX6_crop 76 = .ok (.if_icmp .ge 74, 3) := by decide +kernel
theorem dX6_crop_79 : decode cX6_crop 79 = .ok (.aload_n 0, 1) := by decide +kernel
theorem dX6_crop_80 : decode cX6_crop 80 = .ok (.getfield 20, 3) := by decide +kernel
theorem dX6_crop_83 : decode cX6_crop 83 = .ok (.getfield 94, 3) := by decide +kernel
theorem dX6_crop_86 : decode cX6_crop 86 = .ok (.iload_n 3, 1) := by decide +kernel
theorem dX6_crop_87 : decode cX6_crop 87 = .ok (.aaload, 1) := by decide +kernel
theorem dX6_crop_88 : decode cX6_crop 88 = .ok (.astore 4, 2) := by decide +kernel
theorem dX6_crop_90 : decode cX6_crop 90 = .ok (.aload 4, 2) := by decide +kernel
theorem dX6_crop_92 : decode cX6_crop 92 = .ok (.getfield 176, 3) := by decide +kernel
theorem dX6_crop_95 : decode cX6_crop 95 = .ok (.iload_n 1, 1) := by decide +kernel
theorem dX6_crop_96 : decode cX6_crop 96 = .ok (.if_icmp .ne 48, 3) := by decide +kernel
theorem dX6_crop_99 : decode cX6_crop 99 = .ok (.aload 4, 2) := by decide +kernel
theorem dX6_crop_101 : decode cX6_crop 101 = .ok (.getfield 98, 3) := by decide +kernel
theorem dX6_crop_104 : decode cX6_crop 104 = .ok (.aload_n 2, 1) := by decide +kernel
theorem dX6_crop_105 : decode cX6_crop 105 = .ok (.aload 4, 2) := by decide +kernel
theorem dX6_crop_107 : decode cX6_crop 107 = .ok (.getfield 112, 3) := by decide +kernel
theorem dX6_crop_110 : decode cX6_crop 110 = .ok (.invokestatic 179, 3) := by decide +kernel
theorem dX6_crop_113 : decode cX6_crop 113 = .ok (.iadd, 1) := by decide +kernel
theorem dX6_crop_114 : decode cX6_crop 114 = .ok (.sipush 999, 3) := by decide +kernel
theorem dX6_crop_117 : decode cX6_crop 117 = .ok (.if_icmp .gt 24, 3) := by decide +kernel
theorem dX6_crop_120 : decode cX6_crop 120 = .ok (.aload 4, 2) := by decide +kernel
theorem dX6_crop_122 : decode cX6_crop 122 = .ok (.getfield 103, 3) := by decide +kernel
theorem dX6_crop_125 : decode cX6_crop 125 = .ok (.aload_n 2, 1) := by decide +kernel
theorem dX6_crop_126 : decode cX6_crop 126 = .ok (.aload 4, 2) := by decide +kernel
theorem dX6_crop_128 : decode cX6_crop 128 = .ok (.getfield 112, 3) := by decide +kernel
theorem dX6_crop_131 : decode cX6_crop 131 = .ok (.invokestatic 183, 3) := by decide +kernel
theorem dX6_crop_134 : decode cX6_crop 134 = .ok (.iadd, 1) := by decide +kernel
theorem dX6_crop_135 : decode cX6_crop 135 = .ok (.sipush 999, 3) := by decide +kernel
theorem dX6_crop_138 : decode cX6_crop 138 = .ok (.if_icmp .le 6, 3) := by decide +kernel
theorem dX6_crop_141 : decode cX6_crop 141 = .ok (.bipush (-3), 2) := by decide +kernel
theorem dX6_crop_143 : decode cX6_crop 143 = .ok (.ireturn, 1) := by decide +kernel
theorem dX6_crop_144 : decode cX6_crop 144 = .ok (.iinc 3 1, 3) := by decide +kernel
theorem dX6_crop_147 : decode cX6_crop 147 = .ok (.goto (-79), 3) := by decide +kernel
theorem dX6_crop_150 : decode cX6_crop 150 = .ok (.aload_n 0, 1) := by decide +kernel
theorem dX6_crop_151 : decode cX6_crop 151 = .ok (.invokevirtual 106, 3) := by decide +kernel
theorem dX6_crop_154 : decode cX6_crop 154 = .ok (.iconst 0, 1) := by decide +kernel
theorem dX6_crop_155 : decode cX6_crop 155 = .ok (.istore_n 3, 1) := by decide +kernel
theorem dX6_crop_156 : decode cX6_crop 156 = .ok (.iload_n 3, 1) := by decide +kernel
theorem dX6_crop_157 : decode cX6_crop 157 = .ok (.aload_n 0, 1) := by decide +kernel
theorem dX6_crop_158 : decode cX6_crop 158 = .ok (.getfield 20, 3) := by decide +kernel
theorem dX6_crop_161 : decode cX6_crop 161 = .ok (.getfield 83, 3) := by decide +kernel
theorem dX6_crop_164 : decode cX6_crop 164 = .ok (.if_icmp .ge 67, 3) := by decide +kernel
theorem dX6_crop_167 : decode cX6_crop 167 = .ok (.aload_n 0, 1) := by decide +kernel
theorem dX6_crop_168 : decode cX6_crop 168 = .ok (.getfield 20, 3) := by decide +kernel
theorem dX6_crop_171 : decode cX6_crop 171 = .ok (.getfield 94, 3) := by decide +kernel
theorem dX6_crop_174 : decode cX6_crop 174 = .ok (.iload_n 3, 1) := by decide +kernel
theorem dX6_crop_175 : decode cX6_crop 175 = .ok (.aaload, 1) := by decide +kernel
theorem dX6_crop_176 : decode cX6_crop 176 = .ok (.astore 4, 2) := by decide +kernel
theorem dX6_crop_178 : decode cX6_crop 178 = .ok (.aload 4, 2) := by decide +kernel
theorem dX6_crop_180 : decode cX6_crop 180 = .ok (.getfield 176, 3) := by decide +kernel
theorem dX6_crop_183 : decode cX6_crop 183 = .ok (.iload_n 1, 1) := by decide +kernel
theorem dX6_crop_184 : decode cX6_crop 184 = .ok (.if_icmp .ne 41, 3) := by decide +kernel
theorem dX6_crop_187 : decode cX6_crop 187 = .ok (.aload 4, 2) := by decide +kernel
theorem dX6_crop_189 : decode cX6_crop 189 = .ok (.dup, 1) := by decide +kernel
theorem dX6_crop_190 : decode cX6_crop 190 = .ok (.getfield 98, 3) := by decide +kernel
theorem dX6_crop_193 : decode cX6_crop 193 = .ok (.aload_n 2, 1) := by decide +kernel
theorem dX6_crop_194 : decode cX6_crop 194 = .ok (.aload 4, 2) := by decide +kernel
theorem dX6_crop_196 : decode cX6_crop 196 = .ok (.getfield 112, 3) := by decide +kernel
theorem dX6_crop_199 : decode cX6_crop 199 = .ok (.invokestatic 179, 3) := by decide +kernel
theorem dX6_crop_202 : decode cX6_crop 202 = .ok (.iadd, 1) := by decide +kernel
theorem dX6_crop_203 : decode cX6_crop 203 = .ok (.putfield 98, 3) := by decide +kernel
theorem dX6_crop_206 : decode cX6_crop 206 = .ok (.aload 4, 2) := by decide +kernel
theorem dX6_crop_208 : decode cX6_crop 208 = .ok (.dup, 1) := by decide +kernel
theorem dX6_crop_209 : decode cX6_crop 209 = .ok (.getfield 103, 3) := by decide +kernel
theorem dX6_crop_212 : decode cX6_crop 212 = .ok (.aload_n 2, 1) := by decide +kernel
theorem dX6_crop_213 : decode cX6_crop 213 = .ok (.aload 4, 2) := by decide +kernel
theorem dX6_crop_215 : decode cX6_crop 215 = .ok (.getfield 112, 3) := by decide +kernel
theorem dX6_crop_218 : decode cX6_crop 218 = .ok (.invokestatic 183, 3) := by decide +kernel
theorem dX6_crop_221 : decode cX6_crop 221 = .ok (.iadd, 1) := by decide +kernel
theorem dX6_crop_222 : decode cX6_crop 222 = .ok (.putfield 103, 3) := by decide +kernel
theorem dX6_crop_225 : decode cX6_crop 225 = .ok (.iinc 3 1, 3) := by decide +kernel
theorem dX6_crop_228 : decode cX6_crop 228 = .ok (.goto (-72), 3) := by decide +kernel
theorem dX6_crop_231 : decode cX6_crop 231 = .ok (.aload_n 2, 1) := by decide +kernel
theorem dX6_crop_232 : decode cX6_crop 232 = .ok (.aload_n 0, 1) := by decide +kernel
theorem dX6_crop_233 : decode cX6_crop 233 = .ok (.getfield 48, 3) := by decide +kernel
theorem dX6_crop_236 : decode cX6_crop 236 = .ok (.invokevirtual 186, 3) := by decide +kernel
theorem dX6_crop_239 : decode cX6_crop 239 = .ok (.aload_n 0, 1) := by decide +kernel
theorem dX6_crop_240 : decode cX6_crop 240 = .ok (.getfield 41, 3) := by decide +kernel
theorem dX6_crop_243 : decode cX6_crop 243 = .ok (.invokevirtual 115, 3) := by decide +kernel
theorem dX6_crop_246 : decode cX6_crop 246 = .ok (.aload_n 2, 1) := by decide +kernel
theorem dX6_crop_247 : decode cX6_crop 247 = .ok (.getfield 170, 3) := by decide +kernel
theorem dX6_crop_250 : decode cX6_crop 250 = .ok (.aload_n 2, 1) := by decide +kernel
theorem dX6_crop_251 : decode cX6_crop 251 = .ok (.getfield 173, 3) := by decide +kernel
theorem dX6_crop_254 : decode cX6_crop 254 = .ok (.imul, 1) := by decide +kernel
theorem dX6_crop_255 : decode cX6_crop 255 = .ok (.ireturn, 1) := by decide +kernel
set_option maxRecDepth 100000 in
theorem pq171 : Cond.fieldLink RX6 176 "MaskTouch$Body" "mask" "I" ∈ pw := pw_mem (i := 171) (by decide +kernel) rfl
set_option maxRecDepth 100000 in
theorem pq715 : Cond.methodLink RX6 167 yX3_becomeCropped ∈ pw := pw_mem (i := 715) (by decide +kernel) rfl
set_option maxRecDepth 100000 in
theorem pq716 : Cond.instanceMethod yX3_becomeCropped ∈ pw := pw_mem (i := 716) (by decide +kernel) rfl
set_option maxRecDepth 100000 in
theorem pq717 : Cond.selects RX3 yX3_becomeCropped yX3_becomeCropped ∈ pw := pw_mem (i := 717) (by decide +kernel) rfl
set_option maxRecDepth 100000 in
theorem pq718 : Cond.code yX3_becomeCropped cX3_becomeCropped 4 none ∈ pw := pw_mem (i := 718) (by rfl) rfl
set_option maxRecDepth 100000 in
theorem pq719 : Cond.methodLink RX6 179 yX6_cutLeft ∈ pw := pw_mem (i := 719) (by decide +kernel) rfl
set_option maxRecDepth 100000 in
theorem pq720 : Cond.static yX6_cutLeft ∈ pw := pw_mem (i := 720) (by decide +kernel) rfl
set_option maxRecDepth 100000 in
theorem pq721 : Cond.code yX6_cutLeft cX6_cutLeft 2 (some .int) ∈ pw := pw_mem (i := 721) (by rfl) rfl
set_option maxRecDepth 100000 in
theorem pq722 : Cond.methodLink RX6 183 yX6_cutAbove ∈ pw := pw_mem (i := 722) (by decide +kernel) rfl
set_option maxRecDepth 100000 in
theorem pq723 : Cond.static yX6_cutAbove ∈ pw := pw_mem (i := 723) (by decide +kernel) rfl
set_option maxRecDepth 100000 in
theorem pq724 : Cond.code yX6_cutAbove cX6_cutAbove 2 (some .int) ∈ pw := pw_mem (i := 724) (by rfl) rfl
set_option maxHeartbeats 4000000 in
set_option maxRecDepth 100000 in
theorem s_X6_crop (l : Launch) (dC : Nat → ClassId) (dI : Nat → Nat → Nat) (cs : Nat → ClassId) (L0 : List Nat) (K0 G0 : Nat → Nat) (Q0 : Nat → Nat → Option Nat) (hQ : Sv L0 K0 G0 Q0) (x0 m0 : Nat) (tx : GT) (tm : GT × Int) (hx0 : x0 ∈ L0) (hm0 : m0 ∈ L0) (sz : Nat) (I : Nat → Nat → Int32) (J : Nat → Nat → Int64) (hI : Iv L0 K0 x0 m0 tx tm I) (p0 : Nat) (hLp0 : p0 ∈ L0) (hKp0 : K0 p0 = 6) (p1 : Int32) (hIo : Iv L0 K0 x0 m0 tx (tm.1, tm.2 - 5000) I) : Met l yX6_crop (.code yX6_crop cX6_crop 5 (some .int) :: pw) ({ frames := 5, cells := 29, slots := 807, locals := 131 }) (sP (dC, dI) cs [.ref p0, .int p1] sz L0 K0 I J Q0) (va_Qi (fun (r : Int32) (_ : Unit) => (∀ σ : Sx, cxA Q0 I J p0 σ → r.toInt = (crA σ p1).1)) (fun _ t => sA (dC, dI) cs L0 K0 G0 Q0 x0 m0 tx tm sz (fun L K G Q I1 J1 => (∀ σ : Sx, cxA Q0 I J p0 σ → cxA Q I1 J1 p0 (crA σ p1).2) ∧ (∀ b, b ∈ L0 → (K0 b = 7 ∨ K0 b = 18 ∨ K0 b = 19 ∨ K0 b = 20 ∨ K0 b = 24) → I1 b = I b) ∧ (∀ b, b ∈ L0 → ¬ (K0 b = 12) → J1 b = J b)) t) (fun q => q ∈ L0 ∨ sz ≤ q)) 29 807 (fun q => q ∈ L0 ∨ sz ≤ q) := by
  refine Met.ofW (cc := cX6_crop) (maxL := 5) (ret := (some .int)) (by decide +kernel) rfl ?_
  intro p e s m args below meth c s₁ B hml hv
  obtain ⟨rfl, hsz, hP, hK, hD0, hN⟩ := hv
  have hx := B.exec
  have hb := B.bytes
  have hr := B.returns
  have hts := fun w (h : w ∈ pw) => atoms_spec (ws := Cond.code yX6_crop cX6_crop 5 (some .int) :: pw) B.pre w (List.mem_cons_of_mem _ h)
  have hown : s.vm.findClass RX6 = some m.cls := findClass_of_methodNamed B.named
  have hlocks := B.notSynchronized
  subst hsz
  have hBB : 999 ≤ tm.2 ∧ tm.2 ≤ 6000000 := hI.2.2.2.2.1
  have dn_I : (∀ b, b ∈ L0 → (K0 b = 7 ∨ K0 b = 18 ∨ K0 b = 19 ∨ K0 b = 20 ∨ K0 b = 24) → I b = I b) := fun _ _ _ => rfl
  have dj_J : (∀ b, b ∈ L0 → ¬ (K0 b = 12) → J b = J b) := fun _ _ _ => rfl
  obtain ⟨A, hAe⟩ : ∃ A : Nat → Prop, A = (fun q => q ∈ L0 ∨ s.heap.size ≤ q) := ⟨_, rfl⟩
  rw [← hAe]
  have hAL : ∀ q, q ∈ L0 → A q := fun q h => by rw [hAe]; exact Or.inl h
  have hA : ∀ q, s.heap.size ≤ q → A q := fun q h => by rw [hAe]; exact Or.inr h
  have hD : ∀ F, va_D A (va_pl L0 F) := fun F => (hD0 F).weaken (fun k q hk _ => hAL _ (pl_mem hk))
  obtain ⟨H, hHe⟩ : ∃ H : Heap, H = s.heap := ⟨_, rfl⟩
  have hS : va_S A s.heap H [] := by rw [hHe]; exact va_S.rf
  rw [← hHe] at hP
  have hl := lv_entry ([.ref p0, .int p1]) (n := 5) (Nat.le_of_ble_eq_true rfl)
  rw [lg_entry_eq]
  generalize (lg_sl ([.ref p0, .int p1]) ++ List.replicate (5 - (lg_sl ([.ref p0, .int p1])).length) Slot.unset).toArray = ls at hl ⊢
  have hl : lv_has ls 5 [(0, .ref p0), (1, .int p1)] := hl
  rw [← hHe]
  refine namedW (fun R Qz hR hQz => ?_)
  have hAe2 : ∀ q, A q → q ∈ L0 ∨ H.size ≤ q := fun q h => by rw [hHe]; rw [hAe] at h; exact h
  have hQ0 := hQ
  have hK0p0 := hKp0
  have hL0p0 := hLp0
  obtain ⟨L, K, G, Q, hX, hQ, hI, hP, hD, hAL, hx0, hm0, hLp0, hKp0, rx0⟩ : ∃ L K G Q, extW L0 K0 G0 Q0 L K G Q ∧ Sv L K G Q ∧ Iv L K x0 m0 tx tm I ∧ va_P (dC, dI) vwCl (Wd cs L K I J Q) H ∧ (∀ F, va_D A (va_pl L F)) ∧ (∀ q, q ∈ L → A q) ∧ x0 ∈ L ∧ m0 ∈ L ∧ p0 ∈ L ∧ K p0 = 6 ∧ (∀ σ : Sx, cxA Q0 I J p0 σ → cxA Q I J p0 σ) := ⟨L0, K0, G0, Q0, extW_refl, hQ, hI, hP, hD, hAL, hx0, hm0, hLp0, hKp0, fun _ h => h⟩
  have cr0 := crB_al hQ0 hX (fun _ _ _ _ => rfl) hL0p0 hK0p0 (crB_init hQ0 hIo hL0p0 hK0p0)
  have nn0 := hIo.2.2.2.2.1
  refine lv_aload_n hx hb dX6_crop_0 rfl (lv_at hl 0 rfl) ?_
  refine lv_iload_n hx hb dX6_crop_1 rfl (lv_at hl 1 rfl) ?_
  refine ro_i (va_runV (As := [.int p1]) (rest := []) ⟨hx, hb, hml, hown, hts⟩ (s_X6_isMask l dC dI cs L K G Q hQ x0 m0 tx tm H.size I J hI p0 hLp0 hKp0 p1) (cwV 1 hts (gV pq666 pq668 pq4 pq74 pq669) rfl rfl rfl (by decide +kernel) ⟨(by rw [hR]; exact (Nat.le_of_ble_eq_true rfl)), (by rw [hR]; exact (Nat.le_of_ble_eq_true rfl))⟩) (sP_V hP hD hK hN hLp0 hKp0 rfl rfl) rfl rfl hl.1 rfl (lv_room (Nat.le_of_ble_eq_true rfl)) dX6_crop_2 ⟨(by rw [hR]; exact (Nat.le_of_ble_eq_true rfl)), (by rw [hR]; exact (Nat.le_of_ble_eq_true rfl))⟩) hS hP (fun z2 H locs hz2 hP hS => ?_)
  obtain ⟨bz2, imz2, xpz2⟩ := hz2
  refine lv_if_ne (tgt := 10) hx hb dX6_crop_5 (by decide) (fun c5 => ?_) (fun c5 => ?_)
  · have t5 := tq_ne (k := z2.toInt) (q := (0)) c5 rfl (by decide +kernel)
    have i5 := imz2 t5
    refine lv_aload_n hx hb dX6_crop_10 rfl (lv_at hl 0 rfl) ?_
    obtain ⟨y11, ey11, hLy11, hKy11, hGy11⟩ := oQ_6_2 (Sv_at hQ hLp0 hKp0)
    refine p_get (v := .ref y11) hx hb hts inX6 hown hK hP hLp0 hKp0 rfl rfl 2 (by decide) (hts _ pq351) (congrArg (fun q => some (va_rf q)) ey11) dX6_crop_11 ?_
    obtain ⟨y14, ey14, hLy14, hKy14, hGy14⟩ := oQ_1_0 (Sv_at hQ hLy11 hKy11)
    refine p_get (v := .ref y14) hx hb hts inX1 hown hK hP hLy11 hKy11 rfl rfl 0 (by decide) (hts _ pq216) (congrArg (fun q => some (va_rf q)) ey14) dX6_crop_14 ?_
    refine lv_iload_n hx hb dX6_crop_17 rfl (lv_at hl 1 rfl) ?_
    obtain ⟨y18, ey18, hLy18, hKy18, hGy18⟩ := (Sv_at hQ hLy14 hKy14).1 p1.toNatClampNeg (clamp_lt (n := 8) (in_of (by omega) (by omega)))
    have hjy18 : p1.toNatClampNeg < 8 := clamp_lt (i := p1) (n := 8) (in_of (by omega) (by omega))
    refine p_aaldR hx hb hK hP 3 hLy14 hKy14 rfl rfl (in_of (by omega) (by omega)) ey18 dX6_crop_18 ?_
    refine lv_astore_n (lv' := [(2, .ref y18), (0, .ref p0), (1, .int p1)]) hx hb dX6_crop_19 rfl hl (by decide) rfl (fun ls hl => ?_)
    refine lv_aload_n hx hb dX6_crop_20 rfl (lv_at hl 1 rfl) ?_
    obtain ⟨y21, ey21, hLy21, hKy21, hGy21⟩ := oQ_6_6 (Sv_at hQ hLp0 hKp0)
    refine p_get (v := .ref y21) hx hb hts inX6 hown hK hP hLp0 hKp0 rfl rfl 6 (by decide) (hts _ pq355) (congrArg (fun q => some (va_rf q)) ey21) dX6_crop_21 ?_
    refine lv_aload_n hx hb dX6_crop_24 rfl (lv_at hl 0 rfl) ?_
    refine sw_v (Z := (fun I1 J1 => Iv L K x0 m0 tx tm I1 ∧ (∀ b, ¬ (b = y21) → I1 b = I b) ∧ (okm (I y18 0).toInt (I y18 1).toInt (J (wo Q y18)) → msr (J (wo Q y18)) (I y18 3).toInt (I y18 4).toInt (I y18 5).toInt (I y18 6).toInt (I y18 7).toInt → ((I y18 3).toInt = 0 → mkd Q I1 J1 y21 (I y18 0) (I y18 1) (md (J (wo Q y18)))) ∧ (¬ (I y18 3).toInt = 0 → (I1 y21 0).toInt = (I y18 6).toInt - (I y18 4).toInt + 1 ∧ (I1 y21 1).toInt = (I y18 7).toInt - (I y18 5).toInt + 1 ∧ mkd Q I1 J1 y21 (I1 y21 0) (I1 y21 1) (cropD (I y18 4).toInt (I y18 5).toInt (I y18 6).toInt (I y18 7).toInt (J (wo Q y18))))) ∧ (∀ b, ¬ (K b = 12 ∧ (G b = G y21)) → J1 b = J b))) (va_runV (As := [.ref y18]) (rest := []) ⟨hx, hb, hml, hown, hts⟩ (s_X3_becomeCropped l dC dI cs L K G Q hQ x0 m0 tx tm H.size I J hI y21 hLy21 hKy21 y18 hLy18 hKy18 (by omega)) (cwV 1 hts (gV pq715 pq716 pq717 pq76 pq718) rfl rfl rfl (by decide +kernel) ⟨(by rw [hR]; exact (Nat.le_of_ble_eq_true rfl)), (by rw [hR]; exact (Nat.le_of_ble_eq_true rfl))⟩) (sP_V hP hD hK hN hLy21 hKy21 rfl rfl) rfl rfl hl.1 rfl (lv_room (Nat.le_of_ble_eq_true rfl)) dX6_crop_25 ⟨(by rw [hR]; exact (Nat.le_of_ble_eq_true rfl)), (by rw [hR]; exact (Nat.le_of_ble_eq_true rfl))⟩) hS hAL hA (fun Iz25 Jz25 H locs hz25 hIz25 hP hS => ?_)
    obtain ⟨hIz25, frc25, jz25, djc25⟩ := hIz25
    have dj_Jz25 : (∀ b, b ∈ L0 → ¬ (K0 b = 12) → Jz25 b = J b) := fun b hb hc => (djc25 b (fun z => hc (by have w1 := (hX b hb).2.1; have w2 := (hX b hb).2.2.1; rw [w1] at z; exact z.1))).trans (dj_J b hb hc)
    have dn_Iz25 : (∀ b, b ∈ L0 → (K0 b = 7 ∨ K0 b = 18 ∨ K0 b = 19 ∨ K0 b = 20 ∨ K0 b = 24) → Iz25 b = I b) := fun b hb hc => (frc25 b (fun z => by have w := (hX b hb).2.1; have q := hKy21; rw [← z] at q; omega)).trans (dn_I b hb hc)
    have cr25 := crB_fr hQ hLp0 hKp0 (fun b hb => frc25 b (fun z => by rw [z, hKy21] at hb; exact absurd hb (by decide))) cr0
    refine lv_aload_n hx hb dX6_crop_28 rfl (lv_at hl 0 rfl) ?_
    refine p_get hx hb hts inX3 hown hK hP hLy18 hKy18 rfl rfl 3 (by decide) (hts _ pq132) rfl dX6_crop_29 ?_
    refine lv_topi (fun z29 ez29 => ?_)
    have ea : fm Q (an Q p0) p1.toInt.toNat = y18 := by rw [show an Q p0 = y11 from gd_of ey11]; exact fm_of ey14 ey18
    have esk : sk_ Q p0 = y21 := gd_of ey21
    have ey18i : Iz25 y18 = I y18 := frc25 y18 (fun z => by have := hGy18; have := hGy21; have := hGy11; rw [z] at *; omega)
    have rs : ∀ σ : Sx, cxA Q0 I J p0 σ → mK σ p1 ∧ cxA Q Iz25 Jz25 p0 σ ∧ z29.toInt = (totr (mF σ p1) 40 : Int) ∧ (Iz25 y18 0 = mW σ p1 ∧ Iz25 y18 1 = mH σ p1) ∧ (¬ z29.toInt = 0 → crE σ p1 = ((Iz25 y18 4).toInt, (Iz25 y18 5).toInt, (Iz25 y18 6).toInt, (Iz25 y18 7).toInt) ∧ crI σ p1 ∧ Iz25 y21 0 = crW σ p1 ∧ Iz25 y21 1 = crH σ p1 ∧ cxM Q Iz25 Jz25 y21 (crW σ p1) (crH σ p1) (crF σ p1)) := fun σ h => by have A0 := rx0 σ h; have ec := A0.1.1.2.1; have hm : mK σ p1 := (by have q := xpz2.1 t5; rw [ec] at q; exact q); have c := cxA_m A0 hm; have e2 := c.1.2.2.2.1; have w0 := c.1.1; have w1 := c.1.2.1; rw [ea] at e2 w0 w1; rw [← ey18i] at e2 w0 w1; rw [← ez29] at e2; exact ⟨hm, cxA_sk hQ hLp0 hKp0 hKy21 (by omega) frc25 djc25 A0, e2, ⟨w0, w1⟩, fun hn => (by rw [ey18i]; exact cr_fin A0 hm ea (by rw [← ey18i, ← ez29]; exact hn) jz25)⟩
    refine lv_if_eq (tgt := 63) hx hb dX6_crop_32 (by decide) (fun c32 => ?_) (fun c32 => ?_)
    · have t32 := tq_eq (k := z29.toInt) (q := (0)) c32 rfl (by decide +kernel)
      refine lv_bipush (v := (-2)) hx hb dX6_crop_63 (by decide +kernel) ?_
      subst hR; subst hQz
      refine W.widen (k := 29) (n := 807) (Nat.le_of_ble_eq_true rfl) (Nat.le_of_ble_eq_true rfl) ?_
      exact W.iret (v := (-2)) hx hb hr (fun t ht hW => ⟨⟨(-2), (), rfl, (fun σ h => by rw [cr_e (rs σ h).1 (by obtain ⟨hm, A1, e2, w, rr⟩ := rs σ h; first | (exact Or.inl (by rw [← e2]; exact t32)) | (obtain ⟨eE, ci, w0, w1, -⟩ := rr t32; refine Or.inr ⟨?_, ?_⟩; (rw [← ci.2.1, ← w0, ← w.1, ← ez39, ← ez43]; exact t46); (rw [← ci.2.2.1, ← w1, ← w.2, ← ez53, ← ez57]; exact t60)))]; show (-2 : Int32).toInt = -2; decide +kernel), ⟨L, K, G, Q, Iz25, Jz25, hX, hQ, hIz25, fun F => (hD F).weaken (fun _ _ _ _ => trivial), fun q h => hAe2 q (hAL q h), by rw [ht]; exact hP, ⟨(fun σ h => by rw [cr_e (rs σ h).1 (by obtain ⟨hm, A1, e2, w, rr⟩ := rs σ h; first | (exact Or.inl (by rw [← e2]; exact t32)) | (obtain ⟨eE, ci, w0, w1, -⟩ := rr t32; refine Or.inr ⟨?_, ?_⟩; (rw [← ci.2.1, ← w0, ← w.1, ← ez39, ← ez43]; exact t46); (rw [← ci.2.2.1, ← w1, ← w.2, ← ez53, ← ez57]; exact t60)))]; exact (rs σ h).2.1), dn_Iz25, dj_Jz25⟩⟩⟩, hS.F ht⟩) hS.2.2 dX6_crop_65
    · have t32 := tq_ne (k := z29.toInt) (q := (0)) c32 rfl (by decide +kernel)
      refine lv_aload_n hx hb dX6_crop_35 rfl (lv_at hl 1 rfl) ?_
      refine p_get (v := .ref y21) hx hb hts inX6 hown hK hP hLp0 hKp0 rfl rfl 6 (by decide) (hts _ pq355) (congrArg (fun q => some (va_rf q)) ey21) dX6_crop_36 ?_
      refine p_get hx hb hts inX3 hown hK hP hLy21 hKy21 rfl rfl 0 (by decide) (hts _ pq119) rfl dX6_crop_39 ?_
      refine lv_topi (fun z39 ez39 => ?_)
      have bz39 := oI_3_0 (Iv_at hIz25 hLy21 hKy21)
      rw [← ez39] at bz39
      refine lv_aload_n hx hb dX6_crop_42 rfl (lv_at hl 0 rfl) ?_
      refine p_get hx hb hts inX3 hown hK hP hLy18 hKy18 rfl rfl 0 (by decide) (hts _ pq119) rfl dX6_crop_43 ?_
      refine lv_topi (fun z43 ez43 => ?_)
      have bz43 := oI_3_0 (Iv_at hIz25 hLy18 hKy18)
      rw [← ez43] at bz43
      have j66 : ∀ (H : Heap) (lo : List Loc) (ls : Array Slot), (∀ σ : Sx, cxA Q0 I J p0 σ → ¬ crN σ p1) → va_P (dC, dI) vwCl (Wd cs L K Iz25 Jz25 Q) H → va_S A s.heap H lo → lv_has ls 5 [(0, .ref p0), (1, .int p1), (2, .ref y18)] → W p l e R s m (([.ref p0, .int p1] : List Value).toArray) below meth c H lo 0 0 Qz (F0 m 66 ls []) := by
        intro H lo ls hne hP hS hl
        refine lv_iconst (v := 0) hx hb dX6_crop_66 (by decide +kernel) ?_
        refine lv_istore_n (lv' := [(3, .int 0), (0, .ref p0), (1, .int p1), (2, .ref y18)]) hx hb dX6_crop_67 rfl hl (by decide) rfl (fun ls hl => ?_)
        have key68 := blocks (fun n => ∀ (v68_3 : Int32) (H : Heap) (lo : List Loc) (ls : Array Slot), (11 - v68_3.toInt).toNat = n → ((0) ≤ v68_3.toInt ∧ v68_3.toInt ≤ 10) → (∀ σ : Sx, cxA Q0 I J p0 σ → ∀ j : Nat, j < v68_3.toInt.toNat → crSt σ p1 j → ¬ crFar σ p1 j) → va_P (dC, dI) vwCl (Wd cs L K Iz25 Jz25 Q) H → va_S A s.heap H lo → lv_has ls 5 [(0, .ref p0), (1, .int p1), (2, .ref y18), (3, .int v68_3)] → W p l e R s m (([.ref p0, .int p1] : List Value).toArray) below meth c H lo 0 0 Qz (F0 m 68 ls [])) (by
          intro n ih68
          intro v68_3 H lo ls hmu68 bv68_3 hc68 hP hS hl
          refine lv_iload_n hx hb dX6_crop_68 rfl (lv_at hl 3 rfl) ?_
          refine lv_aload_n hx hb dX6_crop_69 rfl (lv_at hl 0 rfl) ?_
          refine p_get (v := .ref y11) hx hb hts inX6 hown hK hP hLp0 hKp0 rfl rfl 2 (by decide) (hts _ pq351) (congrArg (fun q => some (va_rf q)) ey11) dX6_crop_70 ?_
          refine p_get hx hb hts inX1 hown hK hP hLy11 hKy11 rfl rfl 3 (by decide) (hts _ pq226) rfl dX6_crop_73 ?_
          refine lv_topi (fun z73 ez73 => ?_)
          have cgz73 := congrArg Int32.toInt ez73
          have bz73 := oI_1_3 (Iv_at hIz25 hLy11 hKy11)
          rw [← ez73] at bz73
          refine lv_icmp_ge (tgt := 150) hx hb dX6_crop_76 (by decide) (fun c76 => ?_) (fun c76 => ?_)
          · have t76 := tq_le (k := z73.toInt) (q := v68_3.toInt) c76 rfl rfl
            have hnf : ∀ σ : Sx, cxA Q0 I J p0 σ → ¬ ∃ j : Nat, j < (σ.1.1 1).toInt.toNat ∧ crSt σ p1 j ∧ crFar σ p1 j := fun σ h => by obtain ⟨hm, A1, e2, w, rr⟩ := rs σ h; obtain ⟨eE, ci, -⟩ := rr t32; have ec := A1.1.1.2.2.1; rw [show an Q p0 = y11 from gd_of ey11, ← ez73] at ec; rintro ⟨j, hj, hs, hf⟩; exact hc68 σ h j (by rw [← ec] at hj; omega) hs hf
            have rs0 : ∀ σ : Sx, cxA Q0 I J p0 σ → mK σ p1 ∧ True := fun σ h => ⟨(rs σ h).1, trivial⟩
            have hci : ∀ σ : Sx, cxA Q0 I J p0 σ → crI σ p1 := fun σ h => ((rs σ h).2.2.2.2 t32).2.1
            have hcE : ∀ σ : Sx, cxA Q0 I J p0 σ → crE σ p1 = ((Iz25 y18 4).toInt, (Iz25 y18 5).toInt, (Iz25 y18 6).toInt, (Iz25 y18 7).toInt) := fun σ h => ((rs σ h).2.2.2.2 t32).1
            have hcw : ∀ σ : Sx, cxA Q0 I J p0 σ → Iz25 y18 0 = mW σ p1 ∧ Iz25 y18 1 = mH σ p1 := fun σ h => (rs σ h).2.2.2.1
            refine lv_aload_n hx hb dX6_crop_150 rfl (lv_at hl 0 rfl) ?_
            refine sa_v (va_runV (As := []) (rest := []) ⟨hx, hb, hml, hown, hts⟩ (s_X6_remember l dC dI cs L K G Q hQ x0 m0 tx tm hx0 hm0 H.size Iz25 Jz25 hIz25 p0 hLp0 hKp0) (cwV 0 hts (gV pq643 pq645 pq3 pq74 pq646) rfl rfl rfl (by decide +kernel) ⟨(by rw [hR]; exact (Nat.le_of_ble_eq_true rfl)), (by rw [hR]; exact (Nat.le_of_ble_eq_true rfl))⟩) (sP_V hP hD hK hN hLp0 hKp0 rfl rfl) rfl rfl hl.1 rfl (lv_room (Nat.le_of_ble_eq_true rfl)) dX6_crop_151 ⟨(by rw [hR]; exact (Nat.le_of_ble_eq_true rfl)), (by rw [hR]; exact (Nat.le_of_ble_eq_true rfl))⟩) hS hAL hA (fun L K G Q Iz151 Jz151 H locs hz151 hE hQn hIz151 hDn hALn hP zp151 hS => ?_)
            obtain ⟨zp151, rz151, dnc151, djc151⟩ := zp151
            have dn_Iz151 : (∀ b, b ∈ L0 → (K0 b = 7 ∨ K0 b = 18 ∨ K0 b = 19 ∨ K0 b = 20 ∨ K0 b = 24) → Iz151 b = I b) := fun b hb hc => (dnc151 b (hX b hb).1 (by have w := (hX b hb).2.1; omega)).trans (dn_Iz25 b hb hc)
            have dj_Jz151 : (∀ b, b ∈ L0 → ¬ (K0 b = 12) → Jz151 b = J b) := fun b hb hc => (djc151 b (hX b hb).1 (fun z => hc (by have w1 := (hX b hb).2.1; have w2 := (hX b hb).2.2.1; rw [w1] at z; first | exact z | exact z.1))).trans (dj_Jz25 b hb hc)
            have cr151 := crB_al hQ hE zp151 hLp0 hKp0 cr25
            have e151 : Iz151 y18 = Iz25 y18 := zp151 y18 hLy18 (by have := hGy18; have := hGy11; unfold nP; omega) (by rw [hKy18]; decide)
            have em151 : fm Q (an Q p0) p1.toInt.toNat = y18 := by have g := x_g hQ hLp0 hKp0; rw [(ext_x hQ hE hLp0 hKp0).1, ext_fm hQ hE g.1.1 g.1.2.1]; exact ea
            have sk151 : ∀ (w h : Int32) (f : Nat → Int64), cxM _ Iz25 Jz25 y21 w h f → cxM Q Iz151 Jz151 (sk_ Q p0) w h f := fun w h f q => sk_rem hQ hE hLp0 hKp0 zp151 djc151 (by rw [esk]; exact q)
            have hKp0 := (hE p0 hLp0).2.1.trans hKp0
            have hKy18 := (hE y18 hLy18).2.1.trans hKy18
            have hLp0 := (hE p0 hLp0).1
            have hLy18 := (hE y18 hLy18).1
            have hx0 := (hE x0 hx0).1
            have hm0 := (hE m0 hm0).1
            have hX := extW_trans hX hE
            have hQ := hQn
            have hD := hDn
            have hAL := hALn
            refine W.widen (k := 29) (n := 807) (Nat.le_of_ble_eq_true rfl) (Nat.le_of_ble_eq_true rfl) ?_
            refine lv_iconst (v := 0) hx hb dX6_crop_154 (by decide +kernel) ?_
            refine lv_istore_n (lv' := [(3, .int 0), (0, .ref p0), (1, .int p1), (2, .ref y18)]) hx hb dX6_crop_155 rfl hl (by decide) rfl (fun ls hl => ?_)
            have key156 := blocks (fun n => ∀ (v156_3 : Int32) (I156 : Nat → Nat → Int32) (H : Heap) (lo : List Loc) (ls : Array Slot), (11 - v156_3.toInt).toNat = n → ((0) ≤ v156_3.toInt ∧ v156_3.toInt ≤ 10) → Iv L K x0 m0 tx tm I156 → (∀ b, b ∈ L0 → (K0 b = 7 ∨ K0 b = 18 ∨ K0 b = 19 ∨ K0 b = 20 ∨ K0 b = 24) → I156 b = I b) → crB Q I156 p0 (tm.2 - 5000 + 500 * v156_3.toInt) → I156 y18 = Iz25 y18 → (∀ σ : Sx, cxA Q0 I J p0 σ → v156_3.toInt.toNat ≤ (σ.1.1 1).toInt.toNat ∧ cxA Q I156 Jz151 p0 (crC σ p1 v156_3.toInt.toNat, (rem σ).2) ∧ cxM Q I156 Jz151 (sk_ Q p0) (crW σ p1) (crH σ p1) (crF σ p1)) → va_P (dC, dI) vwCl (Wd cs L K I156 Jz151 Q) H → va_S A s.heap H lo → lv_has ls 5 [(0, .ref p0), (1, .int p1), (2, .ref y18), (3, .int v156_3)] → W p l e R s m (([.ref p0, .int p1] : List Value).toArray) below meth c H lo 29 807 Qz (F0 m 156 ls [])) (by
              intro n ih156
              intro v156_3 I156 H lo ls hmu156 bv156_3 hI156 dn_I156 hcr he156 hg156 hP hS hl
              refine lv_iload_n hx hb dX6_crop_156 rfl (lv_at hl 3 rfl) ?_
              refine lv_aload_n hx hb dX6_crop_157 rfl (lv_at hl 0 rfl) ?_
              obtain ⟨y158, ey158, hLy158, hKy158, hGy158⟩ := oQ_6_2 (Sv_at hQ hLp0 hKp0)
              refine p_get (v := .ref y158) hx hb hts inX6 hown hK hP hLp0 hKp0 rfl rfl 2 (by decide) (hts _ pq351) (congrArg (fun q => some (va_rf q)) ey158) dX6_crop_158 ?_
              refine p_get hx hb hts inX1 hown hK hP hLy158 hKy158 rfl rfl 3 (by decide) (hts _ pq226) rfl dX6_crop_161 ?_
              refine lv_topi (fun z161 ez161 => ?_)
              have cgz161 := congrArg Int32.toInt ez161
              have bz161 := oI_1_3 (Iv_at hI156 hLy158 hKy158)
              rw [← ez161] at bz161
              refine lv_icmp_ge (tgt := 231) hx hb dX6_crop_164 (by decide) (fun c164 => ?_) (fun c164 => ?_)
              · have t164 := tq_le (k := z161.toInt) (q := v156_3.toInt) c164 rfl rfl
                refine lv_aload_n hx hb dX6_crop_231 rfl (lv_at hl 2 rfl) ?_
                refine lv_aload_n hx hb dX6_crop_232 rfl (lv_at hl 0 rfl) ?_
                obtain ⟨y233, ey233, hLy233, hKy233, hGy233⟩ := oQ_6_6 (Sv_at hQ hLp0 hKp0)
                refine p_get (v := .ref y233) hx hb hts inX6 hown hK hP hLp0 hKp0 rfl rfl 6 (by decide) (hts _ pq355) (congrArg (fun q => some (va_rf q)) ey233) dX6_crop_233 ?_
                refine sw_v (Z := (fun I1 J1 => Iv L K x0 m0 tx tm I1 ∧ (∀ b, ¬ (b = y18) → I1 b = I156 b) ∧ (¬ y233 = y18 → ∀ k, k < 8 → ¬ k = 2 → I1 y18 k = I156 y233 k) ∧ (∀ k, k < 80 → J1 (wo Q y18) k = Jz151 (wo Q y233) k) ∧ (∀ b, ¬ (K b = 12 ∧ (G b = G y18)) → J1 b = Jz151 b))) (va_runV (As := [.ref y233]) (rest := []) ⟨hx, hb, hml, hown, hts⟩ (s_X3_become l dC dI cs L K G Q hQ x0 m0 tx tm H.size I156 Jz151 hI156 y18 hLy18 hKy18 y233 hLy233 hKy233) (cwV 1 hts (gV pq691 pq594 pq595 pq76 pq596) rfl rfl rfl (by decide +kernel) ⟨(by rw [hR]; exact (Nat.le_of_ble_eq_true rfl)), (by rw [hR]; exact (Nat.le_of_ble_eq_true rfl))⟩) (sP_V hP hD hK hN hLy18 hKy18 rfl rfl) rfl rfl hl.1 rfl (lv_room (Nat.le_of_ble_eq_true rfl)) dX6_crop_236 ⟨(by rw [hR]; exact (Nat.le_of_ble_eq_true rfl)), (by rw [hR]; exact (Nat.le_of_ble_eq_true rfl))⟩) hS hAL hA (fun Iz236 Jz236 H locs hz236 hIz236 hP hS => ?_)
                obtain ⟨hIz236, frc236, fz236, jz236, djc236⟩ := hIz236
                have dj_Jz236 : (∀ b, b ∈ L0 → ¬ (K0 b = 12) → Jz236 b = J b) := fun b hb hc => (djc236 b (fun z => hc (by have w1 := (hX b hb).2.1; have w2 := (hX b hb).2.2.1; rw [w1] at z; exact z.1))).trans (dj_Jz151 b hb hc)
                have dn_Iz236 : (∀ b, b ∈ L0 → (K0 b = 7 ∨ K0 b = 18 ∨ K0 b = 19 ∨ K0 b = 20 ∨ K0 b = 24) → Iz236 b = I b) := fun b hb hc => (frc236 b (fun z => by have w := (hX b hb).2.1; have q := hKy18; rw [← z] at q; omega)).trans (dn_I156 b hb hc)
                refine lv_aload_n hx hb dX6_crop_239 rfl (lv_at hl 0 rfl) ?_
                obtain ⟨y240, ey240, hLy240, hKy240, hGy240⟩ := oQ_6_5 (Sv_at hQ hLp0 hKp0)
                refine p_get (v := .ref y240) hx hb hts inX6 hown hK hP hLp0 hKp0 rfl rfl 5 (by decide) (hts _ pq354) (congrArg (fun q => some (va_rf q)) ey240) dX6_crop_240 ?_
                refine sw_v (Z := (fun I1 J1 => Iv L K x0 m0 tx tm I1 ∧ (∀ b, ¬ ((K b = 3) ∧ G b / 100 = 2) → I1 b = Iz236 b) ∧ (∀ c : Fx, okF c → cxF Q Iz236 Jz236 (nf Q y240) c → cxS Q I1 J1 y240 c) ∧ (∀ b, ¬ (K b = 12 ∧ (G b / 100 = 2)) → J1 b = Jz236 b))) (va_runV (As := []) (rest := []) ⟨hx, hb, hml, hown, hts⟩ (s_X5_redraw l dC dI cs L K G Q hQ x0 m0 tx tm H.size Iz236 Jz236 hIz236 y240 hLy240 hKy240) (cwV 0 hts (gV pq604 pq605 pq606 pq79 pq607) rfl rfl rfl (by decide +kernel) ⟨(by rw [hR]; exact (Nat.le_of_ble_eq_true rfl)), (by rw [hR]; exact (Nat.le_of_ble_eq_true rfl))⟩) (sP_V hP hD hK hN hLy240 hKy240 rfl rfl) rfl rfl hl.1 rfl (lv_room (Nat.le_of_ble_eq_true rfl)) dX6_crop_243 ⟨(by rw [hR]; exact (Nat.le_of_ble_eq_true rfl)), (by rw [hR]; exact (Nat.le_of_ble_eq_true rfl))⟩) hS hAL hA (fun Iz243 Jz243 H locs hz243 hIz243 hP hS => ?_)
                obtain ⟨hIz243, frc243, jz243, djc243⟩ := hIz243
                have dj_Jz243 : (∀ b, b ∈ L0 → ¬ (K0 b = 12) → Jz243 b = J b) := fun b hb hc => (djc243 b (fun z => hc (by have w1 := (hX b hb).2.1; have w2 := (hX b hb).2.2.1; rw [w1] at z; exact z.1))).trans (dj_Jz236 b hb hc)
                have dn_Iz243 : (∀ b, b ∈ L0 → (K0 b = 7 ∨ K0 b = 18 ∨ K0 b = 19 ∨ K0 b = 20 ∨ K0 b = 24) → Iz243 b = I b) := fun b hb hc => (frc243 b (by have w := (hX b hb).2.1; omega)).trans (dn_Iz236 b hb hc)
                refine lv_aload_n hx hb dX6_crop_246 rfl (lv_at hl 2 rfl) ?_
                refine p_get hx hb hts inX3 hown hK hP hLy18 hKy18 rfl rfl 0 (by decide) (hts _ pq119) rfl dX6_crop_247 ?_
                refine lv_topi (fun z247 ez247 => ?_)
                have bz247 := oI_3_0 (Iv_at hIz243 hLy18 hKy18)
                rw [← ez247] at bz247
                refine lv_aload_n hx hb dX6_crop_250 rfl (lv_at hl 2 rfl) ?_
                refine p_get hx hb hts inX3 hown hK hP hLy18 hKy18 rfl rfl 1 (by decide) (hts _ pq123) rfl dX6_crop_251 ?_
                refine lv_topi (fun z251 ez251 => ?_)
                have bz251 := oI_3_1 (Iv_at hIz243 hLy18 hKy18)
                rw [← ez251] at bz251
                refine lv_imul hx hb dX6_crop_254 ?_
                refine lv_topi (fun z254 ez254 => ?_)
                have hfin : ∀ σ : Sx, cxA Q0 I J p0 σ → z254.toInt = ((crE σ p1).2.2.1 - (crE σ p1).1 + 1) * ((crE σ p1).2.2.2 - (crE σ p1).2.1 + 1) ∧ cxA Q Iz243 Jz243 p0 (setM (crC σ p1 (σ.1.1 1).toInt.toNat) p1.toInt.toNat (crW σ p1) (crH σ p1) (crF σ p1), (rem σ).2) := fun σ h => by obtain ⟨l, A, M⟩ := hg156 σ h; have ec := A.1.1.2.2.1; rw [show an Q p0 = y158 from gd_of ey158, ← ez161] at ec; have ec2 : z161 = σ.1.1 1 := ec.trans (crC_lo (by decide)); have ek : v156_3.toInt.toNat = (σ.1.1 1).toInt.toNat := (by rw [← ec2]; rw [← ec2] at l; omega); rw [ek] at A; have ci := hci σ h; have esk : sk_ Q p0 = y233 := gd_of ey233; have hm := (rs0 σ h).1; have q2 := sk_mask (m := p1.toInt.toNat) (I1 := Iz236) (J1 := Jz236) hQ hLp0 hKp0 (by omega) (by rw [em151, esk]; exact fz236) (by rw [em151, esk]; exact jz236) M; have B := cxH_mask (σ := (crC σ p1 (σ.1.1 1).toInt.toNat, (rem σ).2)) hQ hLp0 hKp0 (by omega) ci.2.2.2 q2 (by rw [em151]; exact frc236) (by rw [em151]; exact djc236) A.1; rw [em151] at q2; have gx := x_g hQ hLp0 hKp0; have g18 := fm_g hQ gx.1.1 gx.1.2.1 (show p1.toInt.toNat < 8 by omega); rw [em151, gx.1.2.2] at g18; have x1 : z247 = crW σ p1 := (by rw [ez247, frc243 y18 (fun z => by have := z.2; omega)]; exact q2.1); have x2 : z251 = crH σ p1 := (by rw [ez251, frc243 y18 (fun z => by have := z.2; omega)]; exact q2.2.1); refine ⟨?_, cxA_redraw hQ hLp0 hKp0 (by rw [show se Q p0 = y240 from gd_of ey240]; exact jz243) frc243 djc243 B⟩; rw [← ci.2.1, ← ci.2.2.1, ez254, x1, x2]; exact mul_sm (by rw [ci.2.1]; have := ci.1.1; omega) (by rw [ci.2.2.1]; have := ci.1.2; omega)
                subst hR; subst hQz
                exact W.iret (v := z254) hx hb hr (fun t ht hW => ⟨⟨z254, (), rfl, (fun σ h => by rw [cr_y (rs0 σ h).1 (hne σ h) (hnf σ h)]; exact (hfin σ h).1), ⟨L, K, G, Q, Iz243, Jz243, hX, hQ, hIz243, fun F => (hD F).weaken (fun _ _ _ _ => trivial), fun q h => hAe2 q (hAL q h), by rw [ht]; exact hP, ⟨(fun σ h => by rw [cr_y (rs0 σ h).1 (hne σ h) (hnf σ h)]; exact (hfin σ h).2), dn_Iz243, dj_Jz243⟩⟩⟩, hS.F ht⟩) hS.2.2 dX6_crop_255
              · have t164 := tq_nle (k := z161.toInt) (q := v156_3.toInt) c164 rfl rfl
                refine lv_aload_n hx hb dX6_crop_167 rfl (lv_at hl 0 rfl) ?_
                refine p_get (v := .ref y158) hx hb hts inX6 hown hK hP hLp0 hKp0 rfl rfl 2 (by decide) (hts _ pq351) (congrArg (fun q => some (va_rf q)) ey158) dX6_crop_168 ?_
                obtain ⟨y171, ey171, hLy171, hKy171, hGy171⟩ := oQ_1_1 (Sv_at hQ hLy158 hKy158)
                refine p_get (v := .ref y171) hx hb hts inX1 hown hK hP hLy158 hKy158 rfl rfl 1 (by decide) (hts _ pq219) (congrArg (fun q => some (va_rf q)) ey171) dX6_crop_171 ?_
                refine lv_iload_n hx hb dX6_crop_174 rfl (lv_at hl 3 rfl) ?_
                obtain ⟨y175, ey175, hLy175, hKy175, hGy175⟩ := (Sv_at hQ hLy171 hKy171).1 v156_3.toNatClampNeg (clamp_lt (n := 10) (in_of (by omega) (by omega)))
                refine p_aaldR hx hb hK hP 4 hLy171 hKy171 rfl rfl (in_of (by omega) (by omega)) ey175 dX6_crop_175 ?_
                refine lv_astore (lv' := [(4, .ref y175), (0, .ref p0), (1, .int p1), (2, .ref y18), (3, .int v156_3)]) hx hb dX6_crop_176 hl (by decide) rfl (fun ls hl => ?_)
                refine lv_aload hx hb dX6_crop_178 (lv_at hl 0 rfl) ?_
                refine p_get hx hb hts inX0 hown hK hP hLy175 hKy175 rfl rfl 0 (by decide) (hts _ pq171) rfl dX6_crop_180 ?_
                refine lv_topi (fun z180 ez180 => ?_)
                have bz180 := oI_0_0 (Iv_at hI156 hLy175 hKy175)
                rw [← ez180] at bz180
                refine lv_iload_n hx hb dX6_crop_183 rfl (lv_at hl 2 rfl) ?_
                have j225 : ∀ (I225 : Nat → Nat → Int32) (H : Heap) (lo : List Loc) (ls : Array Slot), Iv L K x0 m0 tx tm I225 → (∀ b, b ∈ L0 → (K0 b = 7 ∨ K0 b = 18 ∨ K0 b = 19 ∨ K0 b = 20 ∨ K0 b = 24) → I225 b = I b) → crB Q I225 p0 (tm.2 - 5000 + 500 * (v156_3.toInt + 1)) → I225 y18 = Iz25 y18 → (∀ σ : Sx, cxA Q0 I J p0 σ → v156_3.toInt.toNat < (σ.1.1 1).toInt.toNat ∧ cxA Q I225 Jz151 p0 (crC σ p1 (v156_3.toInt.toNat + 1), (rem σ).2) ∧ cxM Q I225 Jz151 (sk_ Q p0) (crW σ p1) (crH σ p1) (crF σ p1)) → va_P (dC, dI) vwCl (Wd cs L K I225 Jz151 Q) H → va_S A s.heap H lo → lv_has ls 5 [(0, .ref p0), (1, .int p1), (2, .ref y18), (3, .int v156_3), (4, .ref y175)] → W p l e R s m (([.ref p0, .int p1] : List Value).toArray) below meth c H lo 29 807 Qz (F0 m 225 ls []) := by
                  intro I225 H lo ls hI225 dn_I225 hcr225 he225 hg225 hP hS hl
                  obtain ⟨z225, ez225⟩ : ∃ y : Int32, y = v156_3 + 1 := ⟨_, rfl⟩
                  refine lv_iinc (v := z225) (lv' := [(3, .int z225), (0, .ref p0), (1, .int p1), (2, .ref y18), (4, .ref y175)]) hx hb dX6_crop_225 hl (k := 3) rfl (by rw [ez225]; rfl) (by decide) rfl (fun ls hl => ?_)
                  have bz225 := tq_add (k := v156_3.toInt) (q := 1) ez225 rfl (by decide +kernel) (by omega) (by omega)
                  refine lv_goto (tgt := 156) hx hb dX6_crop_228 (by decide) ?_
                  exact ih156 _ (by omega) z225 I225 _ _ _ rfl ⟨by omega, by omega⟩ hI225 dn_I225 (by rw [bz225]; exact hcr225) he225 (fun σ h => by obtain ⟨l, A, M⟩ := hg225 σ h; rw [show z225.toInt.toNat = v156_3.toInt.toNat + 1 by omega]; exact ⟨l, A, M⟩) hP hS (lv_sub hl [1, 2, 3, 0] rfl)
                refine lv_icmp_ne (tgt := 225) hx hb dX6_crop_184 (by decide) (fun c184 => ?_) (fun c184 => ?_)
                · have t184 := tq_ne (k := z180.toInt) (q := p1.toInt) c184 rfl rfl
                  exact j225 I156 _ _ _ hI156 dn_I156 (crB_mono hcr (by omega)) he156 (fun σ h => by obtain ⟨l, A, M⟩ := hg156 σ h; have ec := A.1.1.2.2.1; rw [show an Q p0 = y158 from gd_of ey158, ← ez161] at ec; have ec2 : z161 = σ.1.1 1 := ec.trans (crC_lo (by decide)); have hN : v156_3.toInt.toNat < (σ.1.1 1).toInt.toNat := (by rw [← ec2]; omega); have va := fun k (hk : k < 8) => (A.1.1.2.2.2.2.2 v156_3.toInt.toNat (crC_nn hN) k hk).trans (crC_at hk (Nat.le_refl _)); rw [show an Q p0 = y158 from gd_of ey158, show fb Q y158 v156_3.toInt.toNat = y175 from fb_of ey171 ey175] at va; rw [crC_n (fun hs => t184 (congrArg Int32.toInt ((ez180.trans (va 0 (by decide))).trans hs)))]; exact ⟨hN, A, M⟩) hP hS (lv_sub hl [1, 2, 3, 4, 0] rfl)
                · have t184 := tq_eq (k := z180.toInt) (q := p1.toInt) c184 rfl rfl
                  have hr := hcr y158 y171 y175 v156_3.toNatClampNeg ey158 ey171 (by show v156_3.toInt.toNat < 10; omega) ey175
                  have nn1 := hIo.2.2.2.2.1
                  dsimp only at nn1
                  refine lv_aload hx hb dX6_crop_187 (lv_at hl 0 rfl) ?_
                  refine lv_dup hx hb dX6_crop_189 rfl ?_
                  refine p_get hx hb hts inX0 hown hK hP hLy175 hKy175 rfl rfl 1 (by decide) (hts _ pq174) rfl dX6_crop_190 ?_
                  refine lv_topi (fun z190 ez190 => ?_)
                  have cgz190 := congrArg Int32.toInt ez190
                  have bz190 := oI_0_1 (Iv_at hI156 hLy175 hKy175)
                  rw [← ez190] at bz190
                  refine lv_aload_n hx hb dX6_crop_193 rfl (lv_at hl 3 rfl) ?_
                  refine lv_aload hx hb dX6_crop_194 (lv_at hl 0 rfl) ?_
                  refine p_get hx hb hts inX0 hown hK hP hLy175 hKy175 rfl rfl 3 (by decide) (hts _ pq180) rfl dX6_crop_196 ?_
                  refine lv_topi (fun z196 ez196 => ?_)
                  have bz196 := oI_0_3 (Iv_at hI156 hLy175 hKy175)
                  rw [← ez196] at bz196
                  refine ro_i (va_runS (As := [.ref y18, .int z196]) (rest := [.int z190, .ref y175]) ⟨hx, hb, hml, hown, hts⟩ (s_X6_cutLeft l dC dI cs L K G Q hQ x0 m0 tx tm H.size I156 Jz151 hI156 y18 hLy18 hKy18 z196) (va_cwS 2 hts (gS pq719 pq720 pq74 pq721) rfl rfl rfl (by decide +kernel) ⟨(by rw [hR]; exact (Nat.le_of_ble_eq_true rfl)), (by rw [hR]; exact (Nat.le_of_ble_eq_true rfl))⟩) (sP_S hP hD hK hN) rfl rfl hl.1 rfl (lv_room (Nat.le_of_ble_eq_true rfl)) dX6_crop_199 ⟨(by rw [hR]; exact (Nat.le_of_ble_eq_true rfl)), (by rw [hR]; exact (Nat.le_of_ble_eq_true rfl))⟩) hS hP (fun z199 H locs hz199 hP hS => ?_)
                  obtain ⟨bz199, xpz199⟩ := hz199
                  refine lv_iadd hx hb dX6_crop_202 ?_
                  refine lv_topi (fun z202 ez202 => ?_)
                  have bz202 := tq_add (k := z190.toInt) (q := z199.toInt) ez202 rfl rfl (by omega) (by omega)
                  refine p_put hx hb hts inX0 tyX0 tyX0_ok nmX0 hown hK hP hD hS hLy175 hKy175 rfl rfl 1 (by decide) (hts _ pq174) rfl (by decide +kernel) (Nat.le_of_ble_eq_true rfl) (oS_0_1 cs _ _ _ _) dX6_crop_203 (fun H locs hP hS => ?_)
                  obtain ⟨Iz203, hP, hIz203, qIz203⟩ : ∃ Iz203, va_P (dC, dI) vwCl (Wd cs L K Iz203 Jz151 Q) H ∧ Iv L K x0 m0 tx tm Iz203 ∧ Iz203 = va_up I156 y175 (upd (I156 y175) 1 z202) := ⟨_, hP, Iv_put hI156 hKy175 (oP_0_1 (Iv_at hI156 hLy175 hKy175) ⟨by omega, by omega⟩) (by decide) (by decide), rfl⟩
                  have dn_Iz203 : (∀ b, b ∈ L0 → (K0 b = 7 ∨ K0 b = 18 ∨ K0 b = 19 ∨ K0 b = 20 ∨ K0 b = 24) → Iz203 b = I b) := fun b hb hc => (congrFun qIz203 b).trans ((va_up_ne _ _ (fun z => by have q := hKy175; rw [← z, (hX b hb).2.1] at q; omega)).trans (dn_I156 b hb hc))
                  refine lv_aload hx hb dX6_crop_206 (lv_at hl 0 rfl) ?_
                  refine lv_dup hx hb dX6_crop_208 rfl ?_
                  refine p_get hx hb hts inX0 hown hK hP hLy175 hKy175 rfl rfl 2 (by decide) (hts _ pq177) rfl dX6_crop_209 ?_
                  refine lv_topi (fun z209 ez209 => ?_)
                  have cgz209 := congrArg Int32.toInt ez209
                  have bz209 := oI_0_2 (Iv_at hIz203 hLy175 hKy175)
                  rw [← ez209] at bz209
                  have c209 := congrArg Int32.toInt (ez209.trans (show Iz203 y175 2 = I156 y175 2 by rw [qIz203, rz_fr _ _ _ _ (by decide)]))
                  refine lv_aload_n hx hb dX6_crop_212 rfl (lv_at hl 3 rfl) ?_
                  refine lv_aload hx hb dX6_crop_213 (lv_at hl 0 rfl) ?_
                  refine p_get hx hb hts inX0 hown hK hP hLy175 hKy175 rfl rfl 3 (by decide) (hts _ pq180) rfl dX6_crop_215 ?_
                  refine lv_topi (fun z215 ez215 => ?_)
                  obtain rfl : z196 = z215 := by rw [ez215, qIz203, rz_fr _ _ _ _ (by decide)]; exact ez196
                  have ez196x215 := ez215
                  refine ro_i (va_runS (As := [.ref y18, .int z196]) (rest := [.int z209, .ref y175]) ⟨hx, hb, hml, hown, hts⟩ (s_X6_cutAbove l dC dI cs L K G Q hQ x0 m0 tx tm H.size Iz203 Jz151 hIz203 y18 hLy18 hKy18 z196) (va_cwS 2 hts (gS pq722 pq723 pq74 pq724) rfl rfl rfl (by decide +kernel) ⟨(by rw [hR]; exact (Nat.le_of_ble_eq_true rfl)), (by rw [hR]; exact (Nat.le_of_ble_eq_true rfl))⟩) (sP_S hP hD hK hN) rfl rfl hl.1 rfl (lv_room (Nat.le_of_ble_eq_true rfl)) dX6_crop_218 ⟨(by rw [hR]; exact (Nat.le_of_ble_eq_true rfl)), (by rw [hR]; exact (Nat.le_of_ble_eq_true rfl))⟩) hS hP (fun z218 H locs hz218 hP hS => ?_)
                  obtain ⟨bz218, xpz218⟩ := hz218
                  refine lv_iadd hx hb dX6_crop_221 ?_
                  refine lv_topi (fun z221 ez221 => ?_)
                  have bz221 := tq_add (k := z209.toInt) (q := z218.toInt) ez221 rfl rfl (by omega) (by omega)
                  refine p_put hx hb hts inX0 tyX0 tyX0_ok nmX0 hown hK hP hD hS hLy175 hKy175 rfl rfl 2 (by decide) (hts _ pq177) rfl (by decide +kernel) (Nat.le_of_ble_eq_true rfl) (oS_0_2 cs _ _ _ _) dX6_crop_222 (fun H locs hP hS => ?_)
                  obtain ⟨Iz222, hP, hIz222, qIz222⟩ : ∃ Iz222, va_P (dC, dI) vwCl (Wd cs L K Iz222 Jz151 Q) H ∧ Iv L K x0 m0 tx tm Iz222 ∧ Iz222 = va_up Iz203 y175 (upd (Iz203 y175) 2 z221) := ⟨_, hP, Iv_put hIz203 hKy175 (oP_0_2 (Iv_at hIz203 hLy175 hKy175) ⟨by omega, by omega⟩) (by decide) (by decide), rfl⟩
                  have dn_Iz222 : (∀ b, b ∈ L0 → (K0 b = 7 ∨ K0 b = 18 ∨ K0 b = 19 ∨ K0 b = 20 ∨ K0 b = 24) → Iz222 b = I b) := fun b hb hc => (congrFun qIz222 b).trans ((va_up_ne _ _ (fun z => by have q := hKy175; rw [← z, (hX b hb).2.1] at q; omega)).trans (dn_Iz203 b hb hc))
                  exact j225 Iz222 _ _ _ hIz222 dn_Iz222 (crB_step (y := y175) hcr (by omega) (fun b q => by rw [qIz222, va_up_ne _ _ q, qIz203, va_up_ne _ _ q]) (by rw [qIz222, rz_fr _ _ _ _ (by decide), qIz203, rz_at]; omega) (by rw [qIz222, rz_at]; omega)) ((by rw [qIz222, va_up_ne _ _ (ne_k hKy18 hKy175 (by decide)), qIz203, va_up_ne _ _ (ne_k hKy18 hKy175 (by decide))] : Iz222 y18 = I156 y18).trans he156) (fun σ h => by obtain ⟨l, A, M⟩ := hg156 σ h; have ec := A.1.1.2.2.1; rw [show an Q p0 = y158 from gd_of ey158, ← ez161] at ec; have ec2 : z161 = σ.1.1 1 := ec.trans (crC_lo (by decide)); have hN : v156_3.toInt.toNat < (σ.1.1 1).toInt.toNat := (by rw [← ec2]; omega); have va := fun k (hk : k < 8) => (A.1.1.2.2.2.2.2 v156_3.toInt.toNat (crC_nn hN) k hk).trans (crC_at hk (Nat.le_refl _)); rw [show an Q p0 = y158 from gd_of ey158, show fb Q y158 v156_3.toInt.toNat = y175 from fb_of ey171 ey175] at va; have hs : crSt σ p1 v156_3.toInt.toNat := (va 0 (by decide)).symm.trans (ez180.symm.trans (Int32.toInt_inj.mp t184)); have ci := hci σ h; have nf := hnf σ h; have eE := hcE σ h; have w := hcw σ h; have sg := sk_g hQ hLp0 hKp0; have xU : z199 = crU σ p1 v156_3.toInt.toNat := Int32.toInt_inj.mp (by rw [(crU_i ci _).1, xpz199 ⟨by omega, by omega⟩, ← va 3 (by decide), ez196, he156, w.1, eE]); have xV : z218 = crV σ p1 v156_3.toInt.toNat := Int32.toInt_inj.mp (by rw [(crV_i ci _).1, xpz218 ⟨by omega, by omega⟩, ← va 3 (by decide), ez196, show Iz203 y18 = I156 y18 from (by rw [qIz203, va_up_ne _ _ (ne_k hKy18 hKy175 (by decide))]), he156, w.2, eE]); exact ⟨hN, cr_step hQ hLp0 hKp0 h.1.1.1 ci hN hs (fun f => nf ⟨_, hN, hs, f⟩) (by rw [show an Q p0 = y158 from gd_of ey158]; exact fb_of ey171 ey175) qIz203 (by rw [ez202, ez190, xU]) qIz222 (by rw [ez221, ez209, xV]) A, cxM_fr hQ extW_refl sg.1 sg.2.1 (by rw [qIz222, va_up_ne _ _ (ne_k sg.2.1 hKy175 (by decide)), qIz203, va_up_ne _ _ (ne_k sg.2.1 hKy175 (by decide))]) rfl M⟩) hP hS (lv_sub hl [1, 2, 3, 4, 0] rfl))
            exact key156 _ 0 Iz151 _ _ _ rfl ⟨by decide +kernel, by decide +kernel⟩ hIz151 dn_Iz151 (by rw [show (0 : Int32).toInt = 0 from by decide +kernel]; simpa using cr151) e151 (fun σ h => by rw [show (0 : Int32).toInt.toNat = 0 from by decide +kernel, crC_0]; obtain ⟨hm, A1, e2, w, rr⟩ := rs σ h; have B := rz151 σ A1; rw [rem_e] at B; exact ⟨Nat.zero_le _, B, sk151 _ _ _ (rr t32).2.2.2.2⟩) hP hS (lv_sub hl [1, 2, 3, 0] rfl)
          · have t76 := tq_nle (k := z73.toInt) (q := v68_3.toInt) c76 rfl rfl
            refine lv_aload_n hx hb dX6_crop_79 rfl (lv_at hl 0 rfl) ?_
            refine p_get (v := .ref y11) hx hb hts inX6 hown hK hP hLp0 hKp0 rfl rfl 2 (by decide) (hts _ pq351) (congrArg (fun q => some (va_rf q)) ey11) dX6_crop_80 ?_
            obtain ⟨y83, ey83, hLy83, hKy83, hGy83⟩ := oQ_1_1 (Sv_at hQ hLy11 hKy11)
            refine p_get (v := .ref y83) hx hb hts inX1 hown hK hP hLy11 hKy11 rfl rfl 1 (by decide) (hts _ pq219) (congrArg (fun q => some (va_rf q)) ey83) dX6_crop_83 ?_
            refine lv_iload_n hx hb dX6_crop_86 rfl (lv_at hl 3 rfl) ?_
            obtain ⟨y87, ey87, hLy87, hKy87, hGy87⟩ := (Sv_at hQ hLy83 hKy83).1 v68_3.toNatClampNeg (clamp_lt (n := 10) (in_of (by omega) (by omega)))
            refine p_aaldR hx hb hK hP 4 hLy83 hKy83 rfl rfl (in_of (by omega) (by omega)) ey87 dX6_crop_87 ?_
            refine lv_astore (lv' := [(4, .ref y87), (0, .ref p0), (1, .int p1), (2, .ref y18), (3, .int v68_3)]) hx hb dX6_crop_88 hl (by decide) rfl (fun ls hl => ?_)
            refine lv_aload hx hb dX6_crop_90 (lv_at hl 0 rfl) ?_
            refine p_get hx hb hts inX0 hown hK hP hLy87 hKy87 rfl rfl 0 (by decide) (hts _ pq171) rfl dX6_crop_92 ?_
            refine lv_topi (fun z92 ez92 => ?_)
            have bz92 := oI_0_0 (Iv_at hIz25 hLy87 hKy87)
            rw [← ez92] at bz92
            refine lv_iload_n hx hb dX6_crop_95 rfl (lv_at hl 2 rfl) ?_
            have j144 : ∀ (H : Heap) (lo : List Loc) (ls : Array Slot), (∀ σ : Sx, cxA Q0 I J p0 σ → crSt σ p1 v68_3.toInt.toNat → ¬ crFar σ p1 v68_3.toInt.toNat) → va_P (dC, dI) vwCl (Wd cs L K Iz25 Jz25 Q) H → va_S A s.heap H lo → lv_has ls 5 [(0, .ref p0), (1, .int p1), (2, .ref y18), (3, .int v68_3), (4, .ref y87)] → W p l e R s m (([.ref p0, .int p1] : List Value).toArray) below meth c H lo 0 0 Qz (F0 m 144 ls []) := by
              intro H lo ls hc144 hP hS hl
              obtain ⟨z144, ez144⟩ : ∃ y : Int32, y = v68_3 + 1 := ⟨_, rfl⟩
              refine lv_iinc (v := z144) (lv' := [(3, .int z144), (0, .ref p0), (1, .int p1), (2, .ref y18), (4, .ref y87)]) hx hb dX6_crop_144 hl (k := 3) rfl (by rw [ez144]; rfl) (by decide) rfl (fun ls hl => ?_)
              have bz144 := tq_add (k := v68_3.toInt) (q := 1) ez144 rfl (by decide +kernel) (by omega) (by omega)
              refine lv_goto (tgt := 68) hx hb dX6_crop_147 (by decide) ?_
              exact ih68 _ (by omega) z144 _ _ _ rfl ⟨by omega, by omega⟩ (fun σ h j hj hs => by by_cases q : j < v68_3.toInt.toNat; (exact hc68 σ h j q hs); (obtain rfl : j = v68_3.toInt.toNat := (by omega); exact hc144 σ h hs)) hP hS (lv_sub hl [1, 2, 3, 0] rfl)
            refine lv_icmp_ne (tgt := 144) hx hb dX6_crop_96 (by decide) (fun c96 => ?_) (fun c96 => ?_)
            · have t96 := tq_ne (k := z92.toInt) (q := p1.toInt) c96 rfl rfl
              exact j144  _ _ _ (fun σ h hs => by obtain ⟨hm, A1, e2, w, rr⟩ := rs σ h; obtain ⟨eE, ci, -⟩ := rr t32; have ec := A1.1.1.2.2.1; rw [show an Q p0 = y11 from gd_of ey11, ← ez73] at ec; have hN : v68_3.toInt.toNat < (σ.1.1 1).toInt.toNat := (by rw [← ec]; omega); have va := fun k (hk : k < 8) => A1.1.1.2.2.2.2.2 v68_3.toInt.toNat hN k hk; rw [show an Q p0 = y11 from gd_of ey11, show fb Q y11 v68_3.toInt.toNat = y87 from fb_of ey83 ey87] at va; exact absurd (congrArg Int32.toInt ((ez92.trans (va 0 (by decide))).trans hs)) t96) hP hS (lv_sub hl [1, 2, 3, 4, 0] rfl)
            · have t96 := tq_eq (k := z92.toInt) (q := p1.toInt) c96 rfl rfl
              refine lv_aload hx hb dX6_crop_99 (lv_at hl 0 rfl) ?_
              refine p_get hx hb hts inX0 hown hK hP hLy87 hKy87 rfl rfl 1 (by decide) (hts _ pq174) rfl dX6_crop_101 ?_
              refine lv_topi (fun z101 ez101 => ?_)
              have cgz101 := congrArg Int32.toInt ez101
              have bz101 := oI_0_1 (Iv_at hIz25 hLy87 hKy87)
              rw [← ez101] at bz101
              refine lv_aload_n hx hb dX6_crop_104 rfl (lv_at hl 3 rfl) ?_
              refine lv_aload hx hb dX6_crop_105 (lv_at hl 0 rfl) ?_
              refine p_get hx hb hts inX0 hown hK hP hLy87 hKy87 rfl rfl 3 (by decide) (hts _ pq180) rfl dX6_crop_107 ?_
              refine lv_topi (fun z107 ez107 => ?_)
              have bz107 := oI_0_3 (Iv_at hIz25 hLy87 hKy87)
              rw [← ez107] at bz107
              refine ro_i (va_runS (As := [.ref y18, .int z107]) (rest := [.int z101]) ⟨hx, hb, hml, hown, hts⟩ (s_X6_cutLeft l dC dI cs L K G Q hQ x0 m0 tx tm H.size Iz25 Jz25 hIz25 y18 hLy18 hKy18 z107) (va_cwS 2 hts (gS pq719 pq720 pq74 pq721) rfl rfl rfl (by decide +kernel) ⟨(by rw [hR]; exact (Nat.le_of_ble_eq_true rfl)), (by rw [hR]; exact (Nat.le_of_ble_eq_true rfl))⟩) (sP_S hP hD hK hN) rfl rfl hl.1 rfl (lv_room (Nat.le_of_ble_eq_true rfl)) dX6_crop_110 ⟨(by rw [hR]; exact (Nat.le_of_ble_eq_true rfl)), (by rw [hR]; exact (Nat.le_of_ble_eq_true rfl))⟩) hS hP (fun z110 H locs hz110 hP hS => ?_)
              obtain ⟨bz110, xpz110⟩ := hz110
              refine lv_iadd hx hb dX6_crop_113 ?_
              refine lv_topi (fun z113 ez113 => ?_)
              have bz113 := tq_add (k := z101.toInt) (q := z110.toInt) ez113 rfl rfl (by omega) (by omega)
              refine lv_sipush (v := 999) hx hb dX6_crop_114 (by decide +kernel) ?_
              refine lv_icmp_gt (tgt := 141) hx hb dX6_crop_117 (by decide) (fun c117 => ?_) (fun c117 => ?_)
              · have t117 := tq_lt (k := (999)) (q := z113.toInt) c117 (by decide +kernel) rfl
                refine lv_bipush (v := (-3)) hx hb dX6_crop_141 (by decide +kernel) ?_
                subst hR; subst hQz
                refine W.widen (k := 29) (n := 807) (Nat.le_of_ble_eq_true rfl) (Nat.le_of_ble_eq_true rfl) ?_
                exact W.iret (v := (-3)) hx hb hr (fun t ht hW => ⟨⟨(-3), (), rfl, (fun σ h => by rw [cr_f (rs σ h).1 (hne σ h) (by obtain ⟨hm, A1, e2, w, rr⟩ := rs σ h; obtain ⟨eE, ci, -⟩ := rr t32; have ec := A1.1.1.2.2.1; rw [show an Q p0 = y11 from gd_of ey11, ← ez73] at ec; have hN : v68_3.toInt.toNat < (σ.1.1 1).toInt.toNat := (by rw [← ec]; omega); have va := fun k (hk : k < 8) => A1.1.1.2.2.2.2.2 v68_3.toInt.toNat hN k hk; rw [show an Q p0 = y11 from gd_of ey11, show fb Q y11 v68_3.toInt.toNat = y87 from fb_of ey83 ey87] at va; exact ⟨v68_3.toInt.toNat, hN, (va 0 (by decide)).symm.trans (ez92.symm.trans (Int32.toInt_inj.mp t96)), by have xU : (crU σ p1 v68_3.toInt.toNat).toInt = z110.toInt := (by rw [(crU_i ci _).1, xpz110 ⟨by omega, by omega⟩, ← va 3 (by decide), ez107, w.1, eE]); have xb : bX σ.1 v68_3.toInt.toNat = z101.toInt := (by rw [ez101, va 1 (by decide)]; rfl); first | (refine Or.inl ?_; rw [xU, xb]; omega) | (have xV : (crV σ p1 v68_3.toInt.toNat).toInt = z131.toInt := (by rw [(crV_i ci _).1, xpz131 ⟨by omega, by omega⟩, ← va 3 (by decide), ez107, w.2, eE]); have yb : bY σ.1 v68_3.toInt.toNat = z122.toInt := (by rw [ez122, va 2 (by decide)]; rfl); refine Or.inr ?_; rw [xV, yb]; omega)⟩)]; show (-3 : Int32).toInt = -3; decide +kernel), ⟨L, K, G, Q, Iz25, Jz25, hX, hQ, hIz25, fun F => (hD F).weaken (fun _ _ _ _ => trivial), fun q h => hAe2 q (hAL q h), by rw [ht]; exact hP, ⟨(fun σ h => by rw [cr_f (rs σ h).1 (hne σ h) (by obtain ⟨hm, A1, e2, w, rr⟩ := rs σ h; obtain ⟨eE, ci, -⟩ := rr t32; have ec := A1.1.1.2.2.1; rw [show an Q p0 = y11 from gd_of ey11, ← ez73] at ec; have hN : v68_3.toInt.toNat < (σ.1.1 1).toInt.toNat := (by rw [← ec]; omega); have va := fun k (hk : k < 8) => A1.1.1.2.2.2.2.2 v68_3.toInt.toNat hN k hk; rw [show an Q p0 = y11 from gd_of ey11, show fb Q y11 v68_3.toInt.toNat = y87 from fb_of ey83 ey87] at va; exact ⟨v68_3.toInt.toNat, hN, (va 0 (by decide)).symm.trans (ez92.symm.trans (Int32.toInt_inj.mp t96)), by have xU : (crU σ p1 v68_3.toInt.toNat).toInt = z110.toInt := (by rw [(crU_i ci _).1, xpz110 ⟨by omega, by omega⟩, ← va 3 (by decide), ez107, w.1, eE]); have xb : bX σ.1 v68_3.toInt.toNat = z101.toInt := (by rw [ez101, va 1 (by decide)]; rfl); first | (refine Or.inl ?_; rw [xU, xb]; omega) | (have xV : (crV σ p1 v68_3.toInt.toNat).toInt = z131.toInt := (by rw [(crV_i ci _).1, xpz131 ⟨by omega, by omega⟩, ← va 3 (by decide), ez107, w.2, eE]); have yb : bY σ.1 v68_3.toInt.toNat = z122.toInt := (by rw [ez122, va 2 (by decide)]; rfl); refine Or.inr ?_; rw [xV, yb]; omega)⟩)]; exact (rs σ h).2.1), dn_Iz25, dj_Jz25⟩⟩⟩, hS.F ht⟩) hS.2.2 dX6_crop_143
              · have t117 := tq_nlt (k := (999)) (q := z113.toInt) c117 (by decide +kernel) rfl
                refine lv_aload hx hb dX6_crop_120 (lv_at hl 0 rfl) ?_
                refine p_get hx hb hts inX0 hown hK hP hLy87 hKy87 rfl rfl 2 (by decide) (hts _ pq177) rfl dX6_crop_122 ?_
                refine lv_topi (fun z122 ez122 => ?_)
                have cgz122 := congrArg Int32.toInt ez122
                have bz122 := oI_0_2 (Iv_at hIz25 hLy87 hKy87)
                rw [← ez122] at bz122
                refine lv_aload_n hx hb dX6_crop_125 rfl (lv_at hl 3 rfl) ?_
                refine lv_aload hx hb dX6_crop_126 (lv_at hl 0 rfl) ?_
                refine p_get hx hb hts inX0 hown hK hP hLy87 hKy87 rfl rfl 3 (by decide) (hts _ pq180) rfl dX6_crop_128 ?_
                refine lv_topi (fun z128 ez128 => ?_)
                obtain rfl : z107 = z128 := ez107.trans ez128.symm
                refine ro_i (va_runS (As := [.ref y18, .int z107]) (rest := [.int z122]) ⟨hx, hb, hml, hown, hts⟩ (s_X6_cutAbove l dC dI cs L K G Q hQ x0 m0 tx tm H.size Iz25 Jz25 hIz25 y18 hLy18 hKy18 z107) (va_cwS 2 hts (gS pq722 pq723 pq74 pq724) rfl rfl rfl (by decide +kernel) ⟨(by rw [hR]; exact (Nat.le_of_ble_eq_true rfl)), (by rw [hR]; exact (Nat.le_of_ble_eq_true rfl))⟩) (sP_S hP hD hK hN) rfl rfl hl.1 rfl (lv_room (Nat.le_of_ble_eq_true rfl)) dX6_crop_131 ⟨(by rw [hR]; exact (Nat.le_of_ble_eq_true rfl)), (by rw [hR]; exact (Nat.le_of_ble_eq_true rfl))⟩) hS hP (fun z131 H locs hz131 hP hS => ?_)
                obtain ⟨bz131, xpz131⟩ := hz131
                refine lv_iadd hx hb dX6_crop_134 ?_
                refine lv_topi (fun z134 ez134 => ?_)
                have bz134 := tq_add (k := z122.toInt) (q := z131.toInt) ez134 rfl rfl (by omega) (by omega)
                refine lv_sipush (v := 999) hx hb dX6_crop_135 (by decide +kernel) ?_
                refine lv_icmp_le (tgt := 144) hx hb dX6_crop_138 (by decide) (fun c138 => ?_) (fun c138 => ?_)
                · have t138 := tq_le (k := z134.toInt) (q := (999)) c138 rfl (by decide +kernel)
                  exact j144  _ _ _ (fun σ h hs hf => by obtain ⟨hm, A1, e2, w, rr⟩ := rs σ h; obtain ⟨eE, ci, -⟩ := rr t32; have ec := A1.1.1.2.2.1; rw [show an Q p0 = y11 from gd_of ey11, ← ez73] at ec; have hN : v68_3.toInt.toNat < (σ.1.1 1).toInt.toNat := (by rw [← ec]; omega); have va := fun k (hk : k < 8) => A1.1.1.2.2.2.2.2 v68_3.toInt.toNat hN k hk; rw [show an Q p0 = y11 from gd_of ey11, show fb Q y11 v68_3.toInt.toNat = y87 from fb_of ey83 ey87] at va; have xU : (crU σ p1 v68_3.toInt.toNat).toInt = z110.toInt := (by rw [(crU_i ci _).1, xpz110 ⟨by omega, by omega⟩, ← va 3 (by decide), ez107, w.1, eE]); have xb : bX σ.1 v68_3.toInt.toNat = z101.toInt := (by rw [ez101, va 1 (by decide)]; rfl); have xV : (crV σ p1 v68_3.toInt.toNat).toInt = z131.toInt := (by rw [(crV_i ci _).1, xpz131 ⟨by omega, by omega⟩, ← va 3 (by decide), ez107, w.2, eE]); have yb : bY σ.1 v68_3.toInt.toNat = z122.toInt := (by rw [ez122, va 2 (by decide)]; rfl); unfold crFar at hf; rw [xU, xb, xV, yb] at hf; omega) hP hS (lv_sub hl [1, 2, 3, 4, 0] rfl)
                · have t138 := tq_nle (k := z134.toInt) (q := (999)) c138 rfl (by decide +kernel)
                  refine lv_bipush (v := (-3)) hx hb dX6_crop_141 (by decide +kernel) ?_
                  subst hR; subst hQz
                  refine W.widen (k := 29) (n := 807) (Nat.le_of_ble_eq_true rfl) (Nat.le_of_ble_eq_true rfl) ?_
                  exact W.iret (v := (-3)) hx hb hr (fun t ht hW => ⟨⟨(-3), (), rfl, (fun σ h => by rw [cr_f (rs σ h).1 (hne σ h) (by obtain ⟨hm, A1, e2, w, rr⟩ := rs σ h; obtain ⟨eE, ci, -⟩ := rr t32; have ec := A1.1.1.2.2.1; rw [show an Q p0 = y11 from gd_of ey11, ← ez73] at ec; have hN : v68_3.toInt.toNat < (σ.1.1 1).toInt.toNat := (by rw [← ec]; omega); have va := fun k (hk : k < 8) => A1.1.1.2.2.2.2.2 v68_3.toInt.toNat hN k hk; rw [show an Q p0 = y11 from gd_of ey11, show fb Q y11 v68_3.toInt.toNat = y87 from fb_of ey83 ey87] at va; exact ⟨v68_3.toInt.toNat, hN, (va 0 (by decide)).symm.trans (ez92.symm.trans (Int32.toInt_inj.mp t96)), by have xU : (crU σ p1 v68_3.toInt.toNat).toInt = z110.toInt := (by rw [(crU_i ci _).1, xpz110 ⟨by omega, by omega⟩, ← va 3 (by decide), ez107, w.1, eE]); have xb : bX σ.1 v68_3.toInt.toNat = z101.toInt := (by rw [ez101, va 1 (by decide)]; rfl); first | (refine Or.inl ?_; rw [xU, xb]; omega) | (have xV : (crV σ p1 v68_3.toInt.toNat).toInt = z131.toInt := (by rw [(crV_i ci _).1, xpz131 ⟨by omega, by omega⟩, ← va 3 (by decide), ez107, w.2, eE]); have yb : bY σ.1 v68_3.toInt.toNat = z122.toInt := (by rw [ez122, va 2 (by decide)]; rfl); refine Or.inr ?_; rw [xV, yb]; omega)⟩)]; show (-3 : Int32).toInt = -3; decide +kernel), ⟨L, K, G, Q, Iz25, Jz25, hX, hQ, hIz25, fun F => (hD F).weaken (fun _ _ _ _ => trivial), fun q h => hAe2 q (hAL q h), by rw [ht]; exact hP, ⟨(fun σ h => by rw [cr_f (rs σ h).1 (hne σ h) (by obtain ⟨hm, A1, e2, w, rr⟩ := rs σ h; obtain ⟨eE, ci, -⟩ := rr t32; have ec := A1.1.1.2.2.1; rw [show an Q p0 = y11 from gd_of ey11, ← ez73] at ec; have hN : v68_3.toInt.toNat < (σ.1.1 1).toInt.toNat := (by rw [← ec]; omega); have va := fun k (hk : k < 8) => A1.1.1.2.2.2.2.2 v68_3.toInt.toNat hN k hk; rw [show an Q p0 = y11 from gd_of ey11, show fb Q y11 v68_3.toInt.toNat = y87 from fb_of ey83 ey87] at va; exact ⟨v68_3.toInt.toNat, hN, (va 0 (by decide)).symm.trans (ez92.symm.trans (Int32.toInt_inj.mp t96)), by have xU : (crU σ p1 v68_3.toInt.toNat).toInt = z110.toInt := (by rw [(crU_i ci _).1, xpz110 ⟨by omega, by omega⟩, ← va 3 (by decide), ez107, w.1, eE]); have xb : bX σ.1 v68_3.toInt.toNat = z101.toInt := (by rw [ez101, va 1 (by decide)]; rfl); first | (refine Or.inl ?_; rw [xU, xb]; omega) | (have xV : (crV σ p1 v68_3.toInt.toNat).toInt = z131.toInt := (by rw [(crV_i ci _).1, xpz131 ⟨by omega, by omega⟩, ← va 3 (by decide), ez107, w.2, eE]); have yb : bY σ.1 v68_3.toInt.toNat = z122.toInt := (by rw [ez122, va 2 (by decide)]; rfl); refine Or.inr ?_; rw [xV, yb]; omega)⟩)]; exact (rs σ h).2.1), dn_Iz25, dj_Jz25⟩⟩⟩, hS.F ht⟩) hS.2.2 dX6_crop_143)
        exact key68 _ 0 _ _ _ rfl ⟨by decide +kernel, by decide +kernel⟩ (fun σ h j hj => absurd hj (by rw [show (0 : Int32).toInt.toNat = 0 from by decide +kernel]; omega)) hP hS (lv_sub hl [1, 2, 3, 0] rfl)
      refine lv_icmp_ne (tgt := 66) hx hb dX6_crop_46 (by decide) (fun c46 => ?_) (fun c46 => ?_)
      · have t46 := tq_ne (k := z39.toInt) (q := z43.toInt) c46 rfl rfl
        exact j66  _ _ _ (fun σ h => by obtain ⟨hm, A1, e2, w, rr⟩ := rs σ h; obtain ⟨eE, ci, w0, w1, -⟩ := rr t32; rintro (q | ⟨q1, q2⟩); (exact t32 (by rw [e2]; exact q)); (rw [← ci.2.1, ← w0, ← w.1, ← ez39, ← ez43] at q1; rw [← ci.2.2.1, ← w1, ← w.2] at q2; first | exact t46 q1 | (rw [← ez53, ← ez57] at q2; exact t60 q2))) hP hS (lv_sub hl [1, 2, 0] rfl)
      · have t46 := tq_eq (k := z39.toInt) (q := z43.toInt) c46 rfl rfl
        refine lv_aload_n hx hb dX6_crop_49 rfl (lv_at hl 1 rfl) ?_
        refine p_get (v := .ref y21) hx hb hts inX6 hown hK hP hLp0 hKp0 rfl rfl 6 (by decide) (hts _ pq355) (congrArg (fun q => some (va_rf q)) ey21) dX6_crop_50 ?_
        refine p_get hx hb hts inX3 hown hK hP hLy21 hKy21 rfl rfl 1 (by decide) (hts _ pq123) rfl dX6_crop_53 ?_
        refine lv_topi (fun z53 ez53 => ?_)
        have bz53 := oI_3_1 (Iv_at hIz25 hLy21 hKy21)
        rw [← ez53] at bz53
        refine lv_aload_n hx hb dX6_crop_56 rfl (lv_at hl 0 rfl) ?_
        refine p_get hx hb hts inX3 hown hK hP hLy18 hKy18 rfl rfl 1 (by decide) (hts _ pq123) rfl dX6_crop_57 ?_
        refine lv_topi (fun z57 ez57 => ?_)
        have bz57 := oI_3_1 (Iv_at hIz25 hLy18 hKy18)
        rw [← ez57] at bz57
        refine lv_icmp_ne (tgt := 66) hx hb dX6_crop_60 (by decide) (fun c60 => ?_) (fun c60 => ?_)
        · have t60 := tq_ne (k := z53.toInt) (q := z57.toInt) c60 rfl rfl
          exact j66  _ _ _ (fun σ h => by obtain ⟨hm, A1, e2, w, rr⟩ := rs σ h; obtain ⟨eE, ci, w0, w1, -⟩ := rr t32; rintro (q | ⟨q1, q2⟩); (exact t32 (by rw [e2]; exact q)); (rw [← ci.2.1, ← w0, ← w.1, ← ez39, ← ez43] at q1; rw [← ci.2.2.1, ← w1, ← w.2] at q2; first | exact t46 q1 | (rw [← ez53, ← ez57] at q2; exact t60 q2))) hP hS (lv_sub hl [1, 2, 0] rfl)
        · have t60 := tq_eq (k := z53.toInt) (q := z57.toInt) c60 rfl rfl
          refine lv_bipush (v := (-2)) hx hb dX6_crop_63 (by decide +kernel) ?_
          subst hR; subst hQz
          refine W.widen (k := 29) (n := 807) (Nat.le_of_ble_eq_true rfl) (Nat.le_of_ble_eq_true rfl) ?_
          exact W.iret (v := (-2)) hx hb hr (fun t ht hW => ⟨⟨(-2), (), rfl, (fun σ h => by rw [cr_e (rs σ h).1 (by obtain ⟨hm, A1, e2, w, rr⟩ := rs σ h; first | (exact Or.inl (by rw [← e2]; exact t32)) | (obtain ⟨eE, ci, w0, w1, -⟩ := rr t32; refine Or.inr ⟨?_, ?_⟩; (rw [← ci.2.1, ← w0, ← w.1, ← ez39, ← ez43]; exact t46); (rw [← ci.2.2.1, ← w1, ← w.2, ← ez53, ← ez57]; exact t60)))]; show (-2 : Int32).toInt = -2; decide +kernel), ⟨L, K, G, Q, Iz25, Jz25, hX, hQ, hIz25, fun F => (hD F).weaken (fun _ _ _ _ => trivial), fun q h => hAe2 q (hAL q h), by rw [ht]; exact hP, ⟨(fun σ h => by rw [cr_e (rs σ h).1 (by obtain ⟨hm, A1, e2, w, rr⟩ := rs σ h; first | (exact Or.inl (by rw [← e2]; exact t32)) | (obtain ⟨eE, ci, w0, w1, -⟩ := rr t32; refine Or.inr ⟨?_, ?_⟩; (rw [← ci.2.1, ← w0, ← w.1, ← ez39, ← ez43]; exact t46); (rw [← ci.2.2.1, ← w1, ← w.2, ← ez53, ← ez57]; exact t60)))]; exact (rs σ h).2.1), dn_Iz25, dj_Jz25⟩⟩⟩, hS.F ht⟩) hS.2.2 dX6_crop_65
  · have t5 := tq_eq (k := z2.toInt) (q := (0)) c5 rfl (by decide +kernel)
    refine lv_iconst (v := (-1)) hx hb dX6_crop_8 (by decide +kernel) ?_
    subst hR; subst hQz
    refine W.widen (k := 29) (n := 807) (Nat.le_of_ble_eq_true rfl) (Nat.le_of_ble_eq_true rfl) ?_
    exact W.iret (v := (-1)) hx hb hr (fun t ht hW => ⟨⟨(-1), (), rfl, (fun σ h => by have ec := (rx0 σ h).1.1.2.1; rw [cr_n (fun q => xpz2.2 t5 (by rw [ec]; exact q))]; show (-1 : Int32).toInt = -1; decide +kernel), ⟨L, K, G, Q, I, J, hX, hQ, hI, fun F => (hD F).weaken (fun _ _ _ _ => trivial), fun q h => hAe2 q (hAL q h), by rw [ht]; exact hP, ⟨(fun σ h => by have A0 := rx0 σ h; have ec := A0.1.1.2.1; rw [cr_n (fun q => xpz2.2 t5 (by rw [ec]; exact q))]; exact A0), dn_I, dj_J⟩⟩⟩, hS.F ht⟩) hS.2.2 dX6_crop_9
