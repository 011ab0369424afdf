def yX7_next : MethodName := ⟨RX7, "next", "()I"⟩
def yX7_sign : MethodName := ⟨RX7, "sign", "()I"⟩
def yX7_isRight : MethodName := ⟨RX7, "isRight", "()Z"⟩
abbrev cX7_next : ByteArray := prog_9_method_11_code
abbrev cX7_sign : ByteArray := prog_9_method_10_code
abbrev cX7_isRight : ByteArray := prog_9_method_12_code
abbrev cX7_tell : ByteArray := prog_9_method_24_code
def yX7_tell : MethodName := ⟨RX7, "tell", "()I"⟩
theorem dX7_isRight_0 : decode cX7_isRight 0 = .ok (.aload_n 0, 1) := by decide +kernel
theorem dX7_isRight_1 : decode cX7_isRight 1 = .ok (.getfield 82, 3) := by decide +kernel
theorem dX7_isRight_4 : decode cX7_isRight 4 = .ok (.iconst (-1), 1) := by decide +kernel
theorem dX7_isRight_5 : decode cX7_isRight 5 = .ok (.if_icmp .ne 7, 3) := by decide +kernel
theorem dX7_isRight_8 : decode cX7_isRight 8 = .ok (.iconst 1, 1) := by decide +kernel
theorem dX7_isRight_9 : decode cX7_isRight 9 = .ok (.goto 4, 3) := by decide +kernel
theorem dX7_isRight_13 : decode cX7_isRight 13 = .ok (.ireturn, 1) := by decide +kernel
theorem dX7_next_0 : decode cX7_next 0 = .ok (.aload_n 0, 1) := by decide +kernel
theorem dX7_next_1 : decode cX7_next 1 = .ok (.invokevirtual 78, 3) := by decide +kernel
theorem dX7_next_4 : decode cX7_next 4 = .ok (.bipush 32, 2) := by decide +kernel
theorem dX7_next_6 : decode cX7_next 6 = .ok (.if_icmp .ne 16, 3) := by decide +kernel
theorem dX7_next_22 : decode cX7_next 22 = .ok (.aload_n 0, 1) := by decide +kernel
theorem dX7_next_23 : decode cX7_next 23 = .ok (.invokevirtual 78, 3) := by decide +kernel
theorem dX7_next_26 : decode cX7_next 26 = .ok (.ireturn, 1) := by decide +kernel
theorem dX7_sign_0 : decode cX7_sign 0 = .ok (.aload_n 0, 1) := by decide +kernel
theorem dX7_sign_1 : decode cX7_sign 1 = .ok (.getfield 75, 3) := by decide +kernel
theorem dX7_sign_4 : decode cX7_sign 4 = .ok (.aload_n 0, 1) := by decide +kernel
theorem dX7_sign_5 : decode cX7_sign 5 = .ok (.getfield 67, 3) := by decide +kernel
theorem dX7_sign_8 : decode cX7_sign 8 = .ok (.if_icmp .ge 19, 3) := by decide +kernel
theorem dX7_sign_27 : decode cX7_sign 27 = .ok (.iconst (-1), 1) := by decide +kernel
theorem dX7_sign_28 : decode cX7_sign 28 = .ok (.ireturn, 1) := by decide +kernel
theorem dX7_tell_0 : decode cX7_tell 0 = .ok (.aload_n 0, 1) := by decide +kernel
theorem dX7_tell_1 : decode cX7_tell 1 = .ok (.iconst 0, 1) := by decide +kernel
theorem dX7_tell_2 : decode cX7_tell 2 = .ok (.putfield 75, 3) := by decide +kernel
theorem dX7_tell_5 : decode cX7_tell 5 = .ok (.aload_n 0, 1) := by decide +kernel
theorem dX7_tell_6 : decode cX7_tell 6 = .ok (.iconst (-1), 1) := by decide +kernel
theorem dX7_tell_7 : decode cX7_tell 7 = .ok (.putfield 82, 3) := by decide +kernel
theorem dX7_tell_10 : decode cX7_tell 10 = .ok (.iconst 0, 1) := by decide +kernel
theorem dX7_tell_11 : decode cX7_tell 11 = .ok (.istore_n 1, 1) := by decide +kernel
theorem dX7_tell_12 : decode cX7_tell 12 = .ok (.iload_n 1, 1) := by decide +kernel
theorem dX7_tell_13 : decode cX7_tell 13 = .ok (.bipush 99, 2) := by decide +kernel
theorem dX7_tell_15 : decode cX7_tell 15 = .ok (.if_icmp .ge 16, 3) := by decide +kernel
theorem dX7_tell_18 : decode cX7_tell 18 = .ok (.aload_n 0, 1) := by decide +kernel
theorem dX7_tell_19 : decode cX7_tell 19 = .ok (.getfield 13, 3) := by decide +kernel
theorem dX7_tell_22 : decode cX7_tell 22 = .ok (.iload_n 1, 1) := by decide +kernel
theorem dX7_tell_23 : decode cX7_tell 23 = .ok (.iconst 0, 1) := by decide +kernel
theorem dX7_tell_24 : decode cX7_tell 24 = .ok (.iastore, 1) := by decide +kernel
theorem dX7_tell_25 : decode cX7_tell 25 = .ok (.iinc 1 1, 3) := by decide +kernel
theorem dX7_tell_28 : decode cX7_tell 28 = .ok (.goto (-16), 3) := by decide +kernel
theorem dX7_tell_31 : decode cX7_tell 31 = .ok (.iconst 0, 1) := by decide +kernel
theorem dX7_tell_32 : decode cX7_tell 32 = .ok (.istore_n 1, 1) := by decide +kernel
theorem dX7_tell_33 : decode cX7_tell 33 = .ok (.iload_n 1, 1) := by decide +kernel
theorem dX7_tell_34 : decode cX7_tell 34 = .ok (.sipush 640, 3) := by decide +kernel
theorem dX7_tell_37 : decode cX7_tell 37 = .ok (.if_icmp .ge 16, 3) := by decide +kernel
theorem dX7_tell_40 : decode cX7_tell 40 = .ok (.aload_n 0, 1) := by decide +kernel
theorem dX7_tell_41 : decode cX7_tell 41 = .ok (.getfield 29, 3) := by decide +kernel
theorem dX7_tell_44 : decode cX7_tell 44 = .ok (.iload_n 1, 1) := by decide +kernel
theorem dX7_tell_45 : decode cX7_tell 45 = .ok (.lconst 0, 1) := by decide +kernel
theorem dX7_tell_46 : decode cX7_tell 46 = .ok (.lastore, 1) := by decide +kernel
theorem dX7_tell_47 : decode cX7_tell 47 = .ok (.iinc 1 1, 3) := by decide +kernel
theorem dX7_tell_50 : decode cX7_tell 50 = .ok (.goto (-17), 3) := by decide +kernel
theorem dX7_tell_53 : decode cX7_tell 53 = .ok (.aload_n 0, 1) := by decide +kernel
theorem dX7_tell_54 : decode cX7_tell 54 = .ok (.invokevirtual 89, 3) := by decide +kernel
theorem dX7_tell_57 : decode cX7_tell 57 = .ok (.iconst (-1), 1) := by decide +kernel
theorem dX7_tell_58 : decode cX7_tell 58 = .ok (.if_icmp .eq 7, 3) := by decide +kernel
theorem dX7_tell_65 : decode cX7_tell 65 = .ok (.iconst 0, 1) := by decide +kernel
theorem dX7_tell_66 : decode cX7_tell 66 = .ok (.istore_n 1, 1) := by decide +kernel
theorem dX7_tell_67 : decode cX7_tell 67 = .ok (.iload_n 1, 1) := by decide +kernel
theorem dX7_tell_68 : decode cX7_tell 68 = .ok (.ifCond .eq 52, 3) := by decide +kernel
theorem dX7_tell_120 : decode cX7_tell 120 = .ok (.aload_n 0, 1) := by decide +kernel
theorem dX7_tell_121 : decode cX7_tell 121 = .ok (.invokevirtual 85, 3) := by decide +kernel
theorem dX7_tell_124 : decode cX7_tell 124 = .ok (.ifCond .eq 20, 3) := by decide +kernel
theorem dX7_tell_127 : decode cX7_tell 127 = .ok (.aload_n 0, 1) := by decide +kernel
theorem dX7_tell_128 : decode cX7_tell 128 = .ok (.invokevirtual 89, 3) := by decide +kernel
theorem dX7_tell_131 : decode cX7_tell 131 = .ok (.iconst (-1), 1) := by decide +kernel
theorem dX7_tell_132 : decode cX7_tell 132 = .ok (.if_icmp .eq 12, 3) := by decide +kernel
theorem dX7_tell_144 : decode cX7_tell 144 = .ok (.aload_n 0, 1) := by decide +kernel
theorem dX7_tell_145 : decode cX7_tell 145 = .ok (.iconst 0, 1) := by decide +kernel
theorem dX7_tell_146 : decode cX7_tell 146 = .ok (.putfield 67, 3) := by decide +kernel
theorem dX7_tell_149 : decode cX7_tell 149 = .ok (.aload_n 0, 1) := by decide +kernel
theorem dX7_tell_150 : decode cX7_tell 150 = .ok (.invokevirtual 85, 3) := by decide +kernel
theorem dX7_tell_153 : decode cX7_tell 153 = .ok (.ifCond .ne 11, 3) := by decide +kernel
theorem dX7_tell_164 : decode cX7_tell 164 = .ok (.aload_n 0, 1) := by decide +kernel
theorem dX7_tell_165 : decode cX7_tell 165 = .ok (.getfield 13, 3) := by decide +kernel
theorem dX7_tell_168 : decode cX7_tell 168 = .ok (.aload_n 0, 1) := by decide +kernel
theorem dX7_tell_169 : decode cX7_tell 169 = .ok (.getfield 29, 3) := by decide +kernel
theorem dX7_tell_172 : decode cX7_tell 172 = .ok (.iconst 0, 1) := by decide +kernel
theorem dX7_tell_173 : decode cX7_tell 173 = .ok (.aload_n 0, 1) := by decide +kernel
theorem dX7_tell_174 : decode cX7_tell 174 = .ok (.getfield 9, 3) := by decide +kernel
theorem dX7_tell_177 : decode cX7_tell 177 = .ok (.aload_n 0, 1) := by decide +kernel
theorem dX7_tell_178 : decode cX7_tell 178 = .ok (.getfield 25, 3) := by decide +kernel
theorem dX7_tell_181 : decode cX7_tell 181 = .ok (.iconst 0, 1) := by decide +kernel
theorem dX7_tell_182 : decode cX7_tell 182 = .ok (.invokestatic 184, 3) := by decide +kernel
theorem dX7_tell_185 : decode cX7_tell 185 = .ok (.aload_n 0, 1) := by decide +kernel
theorem dX7_tell_186 : decode cX7_tell 186 = .ok (.iconst 0, 1) := by decide +kernel
theorem dX7_tell_187 : decode cX7_tell 187 = .ok (.putfield 187, 3) := by decide +kernel
theorem dX7_tell_190 : decode cX7_tell 190 = .ok (.aload_n 0, 1) := by decide +kernel
theorem dX7_tell_191 : decode cX7_tell 191 = .ok (.getfield 9, 3) := by decide +kernel
theorem dX7_tell_194 : decode cX7_tell 194 = .ok (.iconst 1, 1) := by decide +kernel
theorem dX7_tell_195 : decode cX7_tell 195 = .ok (.iaload, 1) := by decide +kernel
theorem dX7_tell_196 : decode cX7_tell 196 = .ok (.ireturn, 1) := by decide +kernel
set_option maxRecDepth 100000 in
theorem pq10 : Cond.selects RX7 yX7_next yX7_next ∈ pw := pw_mem (i := 10) (by decide +kernel) rfl
set_option maxRecDepth 100000 in
theorem pq11 : Cond.selects RX7 yX7_sign yX7_sign ∈ pw := pw_mem (i := 11) (by decide +kernel) rfl
set_option maxRecDepth 100000 in
theorem pq12 : Cond.selects RX7 yX7_isRight yX7_isRight ∈ pw := pw_mem (i := 12) (by decide +kernel) rfl
set_option maxRecDepth 100000 in
theorem pq1129 : Cond.fieldLink RX7 75 "MaskTouchModel" "at" "I" ∈ pw := pw_mem (i := 1129) (by decide +kernel) rfl
set_option maxRecDepth 100000 in
theorem pq1130 : Cond.fieldLink RX7 82 "MaskTouchModel" "fault" "I" ∈ pw := pw_mem (i := 1130) (by decide +kernel) rfl
set_option maxRecDepth 100000 in
theorem pq1211 : Cond.methodLink RX7 89 yX7_next ∈ pw := pw_mem (i := 1211) (by decide +kernel) rfl
set_option maxRecDepth 100000 in
theorem pq1213 : Cond.instanceMethod yX7_next ∈ pw := pw_mem (i := 1213) (by decide +kernel) rfl
set_option maxRecDepth 100000 in
theorem pq1214 : Cond.code yX7_next cX7_next 1 (some .int) ∈ pw := pw_mem (i := 1214) (by rfl) rfl
set_option maxRecDepth 100000 in
theorem pq1215 : Cond.methodLink RX7 78 yX7_sign ∈ pw := pw_mem (i := 1215) (by decide +kernel) rfl
set_option maxRecDepth 100000 in
theorem pq1217 : Cond.instanceMethod yX7_sign ∈ pw := pw_mem (i := 1217) (by decide +kernel) rfl
set_option maxRecDepth 100000 in
theorem pq1218 : Cond.code yX7_sign cX7_sign 1 (some .int) ∈ pw := pw_mem (i := 1218) (by rfl) rfl
set_option maxRecDepth 100000 in
theorem pq1219 : Cond.methodLink RX7 85 yX7_isRight ∈ pw := pw_mem (i := 1219) (by decide +kernel) rfl
set_option maxRecDepth 100000 in
theorem pq1221 : Cond.instanceMethod yX7_isRight ∈ pw := pw_mem (i := 1221) (by decide +kernel) rfl
set_option maxRecDepth 100000 in
theorem pq1222 : Cond.code yX7_isRight cX7_isRight 1 (some .boolean) ∈ pw := pw_mem (i := 1222) (by rfl) rfl
set_option maxHeartbeats 4000000 in
set_option maxRecDepth 100000 in
theorem c_X7_sign (l : Launch) (dC : Nat → ClassId) (dI : Nat → Nat → Nat) (h0 mnw mhd mas mps msf mdt mhdd masd mpsd msfd mkp mtp mld mmd men mil mqu mbx : Nat) (sz : Nat) : Met l yX7_sign (.code yX7_sign cX7_sign 1 (some .int) :: pw) ({ frames := 0, cells := 0, slots := 0, locals := 0 }) (pc (dC, dI) [.ref h0] sz [(h0, .inr (7, [.ref mnw, .ref mhd, .ref mas, .ref mps, .ref msf, .ref mdt, .ref mhdd, .ref masd, .ref mpsd, .ref msfd, .ref mkp, .int 0, .ref mtp, .int 0, .int 0, .int (-1), .int 0, .ref mld, .int 0, .ref mmd, .ref men, .ref mil, .ref mqu, .int 0, .int 0, .ref mbx]))] []) (va_Qi (fun (r : Int32) (_ : Unit) => r = (-1)) (fun _ _ => True) (fun _ => False)) 0 0 (fun _ => False) := by
  refine Met.ofW (cc := cX7_sign) (maxL := 1) (ret := (some .int)) (by decide +kernel) rfl ?_
  intro p e s m args below meth c s₁ B hml hv
  obtain ⟨rfl, hsz, hP, hK, hD0, hN⟩ := hv
  have hx := B.exec
  have hb := B.bytes
  have hr := B.returns
  have hts := fun w (h : w ∈ pw) => atoms_spec (ws := Cond.code yX7_sign cX7_sign 1 (some .int) :: pw) B.pre w (List.mem_cons_of_mem _ h)
  have hown : s.vm.findClass RX7 = some m.cls := findClass_of_methodNamed B.named
  have hlocks := B.notSynchronized
  subst hsz
  have hD := hD0
  obtain ⟨H, hHe⟩ : ∃ H : Heap, H = s.heap := ⟨_, rfl⟩
  have hS : va_S (fun _ => False) s.heap H [] := by rw [hHe]; exact va_S.rf
  rw [← hHe] at hP
  have hl := lv_entry ([.ref h0]) (n := 1) (Nat.le_of_ble_eq_true rfl)
  rw [lg_entry_eq]
  generalize (lg_sl ([.ref h0]) ++ List.replicate (1 - (lg_sl ([.ref h0])).length) Slot.unset).toArray = ls at hl ⊢
  have hl : lv_has ls 1 [(0, .ref h0)] := hl
  rw [← hHe]
  refine lv_aload_n hx hb dX7_sign_0 rfl (lv_at hl 0 rfl) ?_
  refine va_get (D := (dC, dI)) (ci := 7) (v := .int 0) (C := RX7) (T := TX7) (N := 26) hx hb hts inX7 hown hK hP 0 rfl rfl 14 (by decide) (hts _ pq1129) (fun _ h9 => h9) rfl dX7_sign_1 ?_
  refine lv_aload_n hx hb dX7_sign_4 rfl (lv_at hl 0 rfl) ?_
  refine va_get (D := (dC, dI)) (ci := 7) (v := .int 0) (C := RX7) (T := TX7) (N := 26) hx hb hts inX7 hown hK hP 0 rfl rfl 13 (by decide) (hts _ pq1128) (fun _ h9 => h9) rfl dX7_sign_5 ?_
  refine lv_icmp_ge (tgt := 27) hx hb dX7_sign_8 (by decide) (fun c1 => ?_) (fun c1 => absurd (by decide +kernel) c1)
  refine lv_iconst (v := (-1)) hx hb dX7_sign_27 (by decide +kernel) ?_
  exact W.iret (v := (-1)) hx hb hr (fun t ht hW => ⟨⟨(-1), (), rfl, rfl, trivial⟩, hS.F ht⟩) hS.2.2 dX7_sign_28

set_option maxHeartbeats 4000000 in
set_option maxRecDepth 100000 in
theorem c_X7_next (l : Launch) (dC : Nat → ClassId) (dI : Nat → Nat → Nat) (h0 mnw mhd mas mps msf mdt mhdd masd mpsd msfd mkp mtp mld mmd men mil mqu mbx : Nat) (sz : Nat) : Met l yX7_next (.code yX7_next cX7_next 1 (some .int) :: pw) ({ frames := 1, cells := 0, slots := 0, locals := 20 }) (pc (dC, dI) [.ref h0] sz [(h0, .inr (7, [.ref mnw, .ref mhd, .ref mas, .ref mps, .ref msf, .ref mdt, .ref mhdd, .ref masd, .ref mpsd, .ref msfd, .ref mkp, .int 0, .ref mtp, .int 0, .int 0, .int (-1), .int 0, .ref mld, .int 0, .ref mmd, .ref men, .ref mil, .ref mqu, .int 0, .int 0, .ref mbx]))] []) (va_Qi (fun (r : Int32) (_ : Unit) => r = (-1)) (fun _ _ => True) (fun _ => False)) 0 0 (fun _ => False) := by
  refine Met.ofW (cc := cX7_next) (maxL := 1) (ret := (some .int)) (by decide +kernel) rfl ?_
  intro p e s m args below meth c s₁ B hml hv
  obtain ⟨rfl, hsz, hP, hK, hD0, hN⟩ := hv
  have hx := B.exec
  have hb := B.bytes
  have hr := B.returns
  have hts := fun w (h : w ∈ pw) => atoms_spec (ws := Cond.code yX7_next cX7_next 1 (some .int) :: pw) B.pre w (List.mem_cons_of_mem _ h)
  have hown : s.vm.findClass RX7 = some m.cls := findClass_of_methodNamed B.named
  have hlocks := B.notSynchronized
  subst hsz
  have hD := hD0
  obtain ⟨H, hHe⟩ : ∃ H : Heap, H = s.heap := ⟨_, rfl⟩
  have hS : va_S (fun _ => False) s.heap H [] := by rw [hHe]; exact va_S.rf
  rw [← hHe] at hP
  have hl := lv_entry ([.ref h0]) (n := 1) (Nat.le_of_ble_eq_true rfl)
  rw [lg_entry_eq]
  generalize (lg_sl ([.ref h0]) ++ List.replicate (1 - (lg_sl ([.ref h0])).length) Slot.unset).toArray = ls at hl ⊢
  have hl : lv_has ls 1 [(0, .ref h0)] := hl
  rw [← hHe]
  refine lv_aload_n hx hb dX7_next_0 rfl (lv_at hl 0 rfl) ?_
  have hPc := hP.sub (ws' := [(h0, .inr (7, [.ref mnw, .ref mhd, .ref mas, .ref mps, .ref msf, .ref mdt, .ref mhdd, .ref masd, .ref mpsd, .ref msfd, .ref mkp, .int 0, .ref mtp, .int 0, .int 0, .int (-1), .int 0, .ref mld, .int 0, .ref mmd, .ref men, .ref mil, .ref mqu, .int 0, .int 0, .ref mbx]))]) [0] rfl
  have hDc := hD.sub (ws' := [(h0, .inr (7, [.ref mnw, .ref mhd, .ref mas, .ref mps, .ref msf, .ref mdt, .ref mhdd, .ref masd, .ref mpsd, .ref msfd, .ref mkp, .int 0, .ref mtp, .int 0, .int 0, .int (-1), .int 0, .ref mld, .int 0, .ref mmd, .ref men, .ref mil, .ref mqu, .int 0, .int 0, .ref mbx]))]) [0] (by decide) rfl
  have hKc := hK.sub (tys' := []) [] rfl
  refine ro_i (va_runV (As := []) (rest := []) ⟨hx, hb, hml, hown, hts⟩ (c_X7_sign l dC dI h0 mnw mhd mas mps msf mdt mhdd masd mpsd msfd mkp mtp mld mmd men mil mqu mbx H.size  ) (cwV 0 hts (gV pq1215 pq1217 pq11 pq81 pq1218) rfl rfl rfl (by decide +kernel) ⟨(Nat.le_of_ble_eq_true rfl), (Nat.le_of_ble_eq_true rfl)⟩) (pc_V hPc hDc hKc hN (va_recv hK hP (ci := 7) (q0 := 0) rfl rfl)) rfl rfl hl.1 rfl (lv_room (Nat.le_of_ble_eq_true rfl)) dX7_next_1 ⟨(Nat.le_of_ble_eq_true rfl), (Nat.le_of_ble_eq_true rfl)⟩) hS hP (fun r1 H locs hr1 hP hS => ?_)
  subst hr1
  refine lv_bipush (v := 32) hx hb dX7_next_4 (by decide +kernel) ?_
  refine lv_icmp_ne (tgt := 22) hx hb dX7_next_6 (by decide) (fun c2 => ?_) (fun c2 => absurd c2 (by decide +kernel))
  refine lv_aload_n hx hb dX7_next_22 rfl (lv_at hl 0 rfl) ?_
  have hPc := hP.sub (ws' := [(h0, .inr (7, [.ref mnw, .ref mhd, .ref mas, .ref mps, .ref msf, .ref mdt, .ref mhdd, .ref masd, .ref mpsd, .ref msfd, .ref mkp, .int 0, .ref mtp, .int 0, .int 0, .int (-1), .int 0, .ref mld, .int 0, .ref mmd, .ref men, .ref mil, .ref mqu, .int 0, .int 0, .ref mbx]))]) [0] rfl
  have hDc := hD.sub (ws' := [(h0, .inr (7, [.ref mnw, .ref mhd, .ref mas, .ref mps, .ref msf, .ref mdt, .ref mhdd, .ref masd, .ref mpsd, .ref msfd, .ref mkp, .int 0, .ref mtp, .int 0, .int 0, .int (-1), .int 0, .ref mld, .int 0, .ref mmd, .ref men, .ref mil, .ref mqu, .int 0, .int 0, .ref mbx]))]) [0] (by decide) rfl
  have hKc := hK.sub (tys' := []) [] rfl
  refine ro_i (va_runV (As := []) (rest := []) ⟨hx, hb, hml, hown, hts⟩ (c_X7_sign l dC dI h0 mnw mhd mas mps msf mdt mhdd masd mpsd msfd mkp mtp mld mmd men mil mqu mbx H.size  ) (cwV 0 hts (gV pq1215 pq1217 pq11 pq81 pq1218) rfl rfl rfl (by decide +kernel) ⟨(Nat.le_of_ble_eq_true rfl), (Nat.le_of_ble_eq_true rfl)⟩) (pc_V hPc hDc hKc hN (va_recv hK hP (ci := 7) (q0 := 0) rfl rfl)) rfl rfl hl.1 rfl (lv_room (Nat.le_of_ble_eq_true rfl)) dX7_next_23 ⟨(Nat.le_of_ble_eq_true rfl), (Nat.le_of_ble_eq_true rfl)⟩) hS hP (fun r3 H locs hr3 hP hS => ?_)
  subst hr3
  exact W.iret (v := (-1)) hx hb hr (fun t ht hW => ⟨⟨(-1), (), rfl, rfl, trivial⟩, hS.F ht⟩) hS.2.2 dX7_next_26

set_option maxHeartbeats 4000000 in
set_option maxRecDepth 100000 in
theorem c_X7_isRight (l : Launch) (dC : Nat → ClassId) (dI : Nat → Nat → Nat) (h0 mnw mhd mas mps msf mdt mhdd masd mpsd msfd mkp mtp mld mmd men mil mqu mbx : Nat) (sz : Nat) : Met l yX7_isRight (.code yX7_isRight cX7_isRight 1 (some .boolean) :: pw) ({ frames := 0, cells := 0, slots := 0, locals := 0 }) (pc (dC, dI) [.ref h0] sz [(h0, .inr (7, [.ref mnw, .ref mhd, .ref mas, .ref mps, .ref msf, .ref mdt, .ref mhdd, .ref masd, .ref mpsd, .ref msfd, .ref mkp, .int 0, .ref mtp, .int 0, .int 0, .int (-1), .int 0, .ref mld, .int 0, .ref mmd, .ref men, .ref mil, .ref mqu, .int 0, .int 0, .ref mbx]))] []) (va_Qi (fun (r : Int32) (_ : Unit) => r = 1) (fun _ _ => True) (fun _ => False)) 0 0 (fun _ => False) := by
  refine Met.ofW (cc := cX7_isRight) (maxL := 1) (ret := (some .boolean)) (by decide +kernel) rfl ?_
  intro p e s m args below meth c s₁ B hml hv
  obtain ⟨rfl, hsz, hP, hK, hD0, hN⟩ := hv
  have hx := B.exec
  have hb := B.bytes
  have hr := B.returns
  have hts := fun w (h : w ∈ pw) => atoms_spec (ws := Cond.code yX7_isRight cX7_isRight 1 (some .boolean) :: pw) B.pre w (List.mem_cons_of_mem _ h)
  have hown : s.vm.findClass RX7 = some m.cls := findClass_of_methodNamed B.named
  have hlocks := B.notSynchronized
  subst hsz
  have hD := hD0
  obtain ⟨H, hHe⟩ : ∃ H : Heap, H = s.heap := ⟨_, rfl⟩
  have hS : va_S (fun _ => False) s.heap H [] := by rw [hHe]; exact va_S.rf
  rw [← hHe] at hP
  have hl := lv_entry ([.ref h0]) (n := 1) (Nat.le_of_ble_eq_true rfl)
  rw [lg_entry_eq]
  generalize (lg_sl ([.ref h0]) ++ List.replicate (1 - (lg_sl ([.ref h0])).length) Slot.unset).toArray = ls at hl ⊢
  have hl : lv_has ls 1 [(0, .ref h0)] := hl
  rw [← hHe]
  refine lv_aload_n hx hb dX7_isRight_0 rfl (lv_at hl 0 rfl) ?_
  refine va_get (D := (dC, dI)) (ci := 7) (v := .int (-1)) (C := RX7) (T := TX7) (N := 26) hx hb hts inX7 hown hK hP 0 rfl rfl 15 (by decide) (hts _ pq1130) (fun _ h9 => h9) rfl dX7_isRight_1 ?_
  refine lv_iconst (v := (-1)) hx hb dX7_isRight_4 (by decide +kernel) ?_
  refine lv_icmp_ne (tgt := 12) hx hb dX7_isRight_5 (by decide) (fun c1 => absurd (by decide +kernel) c1) (fun c1 => ?_)
  refine lv_iconst (v := 1) hx hb dX7_isRight_8 (by decide +kernel) ?_
  refine lv_goto (tgt := 13) hx hb dX7_isRight_9 (by decide) ?_
  exact W.zret (v := 1) hx hb hr (by decide +kernel) (fun t ht hW => ⟨⟨1, (), rfl, rfl, trivial⟩, hS.F ht⟩) hS.2.2 dX7_isRight_13

set_option maxHeartbeats 4000000 in
set_option maxRecDepth 100000 in
theorem c_X7_tell (l : Launch) (dC : Nat → ClassId) (dI : Nat → Nat → Nat) (h0 mnw mhd mas mps msf mdt mhdd masd mpsd msfd mkp mtp mld mmd men mil mqu mbx : Nat) (kI2 kJ2 kI kJ : ClassId) (sz : Nat) : Met l yX7_tell (.code yX7_tell cX7_tell 2 (some .int) :: pw) ({ frames := 2, cells := 0, slots := 0, locals := 40 }) (pc (dC, dI) [.ref h0] sz [(h0, .inr (7, [.ref mnw, .ref mhd, .ref mas, .ref mps, .ref msf, .ref mdt, .ref mhdd, .ref masd, .ref mpsd, .ref msfd, .ref mkp, .int 0, .ref mtp, .int 0, .int 0, .int 0, .int 0, .ref mld, .int 0, .ref mmd, .ref men, .ref mil, .ref mqu, .int 0, .int 0, .ref mbx])), (mhd, .inl (kI2, 99, .inl (fun _ => 0))), (mhdd, .inl (kJ2, 640, .inr (.inl (fun _ => 0)))), (mnw, .inl (kI, 99, .inl (fun _ => 0))), (mdt, .inl (kJ, 640, .inr (.inl (fun _ => 0))))] [(kI2, .int), (kJ2, .long), (kI, .int), (kJ, .long)]) (va_Qi (fun (r : Int32) (_ : Unit) => r = 0) (fun _ _ => True) (va_A [(h0, .inr (7, [.ref mnw, .ref mhd, .ref mas, .ref mps, .ref msf, .ref mdt, .ref mhdd, .ref masd, .ref mpsd, .ref msfd, .ref mkp, .int 0, .ref mtp, .int 0, .int 0, .int 0, .int 0, .ref mld, .int 0, .ref mmd, .ref men, .ref mil, .ref mqu, .int 0, .int 0, .ref mbx])), (mhd, .inl (kI2, 99, .inl (fun _ => 0))), (mhdd, .inl (kJ2, 640, .inr (.inl (fun _ => 0)))), (mnw, .inl (kI, 99, .inl (fun _ => 0))), (mdt, .inl (kJ, 640, .inr (.inl (fun _ => 0))))] sz)) 0 0 (va_A [(h0, .inr (7, [.ref mnw, .ref mhd, .ref mas, .ref mps, .ref msf, .ref mdt, .ref mhdd, .ref masd, .ref mpsd, .ref msfd, .ref mkp, .int 0, .ref mtp, .int 0, .int 0, .int 0, .int 0, .ref mld, .int 0, .ref mmd, .ref men, .ref mil, .ref mqu, .int 0, .int 0, .ref mbx])), (mhd, .inl (kI2, 99, .inl (fun _ => 0))), (mhdd, .inl (kJ2, 640, .inr (.inl (fun _ => 0)))), (mnw, .inl (kI, 99, .inl (fun _ => 0))), (mdt, .inl (kJ, 640, .inr (.inl (fun _ => 0))))] sz) := by
  refine Met.ofW (cc := cX7_tell) (maxL := 2) (ret := (some .int)) (by decide +kernel) rfl ?_
  intro p e s m args below meth c s₁ B hml hv
  obtain ⟨rfl, hsz, hP, hK, hD0, hN⟩ := hv
  have hx := B.exec
  have hb := B.bytes
  have hr := B.returns
  have hts := fun w (h : w ∈ pw) => atoms_spec (ws := Cond.code yX7_tell cX7_tell 2 (some .int) :: pw) B.pre w (List.mem_cons_of_mem _ h)
  have hown : s.vm.findClass RX7 = some m.cls := findClass_of_methodNamed B.named
  have hlocks := B.notSynchronized
  subst hsz
  have hD := hD0.self (sz := s.heap.size)
  generalize hAe : va_A [(h0, .inr (7, [.ref mnw, .ref mhd, .ref mas, .ref mps, .ref msf, .ref mdt, .ref mhdd, .ref masd, .ref mpsd, .ref msfd, .ref mkp, .int 0, .ref mtp, .int 0, .int 0, .int 0, .int 0, .ref mld, .int 0, .ref mmd, .ref men, .ref mil, .ref mqu, .int 0, .int 0, .ref mbx])), (mhd, .inl (kI2, 99, .inl (fun _ => 0))), (mhdd, .inl (kJ2, 640, .inr (.inl (fun _ => 0)))), (mnw, .inl (kI, 99, .inl (fun _ => 0))), (mdt, .inl (kJ, 640, .inr (.inl (fun _ => 0))))] s.heap.size = A at hD ⊢
  have hA : ∀ q : Nat, s.heap.size ≤ q → A q := fun q h => by rw [← hAe]; exact Or.inr h
  obtain ⟨H, hHe⟩ : ∃ H : Heap, H = s.heap := ⟨_, rfl⟩
  have hS : va_S A s.heap H [] := by rw [hHe]; exact va_S.rf
  rw [← hHe] at hP
  have hl := lv_entry ([.ref h0]) (n := 2) (Nat.le_of_ble_eq_true rfl)
  rw [lg_entry_eq]
  generalize (lg_sl ([.ref h0]) ++ List.replicate (2 - (lg_sl ([.ref h0])).length) Slot.unset).toArray = ls at hl ⊢
  have hl : lv_has ls 2 [(0, .ref h0)] := hl
  rw [← hHe]
  refine lv_aload_n hx hb dX7_tell_0 rfl (lv_at hl 0 rfl) ?_
  refine lv_iconst (v := 0) hx hb dX7_tell_1 (by decide +kernel) ?_
  refine va_put (D := (dC, dI)) (ci := 7) (v := .int 0) (ty := tyX7 14) (C := RX7) (T := TX7) (N := 26) hx hb hts inX7 tyX7 tyX7_ok nmX7 hown hK hP hD hS 0 rfl rfl 14 (by decide) (hts _ pq1129) (fun _ h9 => h9) rfl (by decide +kernel) rfl rfl (Nat.le_of_ble_eq_true rfl) dX7_tell_2 (fun H locs hP hD hS => ?_)
  have hP : va_P (dC, dI) vwCl [(h0, .inr (7, [.ref mnw, .ref mhd, .ref mas, .ref mps, .ref msf, .ref mdt, .ref mhdd, .ref masd, .ref mpsd, .ref msfd, .ref mkp, .int 0, .ref mtp, .int 0, .int 0, .int 0, .int 0, .ref mld, .int 0, .ref mmd, .ref men, .ref mil, .ref mqu, .int 0, .int 0, .ref mbx])), (mhd, .inl (kI2, 99, .inl (fun _ => 0))), (mhdd, .inl (kJ2, 640, .inr (.inl (fun _ => 0)))), (mnw, .inl (kI, 99, .inl (fun _ => 0))), (mdt, .inl (kJ, 640, .inr (.inl (fun _ => 0))))] H := hP
  have hD : va_D A [(h0, .inr (7, [.ref mnw, .ref mhd, .ref mas, .ref mps, .ref msf, .ref mdt, .ref mhdd, .ref masd, .ref mpsd, .ref msfd, .ref mkp, .int 0, .ref mtp, .int 0, .int 0, .int 0, .int 0, .ref mld, .int 0, .ref mmd, .ref men, .ref mil, .ref mqu, .int 0, .int 0, .ref mbx])), (mhd, .inl (kI2, 99, .inl (fun _ => 0))), (mhdd, .inl (kJ2, 640, .inr (.inl (fun _ => 0)))), (mnw, .inl (kI, 99, .inl (fun _ => 0))), (mdt, .inl (kJ, 640, .inr (.inl (fun _ => 0))))] := hD
  refine lv_aload_n hx hb dX7_tell_5 rfl (lv_at hl 0 rfl) ?_
  refine lv_iconst (v := (-1)) hx hb dX7_tell_6 (by decide +kernel) ?_
  refine va_put (D := (dC, dI)) (ci := 7) (v := .int (-1)) (ty := tyX7 15) (C := RX7) (T := TX7) (N := 26) hx hb hts inX7 tyX7 tyX7_ok nmX7 hown hK hP hD hS 0 rfl rfl 15 (by decide) (hts _ pq1130) (fun _ h9 => h9) rfl (by decide +kernel) rfl rfl (Nat.le_of_ble_eq_true rfl) dX7_tell_7 (fun H locs hP hD hS => ?_)
  have hP : va_P (dC, dI) vwCl [(h0, .inr (7, [.ref mnw, .ref mhd, .ref mas, .ref mps, .ref msf, .ref mdt, .ref mhdd, .ref masd, .ref mpsd, .ref msfd, .ref mkp, .int 0, .ref mtp, .int 0, .int 0, .int (-1), .int 0, .ref mld, .int 0, .ref mmd, .ref men, .ref mil, .ref mqu, .int 0, .int 0, .ref mbx])), (mhd, .inl (kI2, 99, .inl (fun _ => 0))), (mhdd, .inl (kJ2, 640, .inr (.inl (fun _ => 0)))), (mnw, .inl (kI, 99, .inl (fun _ => 0))), (mdt, .inl (kJ, 640, .inr (.inl (fun _ => 0))))] H := hP
  have hD : va_D A [(h0, .inr (7, [.ref mnw, .ref mhd, .ref mas, .ref mps, .ref msf, .ref mdt, .ref mhdd, .ref masd, .ref mpsd, .ref msfd, .ref mkp, .int 0, .ref mtp, .int 0, .int 0, .int (-1), .int 0, .ref mld, .int 0, .ref mmd, .ref men, .ref mil, .ref mqu, .int 0, .int 0, .ref mbx])), (mhd, .inl (kI2, 99, .inl (fun _ => 0))), (mhdd, .inl (kJ2, 640, .inr (.inl (fun _ => 0)))), (mnw, .inl (kI, 99, .inl (fun _ => 0))), (mdt, .inl (kJ, 640, .inr (.inl (fun _ => 0))))] := hD
  refine lv_iconst (v := 0) hx hb dX7_tell_10 (by decide +kernel) ?_
  refine lv_istore_n (lv' := [(1, .int 0), (0, .ref h0)]) hx hb dX7_tell_11 rfl hl (by decide) rfl (fun ls hl => ?_)
  refine namedW (fun R Q hR hQ => ?_)
  refine loopW (α := Nat) (I := fun j ls H lo => j ≤ 99 ∧ va_P (dC, dI) vwCl [(h0, .inr (7, [.ref mnw, .ref mhd, .ref mas, .ref mps, .ref msf, .ref mdt, .ref mhdd, .ref masd, .ref mpsd, .ref msfd, .ref mkp, .int 0, .ref mtp, .int 0, .int 0, .int (-1), .int 0, .ref mld, .int 0, .ref mmd, .ref men, .ref mil, .ref mqu, .int 0, .int 0, .ref mbx])), (mhd, .inl (kI2, 99, .inl (fun _ => 0))), (mhdd, .inl (kJ2, 640, .inr (.inl (fun _ => 0)))), (mnw, .inl (kI, 99, .inl (fun _ => 0))), (mdt, .inl (kJ, 640, .inr (.inl (fun _ => 0))))] H ∧ va_D A [(h0, .inr (7, [.ref mnw, .ref mhd, .ref mas, .ref mps, .ref msf, .ref mdt, .ref mhdd, .ref masd, .ref mpsd, .ref msfd, .ref mkp, .int 0, .ref mtp, .int 0, .int 0, .int (-1), .int 0, .ref mld, .int 0, .ref mmd, .ref men, .ref mil, .ref mqu, .int 0, .int 0, .ref mbx])), (mhd, .inl (kI2, 99, .inl (fun _ => 0))), (mhdd, .inl (kJ2, 640, .inr (.inl (fun _ => 0)))), (mnw, .inl (kI, 99, .inl (fun _ => 0))), (mdt, .inl (kJ, 640, .inr (.inl (fun _ => 0))))] ∧ va_S A s.heap H lo ∧ lv_has ls 2 [(1, .int (nI j)), (0, .ref h0)]) (G := fun j ls H lo => W p l e R s m (([.ref h0] : List Value).toArray) below meth c H lo 0 0 Q (F0 m 12 ls [])) (mu := fun j => 99 - j) ?_ 0 ls H _ ⟨Nat.zero_le _, hP, hD, hS, hl⟩
  intro j ls H locs hI ihj
  subst hR; subst hQ
  obtain ⟨hjj, hP, hD, hS, hl⟩ := hI
  have hl : lv_has ls 2 [(1, .int (nI j)), (0, .ref h0)] := hl
  refine lv_iload_n hx hb dX7_tell_12 rfl (lv_at hl 0 rfl) ?_
  refine lv_bipush (v := 99) hx hb dX7_tell_13 (by decide +kernel) ?_
  refine lv_icmp_ge (tgt := 31) hx hb dX7_tell_15 (by decide) (fun c1 => ?_) (fun c1 => ?_)
  · refine lv_iconst (v := 0) hx hb dX7_tell_31 (by decide +kernel) ?_
    refine lv_istore_n (lv' := [(1, .int 0), (0, .ref h0)]) hx hb dX7_tell_32 rfl hl (by decide) rfl (fun ls hl => ?_)
    refine namedW (fun R Q hR hQ => ?_)
    refine loopW (α := Nat) (I := fun i ls H lo => i ≤ 640 ∧ va_P (dC, dI) vwCl [(h0, .inr (7, [.ref mnw, .ref mhd, .ref mas, .ref mps, .ref msf, .ref mdt, .ref mhdd, .ref masd, .ref mpsd, .ref msfd, .ref mkp, .int 0, .ref mtp, .int 0, .int 0, .int (-1), .int 0, .ref mld, .int 0, .ref mmd, .ref men, .ref mil, .ref mqu, .int 0, .int 0, .ref mbx])), (mhd, .inl (kI2, 99, .inl (fun _ => 0))), (mhdd, .inl (kJ2, 640, .inr (.inl (fun _ => 0)))), (mnw, .inl (kI, 99, .inl (fun _ => 0))), (mdt, .inl (kJ, 640, .inr (.inl (fun _ => 0))))] H ∧ va_D A [(h0, .inr (7, [.ref mnw, .ref mhd, .ref mas, .ref mps, .ref msf, .ref mdt, .ref mhdd, .ref masd, .ref mpsd, .ref msfd, .ref mkp, .int 0, .ref mtp, .int 0, .int 0, .int (-1), .int 0, .ref mld, .int 0, .ref mmd, .ref men, .ref mil, .ref mqu, .int 0, .int 0, .ref mbx])), (mhd, .inl (kI2, 99, .inl (fun _ => 0))), (mhdd, .inl (kJ2, 640, .inr (.inl (fun _ => 0)))), (mnw, .inl (kI, 99, .inl (fun _ => 0))), (mdt, .inl (kJ, 640, .inr (.inl (fun _ => 0))))] ∧ va_S A s.heap H lo ∧ lv_has ls 2 [(1, .int (nI i)), (0, .ref h0)]) (G := fun i ls H lo => W p l e R s m (([.ref h0] : List Value).toArray) below meth c H lo 0 0 Q (F0 m 33 ls [])) (mu := fun i => 640 - i) ?_ 0 ls H _ ⟨Nat.zero_le _, hP, hD, hS, hl⟩
    intro i ls H locs hI ihi
    subst hR; subst hQ
    obtain ⟨hji, hP, hD, hS, hl⟩ := hI
    have hl : lv_has ls 2 [(1, .int (nI i)), (0, .ref h0)] := hl
    refine lv_iload_n hx hb dX7_tell_33 rfl (lv_at hl 0 rfl) ?_
    refine lv_sipush (v := 640) hx hb dX7_tell_34 (by decide +kernel) ?_
    refine lv_icmp_ge (tgt := 53) hx hb dX7_tell_37 (by decide) (fun c2 => ?_) (fun c2 => ?_)
    · refine lv_aload_n hx hb dX7_tell_53 rfl (lv_at hl 1 rfl) ?_
      have hPc := hP.sub (ws' := [(h0, .inr (7, [.ref mnw, .ref mhd, .ref mas, .ref mps, .ref msf, .ref mdt, .ref mhdd, .ref masd, .ref mpsd, .ref msfd, .ref mkp, .int 0, .ref mtp, .int 0, .int 0, .int (-1), .int 0, .ref mld, .int 0, .ref mmd, .ref men, .ref mil, .ref mqu, .int 0, .int 0, .ref mbx]))]) [0] rfl
      have hDc := hD.sub (ws' := [(h0, .inr (7, [.ref mnw, .ref mhd, .ref mas, .ref mps, .ref msf, .ref mdt, .ref mhdd, .ref masd, .ref mpsd, .ref msfd, .ref mkp, .int 0, .ref mtp, .int 0, .int 0, .int (-1), .int 0, .ref mld, .int 0, .ref mmd, .ref men, .ref mil, .ref mqu, .int 0, .int 0, .ref mbx]))]) [0] (by decide) rfl
      have hKc := hK.sub (tys' := []) [] rfl
      refine ro_i (va_runV (As := []) (rest := []) ⟨hx, hb, hml, hown, hts⟩ (c_X7_next l dC dI h0 mnw mhd mas mps msf mdt mhdd masd mpsd msfd mkp mtp mld mmd men mil mqu mbx H.size  ) (cwV 0 hts (gV pq1211 pq1213 pq10 pq81 pq1214) rfl rfl rfl (by decide +kernel) ⟨(Nat.le_of_ble_eq_true rfl), (Nat.le_of_ble_eq_true rfl)⟩) (pc_V hPc hDc hKc hN (va_recv hK hP (ci := 7) (q0 := 0) rfl rfl)) rfl rfl hl.1 rfl (lv_room (Nat.le_of_ble_eq_true rfl)) dX7_tell_54 ⟨(Nat.le_of_ble_eq_true rfl), (Nat.le_of_ble_eq_true rfl)⟩) hS hP (fun r3 H locs hr3 hP hS => ?_)
      subst hr3
      refine lv_iconst (v := (-1)) hx hb dX7_tell_57 (by decide +kernel) ?_
      refine lv_icmp_eq (tgt := 65) hx hb dX7_tell_58 (by decide) (fun c4 => ?_) (fun c4 => absurd (by decide +kernel) c4)
      refine lv_iconst (v := 0) hx hb dX7_tell_65 (by decide +kernel) ?_
      refine lv_istore_n (lv' := [(1, .int 0), (0, .ref h0)]) hx hb dX7_tell_66 rfl hl (by decide) rfl (fun ls hl => ?_)
      refine lv_iload_n hx hb dX7_tell_67 rfl (lv_at hl 0 rfl) ?_
      refine lv_if_eq (tgt := 120) hx hb dX7_tell_68 (by decide) (fun c5 => ?_) (fun c5 => absurd (by decide +kernel) c5)
      refine lv_aload_n hx hb dX7_tell_120 rfl (lv_at hl 1 rfl) ?_
      have hPc := hP.sub (ws' := [(h0, .inr (7, [.ref mnw, .ref mhd, .ref mas, .ref mps, .ref msf, .ref mdt, .ref mhdd, .ref masd, .ref mpsd, .ref msfd, .ref mkp, .int 0, .ref mtp, .int 0, .int 0, .int (-1), .int 0, .ref mld, .int 0, .ref mmd, .ref men, .ref mil, .ref mqu, .int 0, .int 0, .ref mbx]))]) [0] rfl
      have hDc := hD.sub (ws' := [(h0, .inr (7, [.ref mnw, .ref mhd, .ref mas, .ref mps, .ref msf, .ref mdt, .ref mhdd, .ref masd, .ref mpsd, .ref msfd, .ref mkp, .int 0, .ref mtp, .int 0, .int 0, .int (-1), .int 0, .ref mld, .int 0, .ref mmd, .ref men, .ref mil, .ref mqu, .int 0, .int 0, .ref mbx]))]) [0] (by decide) rfl
      have hKc := hK.sub (tys' := []) [] rfl
      refine ro_i (va_runV (As := []) (rest := []) ⟨hx, hb, hml, hown, hts⟩ (c_X7_isRight l dC dI h0 mnw mhd mas mps msf mdt mhdd masd mpsd msfd mkp mtp mld mmd men mil mqu mbx H.size  ) (cwV 0 hts (gV pq1219 pq1221 pq12 pq81 pq1222) rfl rfl rfl (by decide +kernel) ⟨(Nat.le_of_ble_eq_true rfl), (Nat.le_of_ble_eq_true rfl)⟩) (pc_V hPc hDc hKc hN (va_recv hK hP (ci := 7) (q0 := 0) rfl rfl)) rfl rfl hl.1 rfl (lv_room (Nat.le_of_ble_eq_true rfl)) dX7_tell_121 ⟨(Nat.le_of_ble_eq_true rfl), (Nat.le_of_ble_eq_true rfl)⟩) hS hP (fun r6 H locs hr6 hP hS => ?_)
      subst hr6
      refine lv_if_eq (tgt := 144) hx hb dX7_tell_124 (by decide) (fun c7 => absurd c7 (by decide +kernel)) (fun c7 => ?_)
      refine lv_aload_n hx hb dX7_tell_127 rfl (lv_at hl 1 rfl) ?_
      have hPc := hP.sub (ws' := [(h0, .inr (7, [.ref mnw, .ref mhd, .ref mas, .ref mps, .ref msf, .ref mdt, .ref mhdd, .ref masd, .ref mpsd, .ref msfd, .ref mkp, .int 0, .ref mtp, .int 0, .int 0, .int (-1), .int 0, .ref mld, .int 0, .ref mmd, .ref men, .ref mil, .ref mqu, .int 0, .int 0, .ref mbx]))]) [0] rfl
      have hDc := hD.sub (ws' := [(h0, .inr (7, [.ref mnw, .ref mhd, .ref mas, .ref mps, .ref msf, .ref mdt, .ref mhdd, .ref masd, .ref mpsd, .ref msfd, .ref mkp, .int 0, .ref mtp, .int 0, .int 0, .int (-1), .int 0, .ref mld, .int 0, .ref mmd, .ref men, .ref mil, .ref mqu, .int 0, .int 0, .ref mbx]))]) [0] (by decide) rfl
      have hKc := hK.sub (tys' := []) [] rfl
      refine ro_i (va_runV (As := []) (rest := []) ⟨hx, hb, hml, hown, hts⟩ (c_X7_next l dC dI h0 mnw mhd mas mps msf mdt mhdd masd mpsd msfd mkp mtp mld mmd men mil mqu mbx H.size  ) (cwV 0 hts (gV pq1211 pq1213 pq10 pq81 pq1214) rfl rfl rfl (by decide +kernel) ⟨(Nat.le_of_ble_eq_true rfl), (Nat.le_of_ble_eq_true rfl)⟩) (pc_V hPc hDc hKc hN (va_recv hK hP (ci := 7) (q0 := 0) rfl rfl)) rfl rfl hl.1 rfl (lv_room (Nat.le_of_ble_eq_true rfl)) dX7_tell_128 ⟨(Nat.le_of_ble_eq_true rfl), (Nat.le_of_ble_eq_true rfl)⟩) hS hP (fun r8 H locs hr8 hP hS => ?_)
      subst hr8
      refine lv_iconst (v := (-1)) hx hb dX7_tell_131 (by decide +kernel) ?_
      refine lv_icmp_eq (tgt := 144) hx hb dX7_tell_132 (by decide) (fun c9 => ?_) (fun c9 => absurd (by decide +kernel) c9)
      refine lv_aload_n hx hb dX7_tell_144 rfl (lv_at hl 1 rfl) ?_
      refine lv_iconst (v := 0) hx hb dX7_tell_145 (by decide +kernel) ?_
      refine va_put (D := (dC, dI)) (ci := 7) (v := .int 0) (ty := tyX7 13) (C := RX7) (T := TX7) (N := 26) hx hb hts inX7 tyX7 tyX7_ok nmX7 hown hK hP hD hS 0 rfl rfl 13 (by decide) (hts _ pq1128) (fun _ h9 => h9) rfl (by decide +kernel) rfl rfl (Nat.le_of_ble_eq_true rfl) dX7_tell_146 (fun H locs hP hD hS => ?_)
      have hP : va_P (dC, dI) vwCl [(h0, .inr (7, [.ref mnw, .ref mhd, .ref mas, .ref mps, .ref msf, .ref mdt, .ref mhdd, .ref masd, .ref mpsd, .ref msfd, .ref mkp, .int 0, .ref mtp, .int 0, .int 0, .int (-1), .int 0, .ref mld, .int 0, .ref mmd, .ref men, .ref mil, .ref mqu, .int 0, .int 0, .ref mbx])), (mhd, .inl (kI2, 99, .inl (fun _ => 0))), (mhdd, .inl (kJ2, 640, .inr (.inl (fun _ => 0)))), (mnw, .inl (kI, 99, .inl (fun _ => 0))), (mdt, .inl (kJ, 640, .inr (.inl (fun _ => 0))))] H := hP
      have hD : va_D A [(h0, .inr (7, [.ref mnw, .ref mhd, .ref mas, .ref mps, .ref msf, .ref mdt, .ref mhdd, .ref masd, .ref mpsd, .ref msfd, .ref mkp, .int 0, .ref mtp, .int 0, .int 0, .int (-1), .int 0, .ref mld, .int 0, .ref mmd, .ref men, .ref mil, .ref mqu, .int 0, .int 0, .ref mbx])), (mhd, .inl (kI2, 99, .inl (fun _ => 0))), (mhdd, .inl (kJ2, 640, .inr (.inl (fun _ => 0)))), (mnw, .inl (kI, 99, .inl (fun _ => 0))), (mdt, .inl (kJ, 640, .inr (.inl (fun _ => 0))))] := hD
      refine lv_aload_n hx hb dX7_tell_149 rfl (lv_at hl 1 rfl) ?_
      have hPc := hP.sub (ws' := [(h0, .inr (7, [.ref mnw, .ref mhd, .ref mas, .ref mps, .ref msf, .ref mdt, .ref mhdd, .ref masd, .ref mpsd, .ref msfd, .ref mkp, .int 0, .ref mtp, .int 0, .int 0, .int (-1), .int 0, .ref mld, .int 0, .ref mmd, .ref men, .ref mil, .ref mqu, .int 0, .int 0, .ref mbx]))]) [0] rfl
      have hDc := hD.sub (ws' := [(h0, .inr (7, [.ref mnw, .ref mhd, .ref mas, .ref mps, .ref msf, .ref mdt, .ref mhdd, .ref masd, .ref mpsd, .ref msfd, .ref mkp, .int 0, .ref mtp, .int 0, .int 0, .int (-1), .int 0, .ref mld, .int 0, .ref mmd, .ref men, .ref mil, .ref mqu, .int 0, .int 0, .ref mbx]))]) [0] (by decide) rfl
      have hKc := hK.sub (tys' := []) [] rfl
      refine ro_i (va_runV (As := []) (rest := []) ⟨hx, hb, hml, hown, hts⟩ (c_X7_isRight l dC dI h0 mnw mhd mas mps msf mdt mhdd masd mpsd msfd mkp mtp mld mmd men mil mqu mbx H.size  ) (cwV 0 hts (gV pq1219 pq1221 pq12 pq81 pq1222) rfl rfl rfl (by decide +kernel) ⟨(Nat.le_of_ble_eq_true rfl), (Nat.le_of_ble_eq_true rfl)⟩) (pc_V hPc hDc hKc hN (va_recv hK hP (ci := 7) (q0 := 0) rfl rfl)) rfl rfl hl.1 rfl (lv_room (Nat.le_of_ble_eq_true rfl)) dX7_tell_150 ⟨(Nat.le_of_ble_eq_true rfl), (Nat.le_of_ble_eq_true rfl)⟩) hS hP (fun r10 H locs hr10 hP hS => ?_)
      subst hr10
      refine lv_if_ne (tgt := 164) hx hb dX7_tell_153 (by decide) (fun c11 => ?_) (fun c11 => absurd c11 (by decide +kernel))
      refine lv_aload_n hx hb dX7_tell_164 rfl (lv_at hl 1 rfl) ?_
      refine va_get (D := (dC, dI)) (ci := 7) (v := .ref mhd) (C := RX7) (T := TX7) (N := 26) hx hb hts inX7 hown hK hP 0 rfl rfl 1 (by decide) (hts _ pq1116) (fun _ h9 => h9) rfl dX7_tell_165 ?_
      refine lv_aload_n hx hb dX7_tell_168 rfl (lv_at hl 1 rfl) ?_
      refine va_get (D := (dC, dI)) (ci := 7) (v := .ref mhdd) (C := RX7) (T := TX7) (N := 26) hx hb hts inX7 hown hK hP 0 rfl rfl 6 (by decide) (hts _ pq1121) (fun _ h9 => h9) rfl dX7_tell_169 ?_
      refine lv_iconst (v := 0) hx hb dX7_tell_172 (by decide +kernel) ?_
      refine lv_aload_n hx hb dX7_tell_173 rfl (lv_at hl 1 rfl) ?_
      refine va_get (D := (dC, dI)) (ci := 7) (v := .ref mnw) (C := RX7) (T := TX7) (N := 26) hx hb hts inX7 hown hK hP 0 rfl rfl 0 (by decide) (hts _ pq1115) (fun _ h9 => h9) rfl dX7_tell_174 ?_
      refine lv_aload_n hx hb dX7_tell_177 rfl (lv_at hl 1 rfl) ?_
      refine va_get (D := (dC, dI)) (ci := 7) (v := .ref mdt) (C := RX7) (T := TX7) (N := 26) hx hb hts inX7 hown hK hP 0 rfl rfl 5 (by decide) (hts _ pq1120) (fun _ h9 => h9) rfl dX7_tell_178 ?_
      refine lv_iconst (v := 0) hx hb dX7_tell_181 (by decide +kernel) ?_
      have hPc := hP.sub (ws' := [(mhd, .inl (kI2, 99, .inl (fun _ => 0))), (mhdd, .inl (kJ2, 640, .inr (.inl (fun _ => 0)))), (mnw, .inl (kI, 99, .inl (fun _ => 0))), (mdt, .inl (kJ, 640, .inr (.inl (fun _ => 0))))]) [1, 2, 3, 4] rfl
      have hDc := hD.sub (ws' := [(mhd, .inl (kI2, 99, .inl (fun _ => 0))), (mhdd, .inl (kJ2, 640, .inr (.inl (fun _ => 0)))), (mnw, .inl (kI, 99, .inl (fun _ => 0))), (mdt, .inl (kJ, 640, .inr (.inl (fun _ => 0))))]) [1, 2, 3, 4] (by decide) rfl
      have hKc := hK.sub (tys' := [(kI2, .int), (kJ2, .long), (kI, .int), (kJ, .long)]) [0, 1, 2, 3] rfl
      have hFc := va_free (wc := [(mhd, .inl (kI2, 99, .inl (fun _ => 0))), (mhdd, .inl (kJ2, 640, .inr (.inl (fun _ => 0)))), (mnw, .inl (kI, 99, .inl (fun _ => 0))), (mdt, .inl (kJ, 640, .inr (.inl (fun _ => 0))))]) hD hS hA [1, 2, 3, 4] rfl
      refine va_callv (va_runS (As := [.ref mhd, .ref mhdd, .int 0, .ref mnw, .ref mdt, .int 0]) (rest := []) ⟨hx, hb, hml, hown, hts⟩ (c_X7_moves_0 l dC dI mhd mhdd mnw mdt kI2 kJ2 kI kJ H.size 99 640 ((by decide)) ((by decide))) (va_cwS 6 hts (gS pq1291 pq1292 pq81 pq1293) rfl rfl rfl (by decide +kernel) ⟨(Nat.le_of_ble_eq_true rfl), (Nat.le_of_ble_eq_true rfl)⟩) (pc_S hPc hDc hKc hN) rfl rfl hl.1 rfl (lv_room (Nat.le_of_ble_eq_true rfl)) dX7_tell_182 ⟨(Nat.le_of_ble_eq_true rfl), (Nat.le_of_ble_eq_true rfl)⟩) hS (fun q _ h => hFc q h) hFc (fun u t H1 locs ht hvm hw hB hz1 hk1 hS => ?_)
      obtain ⟨hP1, hK1, hD1⟩ := hB
      rw [ht] at hP1
      have hK1 := va_K.moved hvm.symm hK1
      obtain ⟨hP, hD⟩ := va_join (wr := [(h0, .inr (7, [.ref mnw, .ref mhd, .ref mas, .ref mps, .ref msf, .ref mdt, .ref mhdd, .ref masd, .ref mpsd, .ref msfd, .ref mkp, .int 0, .ref mtp, .int 0, .int 0, .int (-1), .int 0, .ref mld, .int 0, .ref mmd, .ref men, .ref mil, .ref mqu, .int 0, .int 0, .ref mbx]))]) (w1 := [(mhd, .inl (kI2, 99, .inl (fun _ => 0))), (mhdd, .inl (kJ2, 640, .inr (.inl (fun _ => 0)))), (mnw, .inl (kI, 99, .inl (fun _ => 0))), (mdt, .inl (kJ, 640, .inr (.inl (fun _ => 0))))]) hP hD [1, 2, 3, 4] [0] rfl rfl (by decide) (by decide) hk1 hFc hP1 hD1
      generalize H1 = H at hP hS ⊢
      have hP : va_P (dC, dI) vwCl [(h0, .inr (7, [.ref mnw, .ref mhd, .ref mas, .ref mps, .ref msf, .ref mdt, .ref mhdd, .ref masd, .ref mpsd, .ref msfd, .ref mkp, .int 0, .ref mtp, .int 0, .int 0, .int (-1), .int 0, .ref mld, .int 0, .ref mmd, .ref men, .ref mil, .ref mqu, .int 0, .int 0, .ref mbx])), (mhd, .inl (kI2, 99, .inl (fun _ => 0))), (mhdd, .inl (kJ2, 640, .inr (.inl (fun _ => 0)))), (mnw, .inl (kI, 99, .inl (fun _ => 0))), (mdt, .inl (kJ, 640, .inr (.inl (fun _ => 0))))] H := hP
      have hD : va_D A [(h0, .inr (7, [.ref mnw, .ref mhd, .ref mas, .ref mps, .ref msf, .ref mdt, .ref mhdd, .ref masd, .ref mpsd, .ref msfd, .ref mkp, .int 0, .ref mtp, .int 0, .int 0, .int (-1), .int 0, .ref mld, .int 0, .ref mmd, .ref men, .ref mil, .ref mqu, .int 0, .int 0, .ref mbx])), (mhd, .inl (kI2, 99, .inl (fun _ => 0))), (mhdd, .inl (kJ2, 640, .inr (.inl (fun _ => 0)))), (mnw, .inl (kI, 99, .inl (fun _ => 0))), (mdt, .inl (kJ, 640, .inr (.inl (fun _ => 0))))] := hD
      refine lv_aload_n hx hb dX7_tell_185 rfl (lv_at hl 1 rfl) ?_
      refine lv_iconst (v := 0) hx hb dX7_tell_186 (by decide +kernel) ?_
      refine va_put (D := (dC, dI)) (ci := 7) (v := .int 0) (ty := tyX7 11) (C := RX7) (T := TX7) (N := 26) hx hb hts inX7 tyX7 tyX7_ok nmX7 hown hK hP hD hS 0 rfl rfl 11 (by decide) (hts _ pq1126) (fun _ h9 => h9) rfl (by decide +kernel) rfl rfl (Nat.le_of_ble_eq_true rfl) dX7_tell_187 (fun H locs hP hD hS => ?_)
      have hP : va_P (dC, dI) vwCl [(h0, .inr (7, [.ref mnw, .ref mhd, .ref mas, .ref mps, .ref msf, .ref mdt, .ref mhdd, .ref masd, .ref mpsd, .ref msfd, .ref mkp, .int 0, .ref mtp, .int 0, .int 0, .int (-1), .int 0, .ref mld, .int 0, .ref mmd, .ref men, .ref mil, .ref mqu, .int 0, .int 0, .ref mbx])), (mhd, .inl (kI2, 99, .inl (fun _ => 0))), (mhdd, .inl (kJ2, 640, .inr (.inl (fun _ => 0)))), (mnw, .inl (kI, 99, .inl (fun _ => 0))), (mdt, .inl (kJ, 640, .inr (.inl (fun _ => 0))))] H := hP
      have hD : va_D A [(h0, .inr (7, [.ref mnw, .ref mhd, .ref mas, .ref mps, .ref msf, .ref mdt, .ref mhdd, .ref masd, .ref mpsd, .ref msfd, .ref mkp, .int 0, .ref mtp, .int 0, .int 0, .int (-1), .int 0, .ref mld, .int 0, .ref mmd, .ref men, .ref mil, .ref mqu, .int 0, .int 0, .ref mbx])), (mhd, .inl (kI2, 99, .inl (fun _ => 0))), (mhdd, .inl (kJ2, 640, .inr (.inl (fun _ => 0)))), (mnw, .inl (kI, 99, .inl (fun _ => 0))), (mdt, .inl (kJ, 640, .inr (.inl (fun _ => 0))))] := hD
      refine lv_aload_n hx hb dX7_tell_190 rfl (lv_at hl 1 rfl) ?_
      refine va_get (D := (dC, dI)) (ci := 7) (v := .ref mnw) (C := RX7) (T := TX7) (N := 26) hx hb hts inX7 hown hK hP 0 rfl rfl 0 (by decide) (hts _ pq1115) (fun _ h9 => h9) rfl dX7_tell_191 ?_
      refine lv_iconst (v := 1) hx hb dX7_tell_194 (by decide +kernel) ?_
      refine va_iald hx hb hK hP 3 2 rfl rfl (in_d (by decide +kernel)) dX7_tell_195 ?_
      refine lv_topi (fun z12 ez12 => ?_)
      obtain rfl : z12 = 0 := ez12.trans (by decide +kernel)
      exact W.iret (v := 0) hx hb hr (fun t ht hW => ⟨⟨0, (), rfl, rfl, trivial⟩, hS.F ht⟩) hS.2.2 dX7_tell_196
    · refine lv_aload_n hx hb dX7_tell_40 rfl (lv_at hl 1 rfl) ?_
      refine va_get (D := (dC, dI)) (ci := 7) (v := .ref mhdd) (C := RX7) (T := TX7) (N := 26) hx hb hts inX7 hown hK hP 0 rfl rfl 6 (by decide) (hts _ pq1121) (fun _ h9 => h9) rfl dX7_tell_41 ?_
      refine lv_iload_n hx hb dX7_tell_44 rfl (lv_at hl 0 rfl) ?_
      refine lv_lconst (v := 0) hx hb dX7_tell_45 (by decide +kernel) ?_
      refine va_last hx hb hK hP hD hS 2 1 rfl rfl (vp_in_nI (nI_ltb (n := 640) (by omega) c2) (by omega)) dX7_tell_46 (fun H locs hP hD hS => ?_)
      have hP : va_P (dC, dI) vwCl [(h0, .inr (7, [.ref mnw, .ref mhd, .ref mas, .ref mps, .ref msf, .ref mdt, .ref mhdd, .ref masd, .ref mpsd, .ref msfd, .ref mkp, .int 0, .ref mtp, .int 0, .int 0, .int (-1), .int 0, .ref mld, .int 0, .ref mmd, .ref men, .ref mil, .ref mqu, .int 0, .int 0, .ref mbx])), (mhd, .inl (kI2, 99, .inl (fun _ => 0))), (mhdd, .inl (kJ2, 640, .inr (.inl (vp_updL (fun _ => 0) (nI i).toNatClampNeg 0)))), (mnw, .inl (kI, 99, .inl (fun _ => 0))), (mdt, .inl (kJ, 640, .inr (.inl (fun _ => 0))))] H := hP
      have hD : va_D A [(h0, .inr (7, [.ref mnw, .ref mhd, .ref mas, .ref mps, .ref msf, .ref mdt, .ref mhdd, .ref masd, .ref mpsd, .ref msfd, .ref mkp, .int 0, .ref mtp, .int 0, .int 0, .int (-1), .int 0, .ref mld, .int 0, .ref mmd, .ref men, .ref mil, .ref mqu, .int 0, .int 0, .ref mbx])), (mhd, .inl (kI2, 99, .inl (fun _ => 0))), (mhdd, .inl (kJ2, 640, .inr (.inl (vp_updL (fun _ => 0) (nI i).toNatClampNeg 0)))), (mnw, .inl (kI, 99, .inl (fun _ => 0))), (mdt, .inl (kJ, 640, .inr (.inl (fun _ => 0))))] := hD
      rw [updL00] at hP hD
      obtain ⟨z13, ez13⟩ : ∃ y : Int32, y = nI i + 1 := ⟨_, rfl⟩
      refine lv_iinc (v := z13) (lv' := [(1, .int z13), (0, .ref h0)]) hx hb dX7_tell_47 hl (k := 0) rfl (by rw [ez13]; rfl) (by decide) rfl (fun ls hl => ?_)
      refine lv_goto (tgt := 33) hx hb dX7_tell_50 (by decide) ?_
      have hlt : i < 640 := nI_ltb (n := 640) (by omega) c2
      obtain rfl : z13 = nI (i + 1) := ez13.trans (nI_1 i)
      exact ihi (i + 1) _ _ _ ⟨by omega, hP, hD, hS, lv_sub hl [0, 1] rfl⟩ (by omega)
  · refine lv_aload_n hx hb dX7_tell_18 rfl (lv_at hl 1 rfl) ?_
    refine va_get (D := (dC, dI)) (ci := 7) (v := .ref mhd) (C := RX7) (T := TX7) (N := 26) hx hb hts inX7 hown hK hP 0 rfl rfl 1 (by decide) (hts _ pq1116) (fun _ h9 => h9) rfl dX7_tell_19 ?_
    refine lv_iload_n hx hb dX7_tell_22 rfl (lv_at hl 0 rfl) ?_
    refine lv_iconst (v := 0) hx hb dX7_tell_23 (by decide +kernel) ?_
    refine va_iast hx hb hK hP hD hS 1 0 rfl rfl (vp_in_nI (nI_ltb (n := 99) (by omega) c1) (by omega)) dX7_tell_24 (fun H locs hP hD hS => ?_)
    have hP : va_P (dC, dI) vwCl [(h0, .inr (7, [.ref mnw, .ref mhd, .ref mas, .ref mps, .ref msf, .ref mdt, .ref mhdd, .ref masd, .ref mpsd, .ref msfd, .ref mkp, .int 0, .ref mtp, .int 0, .int 0, .int (-1), .int 0, .ref mld, .int 0, .ref mmd, .ref men, .ref mil, .ref mqu, .int 0, .int 0, .ref mbx])), (mhd, .inl (kI2, 99, .inl (upd (fun _ => 0) (nI j).toNatClampNeg 0))), (mhdd, .inl (kJ2, 640, .inr (.inl (fun _ => 0)))), (mnw, .inl (kI, 99, .inl (fun _ => 0))), (mdt, .inl (kJ, 640, .inr (.inl (fun _ => 0))))] H := hP
    have hD : va_D A [(h0, .inr (7, [.ref mnw, .ref mhd, .ref mas, .ref mps, .ref msf, .ref mdt, .ref mhdd, .ref masd, .ref mpsd, .ref msfd, .ref mkp, .int 0, .ref mtp, .int 0, .int 0, .int (-1), .int 0, .ref mld, .int 0, .ref mmd, .ref men, .ref mil, .ref mqu, .int 0, .int 0, .ref mbx])), (mhd, .inl (kI2, 99, .inl (upd (fun _ => 0) (nI j).toNatClampNeg 0))), (mhdd, .inl (kJ2, 640, .inr (.inl (fun _ => 0)))), (mnw, .inl (kI, 99, .inl (fun _ => 0))), (mdt, .inl (kJ, 640, .inr (.inl (fun _ => 0))))] := hD
    rw [upd00] at hP hD
    obtain ⟨z14, ez14⟩ : ∃ y : Int32, y = nI j + 1 := ⟨_, rfl⟩
    refine lv_iinc (v := z14) (lv' := [(1, .int z14), (0, .ref h0)]) hx hb dX7_tell_25 hl (k := 0) rfl (by rw [ez14]; rfl) (by decide) rfl (fun ls hl => ?_)
    refine lv_goto (tgt := 12) hx hb dX7_tell_28 (by decide) ?_
    have hlt : j < 99 := nI_ltb (n := 99) (by omega) c1
    obtain rfl : z14 = nI (j + 1) := ez14.trans (nI_1 j)
    exact ihj (j + 1) _ _ _ ⟨by omega, hP, hD, hS, lv_sub hl [0, 1] rfl⟩ (by omega)
