abbrev cX7_tell : ByteArray := prog_9_method_24_code
def yX7_tell : MethodName := ⟨RX7, "tell", "()I"⟩
theorem dX7_tell_0 : decode cX7_tell 0 = .ok (.aload_n 0, 1) := by decide +kernel
theorem dX7_tell_1 : decode cX7_tell 1 = .ok (.iconst 0, 1) := by decide +kernel
theorem dX7_tell_2 : decode cX7_tell 2 = .ok (.putfield 75, 3) := by decide +kernel
theorem dX7_tell_5 : decode cX7_tell 5 = .ok (.aload_n 0, 1) := by decide +kernel
theorem dX7_tell_6 : decode cX7_tell 6 = .ok (.iconst (-1), 1) := by decide +kernel
theorem dX7_tell_7 : decode cX7_tell 7 = .ok (.putfield 82, 3) := by decide +kernel
theorem dX7_tell_10 : decode cX7_tell 10 = .ok (.iconst 0, 1) := by decide +kernel
theorem dX7_tell_11 : decode cX7_tell 11 = .ok (.istore_n 1, 1) := by decide +kernel
theorem dX7_tell_12 : decode cX7_tell 12 = .ok (.iload_n 1, 1) := by decide +kernel
theorem dX7_tell_13 : decode cX7_tell 13 = .ok (.bipush 99, 2) := by decide +kernel
theorem dX7_tell_15 : decode cX7_tell 15 = .ok (.if_icmp .ge 16, 3) := by decide +kernel
theorem dX7_tell_18 : decode cX7_tell 18 = .ok (.aload_n 0, 1) := by decide +kernel
theorem dX7_tell_19 : decode cX7_tell 19 = .ok (.getfield 13, 3) := by decide +kernel
theorem dX7_tell_22 : decode cX7_tell 22 = .ok (.iload_n 1, 1) := by decide +kernel
theorem dX7_tell_23 : decode cX7_tell 23 = .ok (.iconst 0, 1) := by decide +kernel
theorem dX7_tell_24 : decode cX7_tell 24 = .ok (.iastore, 1) := by decide +kernel
theorem dX7_tell_25 : decode cX7_tell 25 = .ok (.iinc 1 1, 3) := by decide +kernel
theorem dX7_tell_28 : decode cX7_tell 28 = .ok (.goto (-16), 3) := by decide +kernel
theorem dX7_tell_31 : decode cX7_tell 31 = .ok (.iconst 0, 1) := by decide +kernel
theorem dX7_tell_32 : decode cX7_tell 32 = .ok (.istore_n 1, 1) := by decide +kernel
theorem dX7_tell_33 : decode cX7_tell 33 = .ok (.iload_n 1, 1) := by decide +kernel
theorem dX7_tell_34 : decode cX7_tell 34 = .ok (.sipush 640, 3) := by decide +kernel
theorem dX7_tell_37 : decode cX7_tell 37 = .ok (.if_icmp .ge 16, 3) := by decide +kernel
theorem dX7_tell_40 : decode cX7_tell 40 = .ok (.aload_n 0, 1) := by decide +kernel
theorem dX7_tell_41 : decode cX7_tell 41 = .ok (.getfield 29, 3) := by decide +kernel
theorem dX7_tell_44 : decode cX7_tell 44 = .ok (.iload_n 1, 1) := by decide +kernel
theorem dX7_tell_45 : decode cX7_tell 45 = .ok (.lconst 0, 1) := by decide +kernel
theorem dX7_tell_46 : decode cX7_tell 46 = .ok (.lastore, 1) := by decide +kernel
theorem dX7_tell_47 : decode cX7_tell 47 = .ok (.iinc 1 1, 3) := by decide +kernel
theorem dX7_tell_50 : decode cX7_tell 50 = .ok (.goto (-17), 3) := by decide +kernel
theorem dX7_tell_53 : decode cX7_tell 53 = .ok (.aload_n 0, 1) := by decide +kernel
theorem dX7_tell_54 : decode cX7_tell 54 = .ok (.invokevirtual 89, 3) := by decide +kernel
theorem dX7_tell_57 : decode cX7_tell 57 = .ok (.iconst (-1), 1) := by decide +kernel
theorem dX7_tell_58 : decode cX7_tell 58 = .ok (.if_icmp .eq 7, 3) := by decide +kernel
theorem dX7_tell_61 : decode cX7_tell 61 = .ok (.iconst 1, 1) := by decide +kernel
theorem dX7_tell_62 : decode cX7_tell 62 = .ok (.goto 4, 3) := by decide +kernel
theorem dX7_tell_65 : decode cX7_tell 65 = .ok (.iconst 0, 1) := by decide +kernel
theorem dX7_tell_66 : decode cX7_tell 66 = .ok (.istore_n 1, 1) := by decide +kernel
theorem dX7_tell_67 : decode cX7_tell 67 = .ok (.iload_n 1, 1) := by decide +kernel
theorem dX7_tell_68 : decode cX7_tell 68 = .ok (.ifCond .eq 52, 3) := by decide +kernel
theorem dX7_tell_71 : decode cX7_tell 71 = .ok (.aload_n 0, 1) := by decide +kernel
theorem dX7_tell_72 : decode cX7_tell 72 = .ok (.invokevirtual 85, 3) := by decide +kernel
theorem dX7_tell_75 : decode cX7_tell 75 = .ok (.ifCond .eq 45, 3) := by decide +kernel
theorem dX7_tell_78 : decode cX7_tell 78 = .ok (.aload_n 0, 1) := by decide +kernel
theorem dX7_tell_79 : decode cX7_tell 79 = .ok (.invokevirtual 181, 3) := by decide +kernel
theorem dX7_tell_82 : decode cX7_tell 82 = .ok (.aload_n 0, 1) := by decide +kernel
theorem dX7_tell_83 : decode cX7_tell 83 = .ok (.invokevirtual 85, 3) := by decide +kernel
theorem dX7_tell_86 : decode cX7_tell 86 = .ok (.ifCond .eq 16, 3) := by decide +kernel
theorem dX7_tell_89 : decode cX7_tell 89 = .ok (.aload_n 0, 1) := by decide +kernel
theorem dX7_tell_90 : decode cX7_tell 90 = .ok (.invokevirtual 89, 3) := by decide +kernel
theorem dX7_tell_93 : decode cX7_tell 93 = .ok (.bipush 59, 2) := by decide +kernel
theorem dX7_tell_95 : decode cX7_tell 95 = .ok (.if_icmp .ne 7, 3) := by decide +kernel
theorem dX7_tell_98 : decode cX7_tell 98 = .ok (.iconst 1, 1) := by decide +kernel
theorem dX7_tell_99 : decode cX7_tell 99 = .ok (.goto 4, 3) := by decide +kernel
theorem dX7_tell_102 : decode cX7_tell 102 = .ok (.iconst 0, 1) := by decide +kernel
theorem dX7_tell_103 : decode cX7_tell 103 = .ok (.istore_n 1, 1) := by decide +kernel
theorem dX7_tell_104 : decode cX7_tell 104 = .ok (.aload_n 0, 1) := by decide +kernel
theorem dX7_tell_105 : decode cX7_tell 105 = .ok (.dup, 1) := by decide +kernel
theorem dX7_tell_106 : decode cX7_tell 106 = .ok (.getfield 75, 3) := by decide +kernel
theorem dX7_tell_109 : decode cX7_tell 109 = .ok (.iload_n 1, 1) := by decide +kernel
theorem dX7_tell_110 : decode cX7_tell 110 = .ok (.invokestatic 127, 3) := by decide +kernel
theorem dX7_tell_113 : decode cX7_tell 113 = .ok (.iadd, 1) := by decide +kernel
theorem dX7_tell_114 : decode cX7_tell 114 = .ok (.putfield 75, 3) := by decide +kernel
theorem dX7_tell_117 : decode cX7_tell 117 = .ok (.goto (-50), 3) := by decide +kernel
theorem dX7_tell_120 : decode cX7_tell 120 = .ok (.aload_n 0, 1) := by decide +kernel
theorem dX7_tell_121 : decode cX7_tell 121 = .ok (.invokevirtual 85, 3) := by decide +kernel
theorem dX7_tell_124 : decode cX7_tell 124 = .ok (.ifCond .eq 20, 3) := by decide +kernel
theorem dX7_tell_127 : decode cX7_tell 127 = .ok (.aload_n 0, 1) := by decide +kernel
theorem dX7_tell_128 : decode cX7_tell 128 = .ok (.invokevirtual 89, 3) := by decide +kernel
theorem dX7_tell_131 : decode cX7_tell 131 = .ok (.iconst (-1), 1) := by decide +kernel
theorem dX7_tell_132 : decode cX7_tell 132 = .ok (.if_icmp .eq 12, 3) := by decide +kernel
theorem dX7_tell_135 : decode cX7_tell 135 = .ok (.aload_n 0, 1) := by decide +kernel
theorem dX7_tell_136 : decode cX7_tell 136 = .ok (.iconst 1, 1) := by decide +kernel
theorem dX7_tell_137 : decode cX7_tell 137 = .ok (.aload_n 0, 1) := by decide +kernel
theorem dX7_tell_138 : decode cX7_tell 138 = .ok (.getfield 75, 3) := by decide +kernel
theorem dX7_tell_141 : decode cX7_tell 141 = .ok (.invokevirtual 113, 3) := by decide +kernel
theorem dX7_tell_144 : decode cX7_tell 144 = .ok (.aload_n 0, 1) := by decide +kernel
theorem dX7_tell_145 : decode cX7_tell 145 = .ok (.iconst 0, 1) := by decide +kernel
theorem dX7_tell_146 : decode cX7_tell 146 = .ok (.putfield 67, 3) := by decide +kernel
theorem dX7_tell_149 : decode cX7_tell 149 = .ok (.aload_n 0, 1) := by decide +kernel
theorem dX7_tell_150 : decode cX7_tell 150 = .ok (.invokevirtual 85, 3) := by decide +kernel
theorem dX7_tell_153 : decode cX7_tell 153 = .ok (.ifCond .ne 11, 3) := by decide +kernel
theorem dX7_tell_156 : decode cX7_tell 156 = .ok (.bipush (-2), 2) := by decide +kernel
theorem dX7_tell_158 : decode cX7_tell 158 = .ok (.aload_n 0, 1) := by decide +kernel
theorem dX7_tell_159 : decode cX7_tell 159 = .ok (.getfield 82, 3) := by decide +kernel
theorem dX7_tell_162 : decode cX7_tell 162 = .ok (.isub, 1) := by decide +kernel
theorem dX7_tell_163 : decode cX7_tell 163 = .ok (.ireturn, 1) := by decide +kernel
theorem dX7_tell_164 : decode cX7_tell 164 = .ok (.aload_n 0, 1) := by decide +kernel
theorem dX7_tell_165 : decode cX7_tell 165 = .ok (.getfield 13, 3) := by decide +kernel
theorem dX7_tell_168 : decode cX7_tell 168 = .ok (.aload_n 0, 1) := by decide +kernel
theorem dX7_tell_169 : decode cX7_tell 169 = .ok (.getfield 29, 3) := by decide +kernel
theorem dX7_tell_172 : decode cX7_tell 172 = .ok (.iconst 0, 1) := by decide +kernel
theorem dX7_tell_173 : decode cX7_tell 173 = .ok (.aload_n 0, 1) := by decide +kernel
theorem dX7_tell_174 : decode cX7_tell 174 = .ok (.getfield 9, 3) := by decide +kernel
theorem dX7_tell_177 : decode cX7_tell 177 = .ok (.aload_n 0, 1) := by decide +kernel
theorem dX7_tell_178 : decode cX7_tell 178 = .ok (.getfield 25, 3) := by decide +kernel
theorem dX7_tell_181 : decode cX7_tell 181 = .ok (.iconst 0, 1) := by decide +kernel
theorem dX7_tell_182 : decode cX7_tell 182 = .ok (.invokestatic 184, 3) := by decide +kernel
theorem dX7_tell_185 : decode cX7_tell 185 = .ok (.aload_n 0, 1) := by decide +kernel
theorem dX7_tell_186 : decode cX7_tell 186 = .ok (.iconst 0, 1) := by decide +kernel
theorem dX7_tell_187 : decode cX7_tell 187 = .ok (.putfield 187, 3) := by decide +kernel
theorem dX7_tell_190 : decode cX7_tell 190 = .ok (.aload_n 0, 1) := by decide +kernel
theorem dX7_tell_191 : decode cX7_tell 191 = .ok (.getfield 9, 3) := by decide +kernel
theorem dX7_tell_194 : decode cX7_tell 194 = .ok (.iconst 1, 1) := by decide +kernel
theorem dX7_tell_195 : decode cX7_tell 195 = .ok (.iaload, 1) := by decide +kernel
theorem dX7_tell_196 : decode cX7_tell 196 = .ok (.ireturn, 1) := by decide +kernel
set_option maxRecDepth 100000 in
theorem pq13 : Cond.selects RX7 yX7_readsPart yX7_readsPart ∈ pw := pw_mem (i := 13) (by decide +kernel) rfl
set_option maxRecDepth 100000 in
theorem pq1223 : Cond.methodLink RX7 181 yX7_readsPart ∈ pw := pw_mem (i := 1223) (by decide +kernel) rfl
set_option maxRecDepth 100000 in
theorem pq1225 : Cond.instanceMethod yX7_readsPart ∈ pw := pw_mem (i := 1225) (by decide +kernel) rfl
set_option maxRecDepth 100000 in
theorem pq1226 : Cond.code yX7_readsPart cX7_readsPart 2 none ∈ pw := pw_mem (i := 1226) (by rfl) rfl
set_option maxHeartbeats 4000000 in
set_option maxRecDepth 100000 in
theorem s_X7_movesH (l : Launch) (dC : Nat → ClassId) (dI : Nat → Nat → Nat) (cs : Nat → ClassId) (L : List Nat) (K G : Nat → Nat) (Q : Nat → Nat → Option Nat) (hQ : Sv L K G Q) (x0 m0 : Nat) (tx : GT) (tm : GT × Int) (sz : Nat) (I : Nat → Nat → Int32) (J : Nat → Nat → Int64) (hI : Iv L K x0 m0 tx tm I) (p0 : Nat) (hLp0 : p0 ∈ L) (hKp0 : K p0 = 28) (p1 : Nat) (hLp1 : p1 ∈ L) (hKp1 : K p1 = 32) (p2 : Int32) (bp2 : (0) ≤ p2.toInt ∧ p2.toInt ≤ 0) (p3 : Nat) (hLp3 : p3 ∈ L) (hKp3 : K p3 = 18) (p4 : Nat) (hLp4 : p4 ∈ L) (hKp4 : K p4 = 21) (p5 : Int32) (bp5 : (0) ≤ p5.toInt ∧ p5.toInt ≤ 0) (hh : (∀ i, i < 99 → rng 999 i (I p0 i).toInt)) : Met l yX7_moves (.code yX7_moves cX7_moves 7 none :: pw) ({ frames := 0, cells := 0, slots := 0, locals := 0 }) (sP (dC, dI) cs [.ref p0, .ref p1, .int p2, .ref p3, .ref p4, .int p5] sz L K I J Q) (va_Qv (fun (_ : Unit) => True) (fun _ t => sB (dC, dI) cs L K Q (fun I1 J1 => Iv L K x0 m0 tx tm I1 ∧ (∀ b, ¬ (b = p3) → I1 b = I b) ∧ cpd 99 p5.toInt.toNat p2.toInt.toNat (I p0) (I p3) (I1 p3) ∧ cpd 640 p5.toInt.toNat p2.toInt.toNat (J p1) (J p4) (J1 p4) ∧ (∀ b, ¬ (K b = 21) → J1 b = J b)) t) (fun q => q ∈ L ∨ sz ≤ q)) 0 0 (fun q => q ∈ L ∨ sz ≤ q) := by
  refine Met.ofW (cc := cX7_moves) (maxL := 7) (ret := none) (by decide +kernel) rfl ?_
  intro p e s m args below meth c s₁ B hml hv
  obtain ⟨rfl, hsz, hP, hK, hD0, hN⟩ := hv
  have hx := B.exec
  have hb := B.bytes
  have hr := B.returns
  have hts := fun w (h : w ∈ pw) => atoms_spec (ws := Cond.code yX7_moves cX7_moves 7 none :: pw) B.pre w (List.mem_cons_of_mem _ h)
  have hown : s.vm.findClass RX7 = some m.cls := findClass_of_methodNamed B.named
  have hlocks := B.notSynchronized
  subst hsz
  have hBB : 999 ≤ tm.2 ∧ tm.2 ≤ 6000000 := hI.2.2.2.2.1
  have dj_J : (∀ b, ¬ (K b = 21) → J b = J b) := fun _ _ => rfl
  have fr_I : ∀ b, ¬ (b = p3) → I b = I b := fun _ _ => rfl
  obtain ⟨A, hAe⟩ : ∃ A : Nat → Prop, A = (fun q => q ∈ L ∨ s.heap.size ≤ q) := ⟨_, rfl⟩
  rw [← hAe]
  have hAL : ∀ q, q ∈ L → A q := fun q h => by rw [hAe]; exact Or.inl h
  have hA : ∀ q, s.heap.size ≤ q → A q := fun q h => by rw [hAe]; exact Or.inr h
  have hD : ∀ F, va_D A (va_pl L F) := fun F => (hD0 F).weaken (fun k q hk _ => hAL _ (pl_mem hk))
  obtain ⟨H, hHe⟩ : ∃ H : Heap, H = s.heap := ⟨_, rfl⟩
  have hS : va_S A s.heap H [] := by rw [hHe]; exact va_S.rf
  rw [← hHe] at hP
  have hl := lv_entry ([.ref p0, .ref p1, .int p2, .ref p3, .ref p4, .int p5]) (n := 7) (Nat.le_of_ble_eq_true rfl)
  rw [lg_entry_eq]
  generalize (lg_sl ([.ref p0, .ref p1, .int p2, .ref p3, .ref p4, .int p5]) ++ List.replicate (7 - (lg_sl ([.ref p0, .ref p1, .int p2, .ref p3, .ref p4, .int p5])).length) Slot.unset).toArray = ls at hl ⊢
  have hl : lv_has ls 7 [(0, .ref p0), (1, .ref p1), (2, .int p2), (3, .ref p3), (4, .ref p4), (5, .int p5)] := hl
  rw [← hHe]
  refine namedW (fun R Qz hR hQz => ?_)
  refine lv_iconst (v := 0) hx hb dX7_moves_0 (by decide +kernel) ?_
  refine lv_istore (lv' := [(6, .int 0), (0, .ref p0), (1, .ref p1), (2, .int p2), (3, .ref p3), (4, .ref p4), (5, .int p5)]) hx hb dX7_moves_1 hl (by decide) rfl (fun ls hl => ?_)
  have key3 := blocks (fun n => ∀ (v3_6 : Int32) (I3 : Nat → Nat → Int32) (H : Heap) (lo : List Loc) (ls : Array Slot), (100 - v3_6.toInt).toNat = n → ((0) ≤ v3_6.toInt ∧ v3_6.toInt ≤ 99) → Iv L K x0 m0 tx tm I3 → (∀ b, ¬ (b = p3) → I3 b = I b) → cpv 99 v3_6.toInt.toNat p5.toInt.toNat p2.toInt.toNat (I p0) (I p3) (I3 p3) → va_P (dC, dI) vwCl (Wd cs L K I3 J Q) H → va_S A s.heap H lo → lv_has ls 7 [(0, .ref p0), (1, .ref p1), (2, .int p2), (3, .ref p3), (4, .ref p4), (5, .int p5), (6, .int v3_6)] → W p l e R s m (([.ref p0, .ref p1, .int p2, .ref p3, .ref p4, .int p5] : List Value).toArray) below meth c H lo 0 0 Qz (F0 m 3 ls [])) (by
    intro n ih3
    intro v3_6 I3 H lo ls hmu3 bv3_6 hI3 fr_I3 hc3 hP hS hl
    refine lv_iload hx hb dX7_moves_3 (lv_at hl 6 rfl) ?_
    refine lv_bipush (v := 99) hx hb dX7_moves_5 (by decide +kernel) ?_
    refine lv_icmp_ge (tgt := 35) hx hb dX7_moves_7 (by decide) (fun c7 => ?_) (fun c7 => ?_)
    · have t7 := tq_le (k := (99)) (q := v3_6.toInt) c7 (by decide +kernel) rfl
      refine lv_iconst (v := 0) hx hb dX7_moves_35 (by decide +kernel) ?_
      refine lv_istore (lv' := [(6, .int 0), (0, .ref p0), (1, .ref p1), (2, .int p2), (3, .ref p3), (4, .ref p4), (5, .int p5)]) hx hb dX7_moves_36 hl (by decide) rfl (fun ls hl => ?_)
      have key38 := blocks (fun n => ∀ (v38_6 : Int32) (J38 : Nat → Nat → Int64) (H : Heap) (lo : List Loc) (ls : Array Slot), (641 - v38_6.toInt).toNat = n → ((0) ≤ v38_6.toInt ∧ v38_6.toInt ≤ 640) → (∀ b, ¬ (K b = 21) → J38 b = J b) → (cpv 640 v38_6.toInt.toNat p5.toInt.toNat p2.toInt.toNat (J p1) (J p4) (J38 p4) ∧ ∀ b, ¬ b = p4 → J38 b = J b) → va_P (dC, dI) vwCl (Wd cs L K I3 J38 Q) H → va_S A s.heap H lo → lv_has ls 7 [(0, .ref p0), (1, .ref p1), (2, .int p2), (3, .ref p3), (4, .ref p4), (5, .int p5), (6, .int v38_6)] → W p l e R s m (([.ref p0, .ref p1, .int p2, .ref p3, .ref p4, .int p5] : List Value).toArray) below meth c H lo 0 0 Qz (F0 m 38 ls [])) (by
        intro n ih38
        intro v38_6 J38 H lo ls hmu38 bv38_6 dj_J38 hc38 hP hS hl
        refine lv_iload hx hb dX7_moves_38 (lv_at hl 6 rfl) ?_
        refine lv_sipush (v := 640) hx hb dX7_moves_40 (by decide +kernel) ?_
        refine lv_icmp_ge (tgt := 74) hx hb dX7_moves_43 (by decide) (fun c43 => ?_) (fun c43 => ?_)
        · have t43 := tq_le (k := (640)) (q := v38_6.toInt) c43 (by decide +kernel) rfl
          subst hR; subst hQz
          exact W.vret hx hb hr (fun t ht hW => ⟨⟨(), rfl, trivial, ⟨I3, J38, ⟨hI3, fr_I3, (by have e : v3_6.toInt.toNat = 99 := (by omega); rw [e] at hc3; exact hc3), (by have e : v38_6.toInt.toNat = 640 := (by omega); have q := hc38.1; rw [e] at q; exact q), dj_J38⟩, by rw [ht]; exact hP⟩⟩, hS.F ht⟩) hS.2.2 dX7_moves_74
        · have t43 := tq_nle (k := (640)) (q := v38_6.toInt) c43 (by decide +kernel) rfl
          refine lv_aload hx hb dX7_moves_46 (lv_at hl 4 rfl) ?_
          refine lv_sipush (v := 640) hx hb dX7_moves_48 (by decide +kernel) ?_
          refine lv_iload hx hb dX7_moves_51 (lv_at hl 5 rfl) ?_
          refine lv_imul hx hb dX7_moves_53 ?_
          refine lv_topi (fun z53 ez53 => ?_)
          have bz53 := tq_mul (k := (640)) (q := p5.toInt) ez53 (by decide +kernel) rfl (by omega) (by omega)
          refine lv_iload hx hb dX7_moves_54 (lv_at hl 6 rfl) ?_
          refine lv_iadd hx hb dX7_moves_56 ?_
          refine lv_topi (fun z56 ez56 => ?_)
          have bz56 := tq_add (k := z53.toInt) (q := v38_6.toInt) ez56 rfl rfl (by omega) (by omega)
          refine lv_aload_n hx hb dX7_moves_57 rfl (lv_at hl 1 rfl) ?_
          refine lv_sipush (v := 640) hx hb dX7_moves_58 (by decide +kernel) ?_
          refine lv_iload_n hx hb dX7_moves_61 rfl (lv_at hl 2 rfl) ?_
          refine lv_imul hx hb dX7_moves_62 ?_
          refine lv_topi (fun z62 ez62 => ?_)
          have bz62 := tq_mul (k := (640)) (q := p2.toInt) ez62 (by decide +kernel) rfl (by omega) (by omega)
          refine lv_iload hx hb dX7_moves_63 (lv_at hl 6 rfl) ?_
          refine lv_iadd hx hb dX7_moves_65 ?_
          refine lv_topi (fun z65 ez65 => ?_)
          have bz65 := tq_add (k := z62.toInt) (q := v38_6.toInt) ez65 rfl rfl (by omega) (by omega)
          refine p_lald hx hb hK hP 22 hLp1 hKp1 rfl rfl (in_of (by omega) (by omega)) dX7_moves_66 ?_
          refine lv_topl (fun z66 ez66 => ?_)
          refine p_last hx hb hK hP hD hS 11 hLp4 hKp4 rfl (fun _ => rfl) rfl (in_of (by omega) (by omega)) dX7_moves_67 (fun H locs hP hS => ?_)
          obtain ⟨Jz67, hP, qJz67⟩ : ∃ Jz67, va_P (dC, dI) vwCl (Wd cs L K I3 Jz67 Q) H ∧ Jz67 = va_up J38 p4 (vp_updL (J38 p4) z56.toNatClampNeg z66) := ⟨_, hP, rfl⟩
          have dj_Jz67 : (∀ b, ¬ (K b = 21) → Jz67 b = J b) := fun b hc => (congrFun qJz67 b).trans ((va_up_ne _ _ (fun z => hc (by have q := hKp4; rw [← z] at q; omega))).trans (dj_J38 b hc))
          obtain ⟨z68, ez68⟩ : ∃ y : Int32, y = v38_6 + 1 := ⟨_, rfl⟩
          refine lv_iinc (v := z68) (lv' := [(6, .int z68), (0, .ref p0), (1, .ref p1), (2, .int p2), (3, .ref p3), (4, .ref p4), (5, .int p5)]) hx hb dX7_moves_68 hl (k := 6) rfl (by rw [ez68]; rfl) (by decide) rfl (fun ls hl => ?_)
          have bz68 := tq_add (k := v38_6.toInt) (q := 1) ez68 rfl (by decide +kernel) (by omega) (by omega)
          refine lv_goto (tgt := 38) hx hb dX7_moves_71 (by decide) ?_
          exact ih38 _ (by omega) z68 Jz67 _ _ _ rfl ⟨by omega, by omega⟩ dj_Jz67 ⟨cpv_step hc38.1 (i := z56.toInt.toNat) (x := z66) (fun j => by rw [qJz67, va_up_self]; rfl) (by omega) (ez66.trans (cpv_src (F := J38) (F0 := J) hc38.1 (by omega) (fun q => hc38.2 p1 q) (i := z65.toInt.toNat) (by omega))) (by omega), fun b hb => by rw [qJz67, va_up_ne _ _ hb]; exact hc38.2 b hb⟩ hP hS (lv_sub hl [1, 2, 3, 4, 5, 6, 0] rfl))
      exact key38 _ 0 J _ _ _ rfl ⟨by decide +kernel, by decide +kernel⟩ dj_J ⟨cpv_0 rfl, fun _ _ => rfl⟩ hP hS (lv_sub hl [1, 2, 3, 4, 5, 6, 0] rfl)
    · have t7 := tq_nle (k := (99)) (q := v3_6.toInt) c7 (by decide +kernel) rfl
      refine lv_aload_n hx hb dX7_moves_10 rfl (lv_at hl 3 rfl) ?_
      refine lv_bipush (v := 99) hx hb dX7_moves_11 (by decide +kernel) ?_
      refine lv_iload hx hb dX7_moves_13 (lv_at hl 5 rfl) ?_
      refine lv_imul hx hb dX7_moves_15 ?_
      refine lv_topi (fun z15 ez15 => ?_)
      have bz15 := tq_mul (k := (99)) (q := p5.toInt) ez15 (by decide +kernel) rfl (by omega) (by omega)
      refine lv_iload hx hb dX7_moves_16 (lv_at hl 6 rfl) ?_
      refine lv_iadd hx hb dX7_moves_18 ?_
      refine lv_topi (fun z18 ez18 => ?_)
      have bz18 := tq_add (k := z15.toInt) (q := v3_6.toInt) ez18 rfl rfl (by omega) (by omega)
      refine lv_aload_n hx hb dX7_moves_19 rfl (lv_at hl 0 rfl) ?_
      refine lv_bipush (v := 99) hx hb dX7_moves_20 (by decide +kernel) ?_
      refine lv_iload_n hx hb dX7_moves_22 rfl (lv_at hl 2 rfl) ?_
      refine lv_imul hx hb dX7_moves_23 ?_
      refine lv_topi (fun z23 ez23 => ?_)
      have bz23 := tq_mul (k := (99)) (q := p2.toInt) ez23 (by decide +kernel) rfl (by omega) (by omega)
      refine lv_iload hx hb dX7_moves_24 (lv_at hl 6 rfl) ?_
      refine lv_iadd hx hb dX7_moves_26 ?_
      refine lv_topi (fun z26 ez26 => ?_)
      have bz26 := tq_add (k := z23.toInt) (q := v3_6.toInt) ez26 rfl rfl (by omega) (by omega)
      refine p_iald hx hb hK hP 18 hLp0 hKp0 rfl rfl (in_of (by omega) (by omega)) dX7_moves_27 ?_
      refine lv_topi (fun z27 ez27 => ?_)
      refine p_iast hx hb hK hP hD hS 8 hLp3 hKp3 rfl (fun _ => rfl) rfl (in_of (by omega) (by omega)) dX7_moves_28 (fun H locs hP hS => ?_)
      have rg28z27 := fb_rng z27
      obtain ⟨Iz28, hP, hIz28, qIz28⟩ : ∃ Iz28, va_P (dC, dI) vwCl (Wd cs L K Iz28 J Q) H ∧ Iv L K x0 m0 tx tm Iz28 ∧ Iz28 = va_up I3 p3 (upd (I3 p3) z18.toNatClampNeg z27) := ⟨_, hP, Iv_put hI3 hKp3 (oU_18 (i := z18) (k := z18.toInt) rfl (Iv_at hI3 hLp3 hKp3) (by have q := rng_mono hBB.1 (hh z26.toInt.toNat (by omega)); rw [← fr_I3 p0 (ne_k hKp0 hKp3 (by decide)), show I3 p0 z26.toInt.toNat = z27 from ez27.symm] at q; rw [show z18.toInt.toNat = z26.toInt.toNat by omega]; exact q)) (Or.inl (by decide)) (Or.inl (by decide)), rfl⟩
      have fr_Iz28 : ∀ b, ¬ (b = p3) → Iz28 b = I b := fun b q => (congrFun qIz28 b).trans ((va_up_ne _ _ (fun z => q z)).trans (fr_I3 b q))
      obtain ⟨z29, ez29⟩ : ∃ y : Int32, y = v3_6 + 1 := ⟨_, rfl⟩
      refine lv_iinc (v := z29) (lv' := [(6, .int z29), (0, .ref p0), (1, .ref p1), (2, .int p2), (3, .ref p3), (4, .ref p4), (5, .int p5)]) hx hb dX7_moves_29 hl (k := 6) rfl (by rw [ez29]; rfl) (by decide) rfl (fun ls hl => ?_)
      have bz29 := tq_add (k := v3_6.toInt) (q := 1) ez29 rfl (by decide +kernel) (by omega) (by omega)
      refine lv_goto (tgt := 3) hx hb dX7_moves_32 (by decide) ?_
      exact ih3 _ (by omega) z29 Iz28 _ _ _ rfl ⟨by omega, by omega⟩ hIz28 fr_Iz28 (cpv_step hc3 (i := z18.toInt.toNat) (x := z27) (fun j => by rw [qIz28, va_up_self]; rfl) (by omega) (ez27.trans (cpv_src (F := I3) (F0 := I) hc3 (by omega) (fun q => fr_I3 p0 q) (i := z26.toInt.toNat) (by omega))) (by omega)) hP hS (lv_sub hl [1, 2, 3, 4, 5, 6, 0] rfl))
  exact key3 _ 0 I _ _ _ rfl ⟨by decide +kernel, by decide +kernel⟩ hI fr_I (cpv_0 rfl) hP hS (lv_sub hl [1, 2, 3, 4, 5, 6, 0] rfl)

set_option maxHeartbeats 4000000 in
set_option maxRecDepth 100000 in
theorem s_X7_tell (l : Launch) (dC : Nat → ClassId) (dI : Nat → Nat → Nat) (cs : Nat → ClassId) (L : List Nat) (K G : Nat → Nat) (Q : Nat → Nat → Option Nat) (hQ : Sv L K G Q) (x0 m0 : Nat) (tx : GT) (tm : GT × Int) (sz : Nat) (I : Nat → Nat → Int32) (J : Nat → Nat → Int64) (hI : Iv L K x0 m0 tx ((I m0 13, tm.1.2.1, I tm.1.2.1), tm.2) I) (p0 : Nat) (hLp0 : p0 ∈ L) (hKp0 : K p0 = 7) (hpm : p0 = m0) : Met l yX7_tell (.code yX7_tell cX7_tell 2 (some .int) :: pw) ({ frames := 7, cells := 0, slots := 0, locals := 154 }) (sPX (dC, dI) cs [.ref p0] sz L K I J Q (fun q => q ∈ L ∨ sz ≤ q) (fun A U H => xS A U H)) (va_Qi (fun (r : Int32) (u : Int32) => u = r ∧ True) (fun u t => sB (dC, dI) cs L K Q (fun I1 J1 => Iv L K x0 m0 tx ((I1 m0 13, tm.1.2.1, I1 tm.1.2.1), tm.2) I1 ∧ ((I1 m0 13).toInt = 0) ∧ (u.toInt = tellR (tb (I tm.1.2.1) (I p0 13).toInt)) ∧ (∀ b, K b = 0 ∨ K b = 1 ∨ K b = 3 ∨ K b = 6 → I1 b = I b) ∧ (∀ σ : Sx, cmA Q I J p0 σ → cmA Q I1 J1 p0 (teA σ (tb (I tm.1.2.1) (I p0 13).toInt)).2) ∧ (∀ b, ¬ (K b = 21 ∨ K b = 32) → J1 b = J b)) t) (fun q => q ∈ L ∨ sz ≤ q)) 0 0 (fun q => q ∈ L ∨ sz ≤ q) := by
  refine Met.ofW (cc := cX7_tell) (maxL := 2) (ret := (some .int)) (by decide +kernel) rfl ?_
  intro p e s m args below meth c s₁ B hml hv
  obtain ⟨rfl, ⟨hsz, hP, hK, hD0, hN⟩, hXs⟩ := hv
  have hx := B.exec
  have hb := B.bytes
  have hr := B.returns
  have hts := fun w (h : w ∈ pw) => atoms_spec (ws := Cond.code yX7_tell cX7_tell 2 (some .int) :: pw) B.pre w (List.mem_cons_of_mem _ h)
  have hown : s.vm.findClass RX7 = some m.cls := findClass_of_methodNamed B.named
  have hlocks := B.notSynchronized
  subst hsz
  have hBB : 999 ≤ tm.2 ∧ tm.2 ≤ 6000000 := hI.2.2.2.2.1
  have dn_I : (∀ b, K b = 0 ∨ K b = 1 ∨ K b = 3 ∨ K b = 6 → I b = I b) := fun _ _ => rfl
  have dj_J : (∀ b, ¬ (K b = 21 ∨ K b = 32) → J b = J b) := fun _ _ => rfl
  obtain ⟨A, hAe⟩ : ∃ A : Nat → Prop, A = (fun q => q ∈ L ∨ s.heap.size ≤ q) := ⟨_, rfl⟩
  rw [← hAe]
  have hAL : ∀ q, q ∈ L → A q := fun q h => by rw [hAe]; exact Or.inl h
  have hA : ∀ q, s.heap.size ≤ q → A q := fun q h => by rw [hAe]; exact Or.inr h
  have hD : ∀ F, va_D A (va_pl L F) := fun F => (hD0 F).weaken (fun k q hk _ => hAL _ (pl_mem hk))
  rw [← hAe] at hXs
  have hxx := hXs
  have hxt := hxx.1
  obtain ⟨H, hHe⟩ : ∃ H : Heap, H = s.heap := ⟨_, rfl⟩
  have hS : va_S A s.heap H [] := by rw [hHe]; exact va_S.rf
  rw [← hHe] at hP
  have hl := lv_entry ([.ref p0]) (n := 2) (Nat.le_of_ble_eq_true rfl)
  rw [lg_entry_eq]
  generalize (lg_sl ([.ref p0]) ++ List.replicate (2 - (lg_sl ([.ref p0])).length) Slot.unset).toArray = ls at hl ⊢
  have hl : lv_has ls 2 [(0, .ref p0)] := hl
  rw [← hHe]
  refine namedW (fun R Qz hR hQz => ?_)
  obtain ⟨yh0, eyh0, hLyh, hKyh⟩ := oQ_7_1 (Sv_at hQ hLp0 hKp0)
  have eYH : ((Q p0 1).getD 0) = yh0 := by rw [eyh0]; rfl
  have nyh : ¬ ((Q p0 1).getD 0) = p0 := by rw [eYH]; exact ne_k hKyh hKp0 (by decide)
  have kT0 := tpMk hQ hI hLp0 hKp0
  have kT : K tm.1.2.1 = 31 := kT0
  have ntm : ¬ tm.1.2.1 = p0 := ne_k kT hKp0 (by decide)
  have hby0 := tpB hQ hI hLp0 hKp0
  have hby : ∀ k, -128 ≤ (I tm.1.2.1 k).toInt ∧ (I tm.1.2.1 k).toInt ≤ 127 := hby0
  have bi13 := oI_7_13 (Iv_at hI hLp0 hKp0)
  have ki0 : sk (tb (I tm.1.2.1) (I p0 13).toInt) (sk (tb (I tm.1.2.1) (I p0 13).toInt) 0) = sk (tb (I tm.1.2.1) (I p0 13).toInt) 0 := sk_idem (Int.le_refl _) bi13.2
  refine lv_aload_n hx hb dX7_tell_0 rfl (lv_at hl 0 rfl) ?_
  refine lv_iconst (v := 0) hx hb dX7_tell_1 (by decide +kernel) ?_
  refine p_put hx hb hts inX7 tyX7 tyX7_ok nmX7 hown hK hP hD hS hLp0 hKp0 rfl rfl 14 (by decide) (hts _ pq1129) rfl (by decide +kernel) (Nat.le_of_ble_eq_true rfl) (oS_7_14 cs _ _ _ _) dX7_tell_2 (fun H locs hP hS => ?_)
  obtain ⟨Iz2, hP, hIz2, qIz2⟩ : ∃ Iz2, va_P (dC, dI) vwCl (Wd cs L K Iz2 J Q) H ∧ Iv L K x0 m0 tx ((Iz2 m0 13, tm.1.2.1, Iz2 tm.1.2.1), tm.2) Iz2 ∧ Iz2 = va_up I p0 (upd (I p0) 14 (0 : Int32)) := ⟨_, hP, Iv_putm hI hKp0 (oP_7_14 (Iv_at hI hLp0 hKp0) ⟨by decide +kernel, by decide +kernel⟩) (by decide) (by decide), rfl⟩
  have dn_Iz2 : (∀ b, K b = 0 ∨ K b = 1 ∨ K b = 3 ∨ K b = 6 → Iz2 b = I b) := fun b hc => (congrFun qIz2 b).trans ((va_up_ne _ _ (fun z => by have q := hKp0; rw [← z] at q; omega)).trans (dn_I b hc))
  refine lv_aload_n hx hb dX7_tell_5 rfl (lv_at hl 0 rfl) ?_
  refine lv_iconst (v := (-1)) hx hb dX7_tell_6 (by decide +kernel) ?_
  refine p_put hx hb hts inX7 tyX7 tyX7_ok nmX7 hown hK hP hD hS hLp0 hKp0 rfl rfl 15 (by decide) (hts _ pq1130) rfl (by decide +kernel) (Nat.le_of_ble_eq_true rfl) (oS_7_15 cs _ _ _ _) dX7_tell_7 (fun H locs hP hS => ?_)
  obtain ⟨Iz7, hP, hIz7, qIz7⟩ : ∃ Iz7, va_P (dC, dI) vwCl (Wd cs L K Iz7 J Q) H ∧ Iv L K x0 m0 tx ((Iz7 m0 13, tm.1.2.1, Iz7 tm.1.2.1), tm.2) Iz7 ∧ Iz7 = va_up Iz2 p0 (upd (Iz2 p0) 15 ((-1) : Int32)) := ⟨_, hP, Iv_putm hIz2 hKp0 (oP_7_15 (Iv_at hIz2 hLp0 hKp0) ⟨by decide +kernel, by decide +kernel⟩) (by decide) (by decide), rfl⟩
  have dn_Iz7 : (∀ b, K b = 0 ∨ K b = 1 ∨ K b = 3 ∨ K b = 6 → Iz7 b = I b) := fun b hc => (congrFun qIz7 b).trans ((va_up_ne _ _ (fun z => by have q := hKp0; rw [← z] at q; omega)).trans (dn_Iz2 b hc))
  refine lv_iconst (v := 0) hx hb dX7_tell_10 (by decide +kernel) ?_
  refine lv_istore_n (lv' := [(1, .int 0), (0, .ref p0)]) hx hb dX7_tell_11 rfl hl (by decide) rfl (fun ls hl => ?_)
  have key12 := blocks (fun n => ∀ (v12_1 : Int32) (I12 : Nat → Nat → Int32) (H : Heap) (lo : List Loc) (ls : Array Slot), (100 - v12_1.toInt).toNat = n → ((0) ≤ v12_1.toInt ∧ v12_1.toInt ≤ 99) → Iv L K x0 m0 tx ((I12 m0 13, tm.1.2.1, I12 tm.1.2.1), tm.2) I12 → (∀ b, K b = 0 ∨ K b = 1 ∨ K b = 3 ∨ K b = 6 → I12 b = I b) → Hid ((∀ yh, Q p0 1 = some yh → ∀ i : Nat, i < v12_1.toInt.toNat → I12 yh i = 0)) → ((I12 p0 15).toInt = -1 ∧ (I12 p0 14).toInt = 0) → Hid ((∀ σ : Sx, cmA Q I J p0 σ → cmA Q I12 J p0 σ)) → (I12 tm.1.2.1 = I tm.1.2.1 ∧ I12 p0 13 = I p0 13) → va_P (dC, dI) vwCl (Wd cs L K I12 J Q) H → va_S A s.heap H lo → lv_has ls 2 [(0, .ref p0), (1, .int v12_1)] → W p l e R s m (([.ref p0] : List Value).toArray) below meth c H lo 0 0 Qz (F0 m 12 ls [])) (by
    intro n ih12
    intro v12_1 I12 H lo ls hmu12 bv12_1 hI12 dn_I12 h12 h12b gm12 hc12 hP hS hl
    refine lv_iload_n hx hb dX7_tell_12 rfl (lv_at hl 1 rfl) ?_
    refine lv_bipush (v := 99) hx hb dX7_tell_13 (by decide +kernel) ?_
    refine lv_icmp_ge (tgt := 31) hx hb dX7_tell_15 (by decide) (fun c15 => ?_) (fun c15 => ?_)
    · have t15 := tq_le (k := (99)) (q := v12_1.toInt) c15 (by decide +kernel) rfl
      refine lv_iconst (v := 0) hx hb dX7_tell_31 (by decide +kernel) ?_
      refine lv_istore_n (lv' := [(1, .int 0), (0, .ref p0)]) hx hb dX7_tell_32 rfl hl (by decide) rfl (fun ls hl => ?_)
      have key33 := blocks (fun n => ∀ (v33_1 : Int32) (J33 : Nat → Nat → Int64) (H : Heap) (lo : List Loc) (ls : Array Slot), (1000 - v33_1.toInt).toNat = n → ((0) ≤ v33_1.toInt ∧ v33_1.toInt ≤ 999) → (∀ b, ¬ (K b = 21 ∨ K b = 32) → J33 b = J b) → Hid (((∀ i : Nat, i < v33_1.toInt.toNat → J33 (a0 Q p0 6) i = 0) ∧ ∀ b, ¬ (K b = 32) → J33 b = J b)) → va_P (dC, dI) vwCl (Wd cs L K I12 J33 Q) H → va_S A s.heap H lo → lv_has ls 2 [(0, .ref p0), (1, .int v33_1)] → W p l e R s m (([.ref p0] : List Value).toArray) below meth c H lo 0 0 Qz (F0 m 33 ls [])) (by
        intro n ih33
        intro v33_1 J33 H lo ls hmu33 bv33_1 dj_J33 g33 hP hS hl
        refine lv_iload_n hx hb dX7_tell_33 rfl (lv_at hl 1 rfl) ?_
        refine lv_sipush (v := 640) hx hb dX7_tell_34 (by decide +kernel) ?_
        refine lv_icmp_ge (tgt := 53) hx hb dX7_tell_37 (by decide) (fun c37 => ?_) (fun c37 => ?_)
        · have t37 := tq_le (k := (640)) (q := v33_1.toInt) c37 (by decide +kernel) rfl
          have h53 : hOK Q I12 p0 := fun _ yh e i hi => by
            obtain ⟨y, e1, l1, k1⟩ := oQ_7_1 (Sv_at hQ hLp0 hKp0)
            obtain rfl : yh = y := Option.some.inj (e.symm.trans e1)
            rw [h12 yh e i (by omega)]; rw [show (0 : Int32).toInt = 0 from by decide +kernel]; unfold rng; omega
          refine lv_aload_n hx hb dX7_tell_53 rfl (lv_at hl 0 rfl) ?_
          refine sw_ir (Z := (fun u => (fun I1 J1 => Iv L K x0 m0 tx ((I12 m0 13, tm.1.2.1, I12 tm.1.2.1), tm.2) I1 ∧ (∀ b, ¬ (b = p0) → I1 b = I12 b) ∧ I1 p0 11 = I12 p0 11 ∧ ((I12 p0 14).toInt ≤ (I1 p0 14).toInt ∧ ((I1 p0 15).toInt = -1 → (I12 p0 15).toInt = -1) ∧ (∀ k, ¬ k = 14 → I1 p0 k = I12 p0 k) ∧ (¬ u.toInt = -1 → (I1 p0 14).toInt < (I1 p0 13).toInt)) ∧ (u.toInt = sgB ((tb (I12 tm.1.2.1) (I12 p0 13).toInt) (sk (tb (I12 tm.1.2.1) (I12 p0 13).toInt) (I12 p0 14).toInt)) ∧ (I1 p0 14).toInt = (sk (tb (I12 tm.1.2.1) (I12 p0 13).toInt) (I12 p0 14).toInt)) ∧ (∀ b, K b = 0 ∨ K b = 1 ∨ K b = 3 ∨ K b = 6 → I1 b = I12 b) ∧ J1 = J33))) (va_runV (As := []) (rest := []) ⟨hx, hb, hml, hown, hts⟩ (s_X7_next l dC dI cs L K G Q hQ x0 m0 tx ((I12 m0 13, tm.1.2.1, I12 tm.1.2.1), tm.2) H.size I12 J33 hI12 p0 hLp0 hKp0) (cwV 0 hts (gV pq1211 pq1213 pq10 pq81 pq1214) rfl rfl rfl (by decide +kernel) ⟨(by rw [hR]; exact (Nat.le_of_ble_eq_true rfl)), (by rw [hR]; exact (Nat.le_of_ble_eq_true rfl))⟩) (sP_V hP hD hK hN hLp0 hKp0 rfl rfl) rfl rfl hl.1 rfl (lv_room (Nat.le_of_ble_eq_true rfl)) dX7_tell_54 ⟨(by rw [hR]; exact (Nat.le_of_ble_eq_true rfl)), (by rw [hR]; exact (Nat.le_of_ble_eq_true rfl))⟩) hS hAL hA (fun z54 Iz54 Jz54 H locs hz54 hIz54 hP hS => ?_)
          obtain ⟨hIz54, frc54, kc54_0_11, zr54, fz54, dnc54, djc54⟩ := hIz54
          obtain rfl : J33 = Jz54 := djc54.symm
          have tx54 : Iz54 m0 13 = I12 m0 13 := hIz54.2.2.2.1
          have tp54 : Iz54 tm.1.2.1 = I12 tm.1.2.1 := tpM hQ hIz54 hLp0 hKp0
          have hIz54 := Iv_fm hIz54
          replace zr54 : Hid _ := zr54
          replace fz54 : Hid _ := fz54
          have dn_Iz54 : (∀ b, K b = 0 ∨ K b = 1 ∨ K b = 3 ∨ K b = 6 → Iz54 b = I b) := fun b hc => (dnc54 b (by omega)).trans (dn_I12 b hc)
          have bz54 := hz54
          have a54e : (Iz54 p0 14).toInt = sk (tb (I tm.1.2.1) (I p0 13).toInt) 0 := by have q := fz54.2; rw [hc12.1, hc12.2, h12b.2] at q; exact q
          have z54e : z54.toInt = sgB ((tb (I tm.1.2.1) (I p0 13).toInt) (sk (tb (I tm.1.2.1) (I p0 13).toInt) 0)) := by have q := fz54.1; rw [hc12.1, hc12.2, h12b.2] at q; exact q
          have b54 := (oI_7_14 (Iv_at hIz54 hLp0 hKp0)).1
          have f54 : (Iz54 p0 15).toInt = -1 := by rw [zr54.2.2.1 15 (by decide)]; exact h12b.1
          have M54 : (Iz54 ((Q p0 1).getD 0) 0).toInt = 0 := by rw [frc54 _ nyh, eYH, h12 yh0 eyh0 0 (by omega)]; decide +kernel
          have N54 : (Iz54 ((Q p0 1).getD 0) 1).toInt = 0 := by rw [frc54 _ nyh, eYH, h12 yh0 eyh0 1 (by omega)]; decide +kernel
          refine lv_iconst (v := (-1)) hx hb dX7_tell_57 (by decide +kernel) ?_
          have j66 : ∀ (w66_0 : Int32) (H : Heap) (lo : List Loc) (ls : Array Slot), ((0) ≤ w66_0.toInt ∧ w66_0.toInt ≤ 1) → Hid ((w66_0.toInt = 1 ∧ ¬ (tb (I tm.1.2.1) (I p0 13).toInt) (sk (tb (I tm.1.2.1) (I p0 13).toInt) 0) = -1000) ∨ (w66_0.toInt = 0 ∧ (tb (I tm.1.2.1) (I p0 13).toInt) (sk (tb (I tm.1.2.1) (I p0 13).toInt) 0) = -1000)) → va_P (dC, dI) vwCl (Wd cs L K Iz54 J33 Q) H → va_S A s.heap H lo → lv_has ls 2 [(0, .ref p0), (1, .int v33_1)] → W p l e R s m (([.ref p0] : List Value).toArray) below meth c H lo 0 0 Qz (F0 m 66 ls [.int w66_0]) := by
            intro w66_0 H lo ls bw66_0 hc66 hP hS hl
            refine lv_istore_n (lv' := [(1, .int w66_0), (0, .ref p0)]) hx hb dX7_tell_66 rfl hl (by decide) rfl (fun ls hl => ?_)
            have key67 := blocks (fun n => ∀ (v67_1 : Int32) (I67 : Nat → Nat → Int32) (J67 : Nat → Nat → Int64) (H : Heap) (lo : List Loc) (ls : Array Slot), 2 * (401 - (I67 p0 14).toInt).toNat + v67_1.toInt.toNat = n → ((0) ≤ v67_1.toInt ∧ v67_1.toInt ≤ 1) → Iv L K x0 m0 tx ((I67 m0 13, tm.1.2.1, I67 tm.1.2.1), tm.2) I67 → (∀ b, K b = 0 ∨ K b = 1 ∨ K b = 3 ∨ K b = 6 → I67 b = I b) → (∀ b, ¬ (K b = 21 ∨ K b = 32) → J67 b = J b) → hOK Q I67 p0 → Hid ((∀ σ : Sx, cmA Q I J p0 σ → cmA Q I67 J67 p0 σ)) → Hid (((I67 p0 15).toInt = -1 → hrG Q I67 J67 p0 (tb (I tm.1.2.1) (I p0 13).toInt) v67_1.toInt (I67 p0 14).toInt)) → tlL (tb (I tm.1.2.1) (I p0 13).toInt) (tellR (tb (I tm.1.2.1) (I p0 13).toInt)) I I67 p0 ((Q p0 1).getD 0) tm.1.2.1 v67_1.toInt (I67 p0 14).toInt → va_P (dC, dI) vwCl (Wd cs L K I67 J67 Q) H → va_S A s.heap H lo → lv_has ls 2 [(0, .ref p0), (1, .int v67_1)] → W p l e R s m (([.ref p0] : List Value).toArray) below meth c H lo 0 0 Qz (F0 m 67 ls [])) (by
              intro n ih67
              intro v67_1 I67 J67 H lo ls hmu67 bv67_1 hI67 dn_I67 dj_J67 h67 gm67 g67 hc67 hP hS hl
              refine lv_iload_n hx hb dX7_tell_67 rfl (lv_at hl 1 rfl) ?_
              have j120 : ∀ (H : Heap) (lo : List Loc) (ls : Array Slot), Hid (((I67 p0 15).toInt = -1 → v67_1.toInt = 0)) → ((I67 tm.1.2.1 = I tm.1.2.1 ∧ I67 p0 13 = I p0 13) ∧ tlF (tb (I tm.1.2.1) (I p0 13).toInt) (tellR (tb (I tm.1.2.1) (I p0 13).toInt)) (I67 p0 15).toInt (I67 ((Q p0 1).getD 0) 1).toInt (I67 p0 14).toInt) → va_P (dC, dI) vwCl (Wd cs L K I67 J67 Q) H → va_S A s.heap H lo → lv_has ls 2 [(0, .ref p0), (1, .int v67_1)] → W p l e R s m (([.ref p0] : List Value).toArray) below meth c H lo 0 0 Qz (F0 m 120 ls []) := by
                intro H lo ls g120 hc120 hP hS hl
                refine lv_aload_n hx hb dX7_tell_120 rfl (lv_at hl 0 rfl) ?_
                refine ro_i (va_runV (As := []) (rest := []) ⟨hx, hb, hml, hown, hts⟩ (s_X7_isRight l dC dI cs L K G Q hQ x0 m0 tx ((I67 m0 13, tm.1.2.1, I67 tm.1.2.1), tm.2) H.size I67 J67 hI67 p0 hLp0 hKp0) (cwV 0 hts (gV pq1219 pq1221 pq12 pq81 pq1222) rfl rfl rfl (by decide +kernel) ⟨(by rw [hR]; exact (Nat.le_of_ble_eq_true rfl)), (by rw [hR]; exact (Nat.le_of_ble_eq_true rfl))⟩) (sP_V hP hD hK hN hLp0 hKp0 rfl rfl) rfl rfl hl.1 rfl (lv_room (Nat.le_of_ble_eq_true rfl)) dX7_tell_121 ⟨(by rw [hR]; exact (Nat.le_of_ble_eq_true rfl)), (by rw [hR]; exact (Nat.le_of_ble_eq_true rfl))⟩) hS hP (fun z121 H locs hz121 hP hS => ?_)
                obtain ⟨bz121, xpz121⟩ := hz121
                replace xpz121 : Hid _ := xpz121
                have j144 : ∀ (I144 : Nat → Nat → Int32) (H : Heap) (lo : List Loc) (ls : Array Slot), Iv L K x0 m0 tx ((I144 m0 13, tm.1.2.1, I144 tm.1.2.1), tm.2) I144 → (∀ b, K b = 0 ∨ K b = 1 ∨ K b = 3 ∨ K b = 6 → I144 b = I b) → hOK Q I144 p0 → Hid ((∀ σ : Sx, cmA Q I J p0 σ → cmA Q I144 J67 p0 σ)) → Hid (((I144 p0 15).toInt = -1 → isF I144 J67 (a0 Q p0 1) (a0 Q p0 6) 0 (tellF (tb (I tm.1.2.1) (I p0 13).toInt)) ∧ okF (tellF (tb (I tm.1.2.1) (I p0 13).toInt)))) → tlE (tellR (tb (I tm.1.2.1) (I p0 13).toInt)) (I144 p0 15).toInt (I144 ((Q p0 1).getD 0) 1).toInt → va_P (dC, dI) vwCl (Wd cs L K I144 J67 Q) H → va_S A s.heap H lo → lv_has ls 2 [(0, .ref p0), (1, .int v67_1)] → W p l e R s m (([.ref p0] : List Value).toArray) below meth c H lo 0 0 Qz (F0 m 144 ls []) := by
                  intro I144 H lo ls hI144 dn_I144 h144 gm144 g144 hc144 hP hS hl
                  refine lv_aload_n hx hb dX7_tell_144 rfl (lv_at hl 0 rfl) ?_
                  refine lv_iconst (v := 0) hx hb dX7_tell_145 (by decide +kernel) ?_
                  refine p_put hx hb hts inX7 tyX7 tyX7_ok nmX7 hown hK hP hD hS hLp0 hKp0 rfl rfl 13 (by decide) (hts _ pq1128) rfl (by decide +kernel) (Nat.le_of_ble_eq_true rfl) (oS_7_13 cs _ _ _ _) dX7_tell_146 (fun H locs hP hS => ?_)
                  obtain ⟨Iz146, hP, hIz146, qIz146⟩ : ∃ Iz146, va_P (dC, dI) vwCl (Wd cs L K Iz146 J67 Q) H ∧ Iv L K x0 m0 tx ((Iz146 m0 13, tm.1.2.1, Iz146 tm.1.2.1), tm.2) Iz146 ∧ Iz146 = va_up I144 p0 (upd (I144 p0) 13 (0 : Int32)) := ⟨_, hP, Iv_putm hI144 hKp0 (oP_7_13 (Iv_at hI144 hLp0 hKp0) ⟨by decide +kernel, by decide +kernel⟩) (by decide) (by decide), rfl⟩
                  have dn_Iz146 : (∀ b, K b = 0 ∨ K b = 1 ∨ K b = 3 ∨ K b = 6 → Iz146 b = I b) := fun b hc => (congrFun qIz146 b).trans ((va_up_ne _ _ (fun z => by have q := hKp0; rw [← z] at q; omega)).trans (dn_I144 b hc))
                  refine lv_aload_n hx hb dX7_tell_149 rfl (lv_at hl 0 rfl) ?_
                  refine ro_i (va_runV (As := []) (rest := []) ⟨hx, hb, hml, hown, hts⟩ (s_X7_isRight l dC dI cs L K G Q hQ x0 m0 tx ((Iz146 m0 13, tm.1.2.1, Iz146 tm.1.2.1), tm.2) H.size Iz146 J67 hIz146 p0 hLp0 hKp0) (cwV 0 hts (gV pq1219 pq1221 pq12 pq81 pq1222) rfl rfl rfl (by decide +kernel) ⟨(by rw [hR]; exact (Nat.le_of_ble_eq_true rfl)), (by rw [hR]; exact (Nat.le_of_ble_eq_true rfl))⟩) (sP_V hP hD hK hN hLp0 hKp0 rfl rfl) rfl rfl hl.1 rfl (lv_room (Nat.le_of_ble_eq_true rfl)) dX7_tell_150 ⟨(by rw [hR]; exact (Nat.le_of_ble_eq_true rfl)), (by rw [hR]; exact (Nat.le_of_ble_eq_true rfl))⟩) hS hP (fun z150 H locs hz150 hP hS => ?_)
                  obtain ⟨bz150, xpz150⟩ := hz150
                  replace xpz150 : Hid _ := xpz150
                  refine lv_if_ne (tgt := 164) hx hb dX7_tell_153 (by decide) (fun c153 => ?_) (fun c153 => ?_)
                  · have t153 := tq_ne (k := z150.toInt) (q := (0)) c153 rfl (by decide +kernel)
                    refine lv_aload_n hx hb dX7_tell_164 rfl (lv_at hl 0 rfl) ?_
                    obtain ⟨y165, ey165, hLy165, hKy165⟩ := oQ_7_1 (Sv_at hQ hLp0 hKp0)
                    refine p_get (v := .ref y165) hx hb hts inX7 hown hK hP hLp0 hKp0 rfl rfl 1 (by decide) (hts _ pq1116) (congrArg (fun q => some (va_rf q)) ey165) dX7_tell_165 ?_
                    refine lv_aload_n hx hb dX7_tell_168 rfl (lv_at hl 0 rfl) ?_
                    obtain ⟨y169, ey169, hLy169, hKy169⟩ := oQ_7_6 (Sv_at hQ hLp0 hKp0)
                    refine p_get (v := .ref y169) hx hb hts inX7 hown hK hP hLp0 hKp0 rfl rfl 6 (by decide) (hts _ pq1121) (congrArg (fun q => some (va_rf q)) ey169) dX7_tell_169 ?_
                    refine lv_iconst (v := 0) hx hb dX7_tell_172 (by decide +kernel) ?_
                    refine lv_aload_n hx hb dX7_tell_173 rfl (lv_at hl 0 rfl) ?_
                    obtain ⟨y174, ey174, hLy174, hKy174⟩ := oQ_7_0 (Sv_at hQ hLp0 hKp0)
                    refine p_get (v := .ref y174) hx hb hts inX7 hown hK hP hLp0 hKp0 rfl rfl 0 (by decide) (hts _ pq1115) (congrArg (fun q => some (va_rf q)) ey174) dX7_tell_174 ?_
                    refine lv_aload_n hx hb dX7_tell_177 rfl (lv_at hl 0 rfl) ?_
                    obtain ⟨y178, ey178, hLy178, hKy178⟩ := oQ_7_5 (Sv_at hQ hLp0 hKp0)
                    refine p_get (v := .ref y178) hx hb hts inX7 hown hK hP hLp0 hKp0 rfl rfl 5 (by decide) (hts _ pq1120) (congrArg (fun q => some (va_rf q)) ey178) dX7_tell_178 ?_
                    refine lv_iconst (v := 0) hx hb dX7_tell_181 (by decide +kernel) ?_
                    refine sw_v (Z := (fun I1 J1 => Iv L K x0 m0 tx ((Iz146 m0 13, tm.1.2.1, Iz146 tm.1.2.1), tm.2) I1 ∧ (∀ b, ¬ (b = y174) → I1 b = Iz146 b) ∧ cpd 99 (0 : Int32).toInt.toNat (0 : Int32).toInt.toNat (Iz146 y165) (Iz146 y174) (I1 y174) ∧ cpd 640 (0 : Int32).toInt.toNat (0 : Int32).toInt.toNat (J67 y169) (J67 y178) (J1 y178) ∧ (∀ b, ¬ (K b = 21) → J1 b = J67 b))) (va_runS (As := [.ref y165, .ref y169, .int 0, .ref y174, .ref y178, .int 0]) (rest := []) ⟨hx, hb, hml, hown, hts⟩ (s_X7_movesH l dC dI cs L K G Q hQ x0 m0 tx ((Iz146 m0 13, tm.1.2.1, Iz146 tm.1.2.1), tm.2) H.size Iz146 J67 hIz146 y165 hLy165 hKy165 y169 hLy169 hKy169 0 ⟨by decide +kernel, by decide +kernel⟩ y174 hLy174 hKy174 y178 hLy178 hKy178 0 ⟨by decide +kernel, by decide +kernel⟩ (fun i hi => hO_fr hQ hLp0 hKp0 (fun b q => by rw [qIz146, va_up_ne _ _ q]) (fun h => by rw [qIz146, rz_fr _ _ _ _ (by decide)] at h; exact h) h144 (xpz150.1 t153) y165 ey165 i hi)) (va_cwS 6 hts (gS pq1291 pq1292 pq81 pq1293) rfl rfl rfl (by decide +kernel) ⟨(by rw [hR]; exact (Nat.le_of_ble_eq_true rfl)), (by rw [hR]; exact (Nat.le_of_ble_eq_true rfl))⟩) (sP_S hP hD hK hN) rfl rfl hl.1 rfl (lv_room (Nat.le_of_ble_eq_true rfl)) dX7_tell_182 ⟨(by rw [hR]; exact (Nat.le_of_ble_eq_true rfl)), (by rw [hR]; exact (Nat.le_of_ble_eq_true rfl))⟩) hS hAL hA (fun Iz182 Jz182 H locs hz182 hIz182 hP hS => ?_)
                    obtain ⟨hIz182, frc182, fz182, jz182, djc182⟩ := hIz182
                    have dj_Jz182 : (∀ b, ¬ (K b = 21 ∨ K b = 32) → Jz182 b = J b) := fun b hc => (djc182 b (fun z => hc (by omega))).trans (dj_J67 b hc)
                    have tx182 : Iz182 m0 13 = Iz146 m0 13 := hIz182.2.2.2.1
                    have tp182 : Iz182 tm.1.2.1 = Iz146 tm.1.2.1 := tpM hQ hIz182 hLp0 hKp0
                    have hIz182 := Iv_fm hIz182
                    replace fz182 : Hid _ := fz182
                    have dn_Iz182 : (∀ b, K b = 0 ∨ K b = 1 ∨ K b = 3 ∨ K b = 6 → Iz182 b = I b) := fun b hc => (frc182 b (fun z => by have q := hKy174; rw [← z] at q; omega)).trans (dn_Iz146 b hc)
                    have cst182_0 : (0 : Int32).toInt = 0 := by decide +kernel
                    refine lv_aload_n hx hb dX7_tell_185 rfl (lv_at hl 0 rfl) ?_
                    refine lv_iconst (v := 0) hx hb dX7_tell_186 (by decide +kernel) ?_
                    refine p_put hx hb hts inX7 tyX7 tyX7_ok nmX7 hown hK hP hD hS hLp0 hKp0 rfl rfl 11 (by decide) (hts _ pq1126) rfl (by decide +kernel) (Nat.le_of_ble_eq_true rfl) (oS_7_11 cs _ _ _ _) dX7_tell_187 (fun H locs hP hS => ?_)
                    obtain ⟨Iz187, hP, hIz187, qIz187⟩ : ∃ Iz187, va_P (dC, dI) vwCl (Wd cs L K Iz187 Jz182 Q) H ∧ Iv L K x0 m0 tx ((Iz187 m0 13, tm.1.2.1, Iz187 tm.1.2.1), tm.2) Iz187 ∧ Iz187 = va_up Iz182 p0 (upd (Iz182 p0) 11 (0 : Int32)) := ⟨_, hP, Iv_putm hIz182 hKp0 (oP_7_11 (Iv_at hIz182 hLp0 hKp0) ⟨by decide +kernel, by decide +kernel⟩) (by decide) (by decide), rfl⟩
                    have dn_Iz187 : (∀ b, K b = 0 ∨ K b = 1 ∨ K b = 3 ∨ K b = 6 → Iz187 b = I b) := fun b hc => (congrFun qIz187 b).trans ((va_up_ne _ _ (fun z => by have q := hKp0; rw [← z] at q; omega)).trans (dn_Iz182 b hc))
                    refine lv_aload_n hx hb dX7_tell_190 rfl (lv_at hl 0 rfl) ?_
                    refine p_get (v := .ref y174) hx hb hts inX7 hown hK hP hLp0 hKp0 rfl rfl 0 (by decide) (hts _ pq1115) (congrArg (fun q => some (va_rf q)) ey174) dX7_tell_191 ?_
                    refine lv_iconst (v := 1) hx hb dX7_tell_194 (by decide +kernel) ?_
                    refine p_iald hx hb hK hP 8 hLy174 hKy174 rfl rfl (in_d (by decide +kernel)) dX7_tell_195 ?_
                    refine lv_topi (fun z195 ez195 => ?_)
                    have bz195 := rng1 (oR_18 (i := (1 : Int32)) (k := (1)) (by decide +kernel) (Iv_at hIz187 hLy174 hKy174))
                    rw [← ez195] at bz195
                    subst hR; subst hQz
                    exact W.iret (v := z195) hx hb hr (fun t ht hW => ⟨⟨z195, z195, rfl, ⟨rfl, trivial⟩, ⟨Iz187, Jz182, ⟨hIz187, (by rw [← hpm, qIz187, rz_fr _ _ _ _ (by decide), frc182 p0 (ne_k hKp0 hKy174 (by decide)), qIz146, rz_at]; decide +kernel), (by have q : (Iz146 p0 15) = I144 p0 15 := (by rw [qIz146, rz_fr _ _ _ _ (by decide)]); have w := xpz150.1 t153; rw [q] at w; exact hc144.elim (fun e => absurd w e.1) (fun e => by rw [e.2, show ((Q p0 1).getD 0) = y165 from (by rw [ey165]; rfl), ez195, qIz187, va_up_ne _ _ (ne_k hKy174 hKp0 (by decide))]; have z := fz182.1 1 (by decide); rw [show 99 * (0 : Int32).toInt.toNat + 1 = 1 from by decide +kernel] at z; rw [show (1 : Int32).toNatClampNeg = 1 from by decide +kernel, z, qIz146, va_up_ne _ _ (ne_k hKy165 hKp0 (by decide))])), dn_Iz187, (fun σ h => by have w : (I144 p0 15).toInt = -1 := (by have q : (Iz146 p0 15) = I144 p0 15 := (by rw [qIz146, rz_fr _ _ _ _ (by decide)]); have w := xpz150.1 t153; rw [q] at w; exact w); have g := g144 w; have ok := g.2.2.1; have n1 := g.1.1 1 (by decide); have e1 : (I144 ((Q p0 1).getD 0) 1) = (tellF (tb (I tm.1.2.1) (I p0 13).toInt)).1 1 := n1; rw [te_y (t := (tb (I tm.1.2.1) (I p0 13).toInt)) (hc144.elim (fun e => absurd w e.1) (fun e => by rw [e.2, e1]; omega))]; have eA : a0 Q p0 1 = y165 := gd_of ey165; have eB : a0 Q p0 6 = y169 := gd_of ey169; have eC : a0 Q p0 0 = y174 := gd_of ey174; have eD : a0 Q p0 5 = y178 := gd_of ey178; exact cmA_now hQ hLp0 hKp0 (by rw [eC, eD]; exact isF_fr (show Iz187 y174 = Iz182 y174 by rw [qIz187, va_up_ne _ _ (ne_k hKy174 hKp0 (by decide))]) rfl (isF_mv (I := Iz146) (J := J67) fz182 jz182 (isF_fr (show Iz146 y165 = I144 y165 by rw [qIz146, va_up_ne _ _ (ne_k hKy165 hKp0 (by decide))]) rfl (by have q := g.1; rw [eA, eB] at q; exact q)))) (fun b hb => by rw [qIz187, va_up_ne _ _ (fun z => by rw [z, hKp0] at hb; omega), frc182 b (fun z => by rw [z, hKy174] at hb; omega), qIz146, va_up_ne _ _ (fun z => by rw [z, hKp0] at hb; omega)]) (fun b hb => djc182 b (by omega)) (by rw [qIz187, rz_at]; decide +kernel) (Nat.zero_le _) (gm144 σ h)), dj_Jz182⟩, by rw [ht]; exact hP⟩⟩, hS.F ht⟩) hS.2.2 dX7_tell_196
                  · have t153 := tq_eq (k := z150.toInt) (q := (0)) c153 rfl (by decide +kernel)
                    refine lv_bipush (v := (-2)) hx hb dX7_tell_156 (by decide +kernel) ?_
                    refine lv_aload_n hx hb dX7_tell_158 rfl (lv_at hl 0 rfl) ?_
                    refine p_get hx hb hts inX7 hown hK hP hLp0 hKp0 rfl rfl 15 (by decide) (hts _ pq1130) rfl dX7_tell_159 ?_
                    refine lv_topi (fun z159 ez159 => ?_)
                    have cgz159 := congrArg Int32.toInt ez159
                    have bz159 := oI_7_15 (Iv_at hIz146 hLp0 hKp0)
                    rw [← ez159] at bz159
                    refine lv_isub hx hb dX7_tell_162 ?_
                    refine lv_topi (fun z162 ez162 => ?_)
                    have bz162 := tq_sub (k := (-2)) (q := z159.toInt) ez162 (by decide +kernel) rfl (by omega) (by omega)
                    subst hR; subst hQz
                    exact W.iret (v := z162) hx hb hr (fun t ht hW => ⟨⟨z162, z162, rfl, ⟨rfl, trivial⟩, ⟨Iz146, J67, ⟨hIz146, (by rw [← hpm, qIz146, rz_at]; decide +kernel), (by have q : (Iz146 p0 15) = I144 p0 15 := (by rw [qIz146, rz_fr _ _ _ _ (by decide)]); have w := xpz150.2 t153; rw [q] at w; exact hc144.elim (fun e => by rw [e.2, bz162, ez159, q]) (fun e => absurd e.1 w)), dn_Iz146, (fun σ h => by have w : ¬ (I144 p0 15).toInt = -1 := (by have q : (Iz146 p0 15) = I144 p0 15 := (by rw [qIz146, rz_fr _ _ _ _ (by decide)]); have w := xpz150.2 t153; rw [q] at w; exact w); have b := oI_7_15 (Iv_at hI144 hLp0 hKp0); rw [te_n (t := (tb (I tm.1.2.1) (I p0 13).toInt)) (hc144.elim (fun e => by rw [e.2]; omega) (fun e => absurd e.1 w))]; exact cmA_tp hQ hLp0 hKp0 qIz146 (by decide) (gm144 σ h)), dj_J67⟩, by rw [ht]; exact hP⟩⟩, hS.F ht⟩) hS.2.2 dX7_tell_163
                refine lv_if_eq (tgt := 144) hx hb dX7_tell_124 (by decide) (fun c124 => ?_) (fun c124 => ?_)
                · have t124 := tq_eq (k := z121.toInt) (q := (0)) c124 rfl (by decide +kernel)
                  exact j144 I67 _ _ _ hI67 dn_I67 h67 gm67 (fun h => absurd h (xpz121.2 t124)) (tlE_bad hc120.2 (xpz121.2 t124)) hP hS (lv_sub hl [0, 1] rfl)
                · have t124 := tq_ne (k := z121.toInt) (q := (0)) c124 rfl (by decide +kernel)
                  refine lv_aload_n hx hb dX7_tell_127 rfl (lv_at hl 0 rfl) ?_
                  refine sw_ir (Z := (fun u => (fun I1 J1 => Iv L K x0 m0 tx ((I67 m0 13, tm.1.2.1, I67 tm.1.2.1), tm.2) I1 ∧ (∀ b, ¬ (b = p0) → I1 b = I67 b) ∧ I1 p0 11 = I67 p0 11 ∧ ((I67 p0 14).toInt ≤ (I1 p0 14).toInt ∧ ((I1 p0 15).toInt = -1 → (I67 p0 15).toInt = -1) ∧ (∀ k, ¬ k = 14 → I1 p0 k = I67 p0 k) ∧ (¬ u.toInt = -1 → (I1 p0 14).toInt < (I1 p0 13).toInt)) ∧ (u.toInt = sgB ((tb (I67 tm.1.2.1) (I67 p0 13).toInt) (sk (tb (I67 tm.1.2.1) (I67 p0 13).toInt) (I67 p0 14).toInt)) ∧ (I1 p0 14).toInt = (sk (tb (I67 tm.1.2.1) (I67 p0 13).toInt) (I67 p0 14).toInt)) ∧ (∀ b, K b = 0 ∨ K b = 1 ∨ K b = 3 ∨ K b = 6 → I1 b = I67 b) ∧ J1 = J67))) (va_runV (As := []) (rest := []) ⟨hx, hb, hml, hown, hts⟩ (s_X7_next l dC dI cs L K G Q hQ x0 m0 tx ((I67 m0 13, tm.1.2.1, I67 tm.1.2.1), tm.2) H.size I67 J67 hI67 p0 hLp0 hKp0) (cwV 0 hts (gV pq1211 pq1213 pq10 pq81 pq1214) rfl rfl rfl (by decide +kernel) ⟨(by rw [hR]; exact (Nat.le_of_ble_eq_true rfl)), (by rw [hR]; exact (Nat.le_of_ble_eq_true rfl))⟩) (sP_V hP hD hK hN hLp0 hKp0 rfl rfl) rfl rfl hl.1 rfl (lv_room (Nat.le_of_ble_eq_true rfl)) dX7_tell_128 ⟨(by rw [hR]; exact (Nat.le_of_ble_eq_true rfl)), (by rw [hR]; exact (Nat.le_of_ble_eq_true rfl))⟩) hS hAL hA (fun z128 Iz128 Jz128 H locs hz128 hIz128 hP hS => ?_)
                  obtain ⟨hIz128, frc128, kc128_0_11, zr128, fz128, dnc128, djc128⟩ := hIz128
                  obtain rfl : J67 = Jz128 := djc128.symm
                  have tx128 : Iz128 m0 13 = I67 m0 13 := hIz128.2.2.2.1
                  have tp128 : Iz128 tm.1.2.1 = I67 tm.1.2.1 := tpM hQ hIz128 hLp0 hKp0
                  have hIz128 := Iv_fm hIz128
                  replace zr128 : Hid _ := zr128
                  replace fz128 : Hid _ := fz128
                  have dn_Iz128 : (∀ b, K b = 0 ∨ K b = 1 ∨ K b = 3 ∨ K b = 6 → Iz128 b = I b) := fun b hc => (dnc128 b (by omega)).trans (dn_I67 b hc)
                  have bz128 := hz128
                  have a128 : (Iz128 p0 14).toInt = (I67 p0 14).toInt := by have q := fz128.2; rw [hc120.1.1, hc120.1.2, tlF_sk hc120.2 (xpz121.1 t124)] at q; exact q
                  have z128e : z128.toInt = sgB ((tb (I tm.1.2.1) (I p0 13).toInt) (I67 p0 14).toInt) := by have q := fz128.1; rw [hc120.1.1, hc120.1.2, tlF_sk hc120.2 (xpz121.1 t124)] at q; exact q
                  refine lv_iconst (v := (-1)) hx hb dX7_tell_131 (by decide +kernel) ?_
                  refine lv_icmp_eq (tgt := 144) hx hb dX7_tell_132 (by decide) (fun c132 => ?_) (fun c132 => ?_)
                  · have t132 := tq_eq (k := z128.toInt) (q := (-1)) c132 rfl (by decide +kernel)
                    exact j144 Iz128 _ _ _ hIz128 dn_Iz128 (hO_fr hQ hLp0 hKp0 frc128 zr128.2.1 h67) (fun σ h => cmA_h0 hQ hLp0 hKp0 frc128 kc128_0_11 (gm67 σ h)) (fun _ => by obtain ⟨ct, a, b, d, e1, e2⟩ := g67 (xpz121.1 t124); rw [e2 (g120 (xpz121.1 t124))]; exact ⟨isF_fr (show Iz128 (a0 Q p0 1) = I67 (a0 Q p0 1) from frc128 _ nyh) rfl a, b⟩) (tlE_end hc120.2 (xpz121.1 t124) (sg_e (z128e.symm.trans t132)) (by rw [frc128 _ nyh]) (by rw [zr128.2.2.1 15 (by decide)])) hP hS (lv_sub hl [0, 1] rfl)
                  · have t132 := tq_ne (k := z128.toInt) (q := (-1)) c132 rfl (by decide +kernel)
                    refine lv_aload_n hx hb dX7_tell_135 rfl (lv_at hl 0 rfl) ?_
                    refine lv_iconst (v := 1) hx hb dX7_tell_136 (by decide +kernel) ?_
                    refine lv_aload_n hx hb dX7_tell_137 rfl (lv_at hl 0 rfl) ?_
                    refine p_get hx hb hts inX7 hown hK hP hLp0 hKp0 rfl rfl 14 (by decide) (hts _ pq1129) rfl dX7_tell_138 ?_
                    refine lv_topi (fun z138 ez138 => ?_)
                    have cgz138 := congrArg Int32.toInt ez138
                    have bz138 := oI_7_14 (Iv_at hIz128 hLp0 hKp0)
                    rw [← ez138] at bz138
                    refine sw_v (Z := (fun I1 J1 => Iv L K x0 m0 tx ((Iz128 m0 13, tm.1.2.1, Iz128 tm.1.2.1), tm.2) I1 ∧ (∀ b, ¬ (b = p0) → I1 b = Iz128 b) ∧ I1 p0 11 = Iz128 p0 11 ∧ (((Iz128 p0 14).toInt ≤ (I1 p0 14).toInt ∧ ((I1 p0 15).toInt = -1 → (Iz128 p0 15).toInt = -1) ∧ (∀ k, ¬ k = 15 → I1 p0 k = Iz128 p0 k) ∧ ¬ (I1 p0 15).toInt = -1)) ∧ (((Iz128 p0 15).toInt = -1 → (I1 p0 15).toInt = 8 * z138.toInt + (1 : Int32).toInt) ∧ (¬ (Iz128 p0 15).toInt = -1 → I1 p0 15 = Iz128 p0 15)) ∧ (∀ b, K b = 0 ∨ K b = 1 ∨ K b = 3 ∨ K b = 6 → I1 b = Iz128 b) ∧ J1 = J67)) (va_runV (As := [.int 1, .int z138]) (rest := []) ⟨hx, hb, hml, hown, hts⟩ (s_X7_fails l dC dI cs L K G Q hQ x0 m0 tx ((Iz128 m0 13, tm.1.2.1, Iz128 tm.1.2.1), tm.2) H.size Iz128 J67 hIz128 p0 hLp0 hKp0 1 ⟨by decide +kernel, by decide +kernel⟩ z138 ⟨by omega, by omega⟩) (cwV 2 hts (gV pq1239 pq1241 pq15 pq81 pq1242) rfl rfl rfl (by decide +kernel) ⟨(by rw [hR]; exact (Nat.le_of_ble_eq_true rfl)), (by rw [hR]; exact (Nat.le_of_ble_eq_true rfl))⟩) (sP_V hP hD hK hN hLp0 hKp0 rfl rfl) rfl rfl hl.1 rfl (lv_room (Nat.le_of_ble_eq_true rfl)) dX7_tell_141 ⟨(by rw [hR]; exact (Nat.le_of_ble_eq_true rfl)), (by rw [hR]; exact (Nat.le_of_ble_eq_true rfl))⟩) hS hAL hA (fun Iz141 Jz141 H locs hz141 hIz141 hP hS => ?_)
                    obtain ⟨hIz141, frc141, kc141_0_11, zp141, fz141, dnc141, djc141⟩ := hIz141
                    obtain rfl : J67 = Jz141 := djc141.symm
                    have tx141 : Iz141 m0 13 = Iz128 m0 13 := hIz141.2.2.2.1
                    have tp141 : Iz141 tm.1.2.1 = Iz128 tm.1.2.1 := tpM hQ hIz141 hLp0 hKp0
                    have hIz141 := Iv_fm hIz141
                    replace zp141 : Hid _ := zp141
                    replace fz141 : Hid _ := fz141
                    have dn_Iz141 : (∀ b, K b = 0 ∨ K b = 1 ∨ K b = 3 ∨ K b = 6 → Iz141 b = I b) := fun b hc => (dnc141 b (by omega)).trans (dn_Iz128 b hc)
                    have cst141_1 : (1 : Int32).toInt = 1 := by decide +kernel
                    exact j144 Iz141 _ _ _ hIz141 dn_Iz141 (fun h => absurd h zp141.2.2.2) (fun σ h => cmA_h0 hQ hLp0 hKp0 frc141 kc141_0_11 (cmA_h0 hQ hLp0 hKp0 frc128 kc128_0_11 (gm67 σ h))) (fun h => absurd h zp141.2.2.2) (tlE_sig hc120.2 (xpz121.1 t124) (fun h => t132 (z128e.trans (by rw [h]; rfl))) (oI_7_14 (Iv_at hI67 hLp0 hKp0)).1 ((fz141.1 (by rw [zr128.2.2.1 15 (by decide)]; exact xpz121.1 t124)).trans (by rw [cst141_1, cgz138, a128]))) hP hS (lv_sub hl [0, 1] rfl)
              refine lv_if_eq (tgt := 120) hx hb dX7_tell_68 (by decide) (fun c68 => ?_) (fun c68 => ?_)
              · have t68 := tq_eq (k := v67_1.toInt) (q := (0)) c68 rfl (by decide +kernel)
                exact j120  _ _ _ (fun _ => t68) ⟨hc67.1, tlL_end hc67 t68⟩ hP hS (lv_sub hl [0, 1] rfl)
              · have t68 := tq_ne (k := v67_1.toInt) (q := (0)) c68 rfl (by decide +kernel)
                refine lv_aload_n hx hb dX7_tell_71 rfl (lv_at hl 0 rfl) ?_
                refine ro_i (va_runV (As := []) (rest := []) ⟨hx, hb, hml, hown, hts⟩ (s_X7_isRight l dC dI cs L K G Q hQ x0 m0 tx ((I67 m0 13, tm.1.2.1, I67 tm.1.2.1), tm.2) H.size I67 J67 hI67 p0 hLp0 hKp0) (cwV 0 hts (gV pq1219 pq1221 pq12 pq81 pq1222) rfl rfl rfl (by decide +kernel) ⟨(by rw [hR]; exact (Nat.le_of_ble_eq_true rfl)), (by rw [hR]; exact (Nat.le_of_ble_eq_true rfl))⟩) (sP_V hP hD hK hN hLp0 hKp0 rfl rfl) rfl rfl hl.1 rfl (lv_room (Nat.le_of_ble_eq_true rfl)) dX7_tell_72 ⟨(by rw [hR]; exact (Nat.le_of_ble_eq_true rfl)), (by rw [hR]; exact (Nat.le_of_ble_eq_true rfl))⟩) hS hP (fun z72 H locs hz72 hP hS => ?_)
                obtain ⟨bz72, xpz72⟩ := hz72
                replace xpz72 : Hid _ := xpz72
                refine lv_if_eq (tgt := 120) hx hb dX7_tell_75 (by decide) (fun c75 => ?_) (fun c75 => ?_)
                · have t75 := tq_eq (k := z72.toInt) (q := (0)) c75 rfl (by decide +kernel)
                  exact j120  _ _ _ (fun h => absurd h (xpz72.2 t75)) ⟨hc67.1, tlL_bad hc67 (xpz72.2 t75)⟩ hP hS (lv_sub hl [0, 1] rfl)
                · have t75 := tq_ne (k := z72.toInt) (q := (0)) c75 rfl (by decide +kernel)
                  have b67 := oI_7_14 (Iv_at hI67 hLp0 hKp0)
                  have L67 := tlL_go hc67 t68 b67.2
                  refine lv_aload_n hx hb dX7_tell_78 rfl (lv_at hl 0 rfl) ?_
                  refine sw_v (Z := (fun I1 J1 => Iv L K x0 m0 tx ((I67 m0 13, tm.1.2.1, I67 tm.1.2.1), tm.2) I1 ∧ (∀ b, ¬ (K b = 7 ∨ K b = 28) → I1 b = I67 b) ∧ I1 p0 11 = I67 p0 11 ∧ (hJ Q I67 I1 p0) ∧ mpC (I67 tm.1.2.1) I67 I1 p0 ((Q p0 1).getD 0) ∧ (∀ b, K b = 0 ∨ K b = 1 ∨ K b = 3 ∨ K b = 6 → I1 b = I67 b) ∧ (∀ c : Fx, okF c → isF I67 J67 (a0 Q p0 1) (a0 Q p0 6) 0 c → zF c → (I1 p0 15).toInt = -1 → isF I1 J1 (a0 Q p0 1) (a0 Q p0 6) 0 (pcT (tb (I67 tm.1.2.1) (I67 p0 13).toInt) c (I67 p0 14).toInt) ∧ okF (pcT (tb (I67 tm.1.2.1) (I67 p0 13).toInt) c (I67 p0 14).toInt) ∧ zF (pcT (tb (I67 tm.1.2.1) (I67 p0 13).toInt) c (I67 p0 14).toInt)) ∧ (∀ b, ¬ (K b = 32) → J1 b = J67 b))) (va_runV (As := []) (rest := []) ⟨hx, hb, hml, hown, hts⟩ (s_X7_readsPart l dC dI cs L K G Q hQ x0 m0 tx ((I67 m0 13, tm.1.2.1, I67 tm.1.2.1), tm.2) H.size I67 J67 hI67 p0 hLp0 hKp0 h67 (xpz72.1 t75)) (cwV 0 hts (gV pq1223 pq1225 pq13 pq81 pq1226) rfl rfl rfl (by decide +kernel) ⟨(by rw [hR]; exact (Nat.le_of_ble_eq_true rfl)), (by rw [hR]; exact (Nat.le_of_ble_eq_true rfl))⟩) (sPX_V hP hD hK hN hLp0 hKp0 rfl rfl gX_x hS hxx (fun q h => h.elim (hAL q) (fun h => hA q (Nat.le_trans hS.1 h)))) rfl rfl hl.1 rfl (lv_room (Nat.le_of_ble_eq_true rfl)) dX7_tell_79 ⟨(by rw [hR]; exact (Nat.le_of_ble_eq_true rfl)), (by rw [hR]; exact (Nat.le_of_ble_eq_true rfl))⟩) hS hAL hA (fun Iz79 Jz79 H locs hz79 hIz79 hP hS => ?_)
                  obtain ⟨hIz79, frc79, kc79_0_11, zp79, fz79, dnc79, jz79, djc79⟩ := hIz79
                  have dj_Jz79 : (∀ b, ¬ (K b = 21 ∨ K b = 32) → Jz79 b = J b) := fun b hc => (djc79 b (fun z => hc (by omega))).trans (dj_J67 b hc)
                  have tx79 : Iz79 m0 13 = I67 m0 13 := hIz79.2.2.2.1
                  have tp79 : Iz79 tm.1.2.1 = I67 tm.1.2.1 := tpM hQ hIz79 hLp0 hKp0
                  have hIz79 := Iv_fm hIz79
                  replace zp79 : Hid _ := zp79
                  replace fz79 : Hid _ := fz79
                  have dn_Iz79 : (∀ b, K b = 0 ∨ K b = 1 ∨ K b = 3 ∨ K b = 6 → Iz79 b = I b) := fun b hc => (dnc79 b (by omega)).trans (dn_I67 b hc)
                  have P79 := fz79
                  unfold mpC at P79
                  rw [L67.1.1, L67.1.2] at P79
                  refine lv_aload_n hx hb dX7_tell_82 rfl (lv_at hl 0 rfl) ?_
                  refine ro_i (va_runV (As := []) (rest := []) ⟨hx, hb, hml, hown, hts⟩ (s_X7_isRight l dC dI cs L K G Q hQ x0 m0 tx ((Iz79 m0 13, tm.1.2.1, Iz79 tm.1.2.1), tm.2) H.size Iz79 Jz79 hIz79 p0 hLp0 hKp0) (cwV 0 hts (gV pq1219 pq1221 pq12 pq81 pq1222) rfl rfl rfl (by decide +kernel) ⟨(by rw [hR]; exact (Nat.le_of_ble_eq_true rfl)), (by rw [hR]; exact (Nat.le_of_ble_eq_true rfl))⟩) (sP_V hP hD hK hN hLp0 hKp0 rfl rfl) rfl rfl hl.1 rfl (lv_room (Nat.le_of_ble_eq_true rfl)) dX7_tell_83 ⟨(by rw [hR]; exact (Nat.le_of_ble_eq_true rfl)), (by rw [hR]; exact (Nat.le_of_ble_eq_true rfl))⟩) hS hP (fun z83 H locs hz83 hP hS => ?_)
                  obtain ⟨bz83, xpz83⟩ := hz83
                  replace xpz83 : Hid _ := xpz83
                  have j103 : ∀ (w103_0 : Int32) (I103 : Nat → Nat → Int32) (H : Heap) (lo : List Loc) (ls : Array Slot), ((0) ≤ w103_0.toInt ∧ w103_0.toInt ≤ 1) → Iv L K x0 m0 tx ((I103 m0 13, tm.1.2.1, I103 tm.1.2.1), tm.2) I103 → (∀ b, K b = 0 ∨ K b = 1 ∨ K b = 3 ∨ K b = 6 → I103 b = I b) → Hid ((hOK Q I103 p0 ∧ (I67 p0 14).toInt ≤ (I103 p0 14).toInt ∧ (¬ w103_0.toInt = 0 → (I103 p0 14).toInt ≤ 399))) → Hid ((∀ σ : Sx, cmA Q I J p0 σ → cmA Q I103 Jz79 p0 σ)) → Hid (((I103 p0 15).toInt = -1 → hrG Q I103 Jz79 p0 (tb (I tm.1.2.1) (I p0 13).toInt) w103_0.toInt ((I103 p0 14).toInt + w103_0.toInt))) → tlL (tb (I tm.1.2.1) (I p0 13).toInt) (tellR (tb (I tm.1.2.1) (I p0 13).toInt)) I I103 p0 ((Q p0 1).getD 0) tm.1.2.1 w103_0.toInt ((I103 p0 14).toInt + w103_0.toInt) → va_P (dC, dI) vwCl (Wd cs L K I103 Jz79 Q) H → va_S A s.heap H lo → lv_has ls 2 [(0, .ref p0), (1, .int v67_1)] → W p l e R s m (([.ref p0] : List Value).toArray) below meth c H lo 0 0 Qz (F0 m 103 ls [.int w103_0]) := by
                    intro w103_0 I103 H lo ls bw103_0 hI103 dn_I103 h103 gm103 g103 hc103 hP hS hl
                    refine lv_istore_n (lv' := [(1, .int w103_0), (0, .ref p0)]) hx hb dX7_tell_103 rfl hl (by decide) rfl (fun ls hl => ?_)
                    refine lv_aload_n hx hb dX7_tell_104 rfl (lv_at hl 1 rfl) ?_
                    refine lv_dup hx hb dX7_tell_105 rfl ?_
                    refine p_get hx hb hts inX7 hown hK hP hLp0 hKp0 rfl rfl 14 (by decide) (hts _ pq1129) rfl dX7_tell_106 ?_
                    refine lv_topi (fun z106 ez106 => ?_)
                    have cgz106 := congrArg Int32.toInt ez106
                    have bz106 := oI_7_14 (Iv_at hI103 hLp0 hKp0)
                    rw [← ez106] at bz106
                    refine lv_iload_n hx hb dX7_tell_109 rfl (lv_at hl 0 rfl) ?_
                    refine ro_i (va_runS (As := [.int w103_0]) (rest := [.int z106, .ref p0]) ⟨hx, hb, hml, hown, hts⟩ (s_X7_truth l dC dI cs L K Q H.size I103 Jz79 w103_0) (va_cwS 1 hts (gS pq1257 pq1258 pq81 pq1259) rfl rfl rfl (by decide +kernel) ⟨(by rw [hR]; exact (Nat.le_of_ble_eq_true rfl)), (by rw [hR]; exact (Nat.le_of_ble_eq_true rfl))⟩) (sP_S hP hD hK hN) rfl rfl hl.1 rfl (lv_room (Nat.le_of_ble_eq_true rfl)) dX7_tell_110 ⟨(by rw [hR]; exact (Nat.le_of_ble_eq_true rfl)), (by rw [hR]; exact (Nat.le_of_ble_eq_true rfl))⟩) hS hP (fun z110 H locs hz110 hP hS => ?_)
                    obtain ⟨bz110, xpz110⟩ := hz110
                    refine lv_iadd hx hb dX7_tell_113 ?_
                    refine lv_topi (fun z113 ez113 => ?_)
                    have bz113 := tq_add (k := z106.toInt) (q := z110.toInt) ez113 rfl rfl (by omega) (by omega)
                    have q1 := h103.2.2
                    have q2 := xpz110.1
                    have q3 := xpz110.2
                    refine p_put hx hb hts inX7 tyX7 tyX7_ok nmX7 hown hK hP hD hS hLp0 hKp0 rfl rfl 14 (by decide) (hts _ pq1129) rfl (by decide +kernel) (Nat.le_of_ble_eq_true rfl) (oS_7_14 cs _ _ _ _) dX7_tell_114 (fun H locs hP hS => ?_)
                    obtain ⟨Iz114, hP, hIz114, qIz114⟩ : ∃ Iz114, va_P (dC, dI) vwCl (Wd cs L K Iz114 Jz79 Q) H ∧ Iv L K x0 m0 tx ((Iz114 m0 13, tm.1.2.1, Iz114 tm.1.2.1), tm.2) Iz114 ∧ Iz114 = va_up I103 p0 (upd (I103 p0) 14 z113) := ⟨_, hP, Iv_putm hI103 hKp0 (oP_7_14 (Iv_at hI103 hLp0 hKp0) ⟨by omega, by omega⟩) (by decide) (by decide), rfl⟩
                    have dn_Iz114 : (∀ b, K b = 0 ∨ K b = 1 ∨ K b = 3 ∨ K b = 6 → Iz114 b = I b) := fun b hc => (congrFun qIz114 b).trans ((va_up_ne _ _ (fun z => by have q := hKp0; rw [← z] at q; omega)).trans (dn_I103 b hc))
                    refine lv_goto (tgt := 67) hx hb dX7_tell_117 (by decide) ?_
                    exact ih67 _ (by rw [qIz114, rz_at]; have q1 := h103.2.1; have q2 := xpz110.2; omega) w103_0 Iz114 Jz79 _ _ _ rfl ⟨by omega, by omega⟩ hIz114 dn_Iz114 dj_Jz79 (hO_fr hQ hLp0 hKp0 (fun b q => by rw [qIz114, va_up_ne _ _ q]) (fun h => by rw [qIz114, rz_fr _ _ _ _ (by decide)] at h; exact h) h103.1) (fun σ h => cmA_tp hQ hLp0 hKp0 qIz114 (by decide) (gm103 σ h)) (fun hF => by rw [qIz114, rz_fr _ _ _ _ (by decide)] at hF; rw [show (Iz114 p0 14).toInt = (I103 p0 14).toInt + w103_0.toInt by rw [qIz114, rz_at]; omega]; exact hrG_fr (show Iz114 (a0 Q p0 1) = I103 (a0 Q p0 1) by rw [qIz114]; exact va_up_ne _ _ nyh) (g103 hF)) (tlL_put hc103 (by rw [qIz114, va_up_ne _ _ ntm]) (by rw [qIz114, rz_fr _ _ _ _ (by decide)]) (by rw [qIz114, rz_fr _ _ _ _ (by decide)]) (by rw [qIz114, va_up_ne _ _ nyh]) (by rw [qIz114, rz_at]; omega)) hP hS (lv_sub hl [1, 0] rfl)
                  have j102 : ∀ (I102 : Nat → Nat → Int32) (H : Heap) (lo : List Loc) (ls : Array Slot), Iv L K x0 m0 tx ((I102 m0 13, tm.1.2.1, I102 tm.1.2.1), tm.2) I102 → (∀ b, K b = 0 ∨ K b = 1 ∨ K b = 3 ∨ K b = 6 → I102 b = I b) → (hOK Q I102 p0 ∧ (I67 p0 14).toInt ≤ (I102 p0 14).toInt) → Hid ((∀ σ : Sx, cmA Q I J p0 σ → cmA Q I102 Jz79 p0 σ)) → Hid (((I102 p0 15).toInt = -1 → hrG Q I102 Jz79 p0 (tb (I tm.1.2.1) (I p0 13).toInt) 0 0)) → ((I102 tm.1.2.1 = I tm.1.2.1 ∧ I102 p0 13 = I p0 13) ∧ tlF (tb (I tm.1.2.1) (I p0 13).toInt) (tellR (tb (I tm.1.2.1) (I p0 13).toInt)) (I102 p0 15).toInt (I102 ((Q p0 1).getD 0) 1).toInt (I102 p0 14).toInt) → va_P (dC, dI) vwCl (Wd cs L K I102 Jz79 Q) H → va_S A s.heap H lo → lv_has ls 2 [(0, .ref p0), (1, .int v67_1)] → W p l e R s m (([.ref p0] : List Value).toArray) below meth c H lo 0 0 Qz (F0 m 102 ls []) := by
                    intro I102 H lo ls hI102 dn_I102 h102 gm102 g102 hc102 hP hS hl
                    refine lv_iconst (v := 0) hx hb dX7_tell_102 (by decide +kernel) ?_
                    exact j103 0 I102 _ _ _ ⟨by decide +kernel, by decide +kernel⟩ hI102 dn_I102 ⟨h102.1, h102.2, fun h => absurd (by decide +kernel) h⟩ gm102 (fun hF => hrG_0 (by decide +kernel) (g102 hF)) ⟨hc102.1, Or.inr ⟨by decide +kernel, by rw [show (0 : Int32).toInt = 0 from by decide +kernel, Int.add_zero]; exact hc102.2⟩⟩ hP hS (lv_sub hl [0, 1] rfl)
                  refine lv_if_eq (tgt := 102) hx hb dX7_tell_86 (by decide) (fun c86 => ?_) (fun c86 => ?_)
                  · have t86 := tq_eq (k := z83.toInt) (q := (0)) c86 rfl (by decide +kernel)
                    exact j102 Iz79 _ _ _ hIz79 dn_Iz79 ⟨zp79.2, zp79.1⟩ (fun σ h => cmA_hr hQ hLp0 hKp0 frc79 djc79 kc79_0_11 (gm67 σ h)) (fun hF => absurd hF (xpz83.2 t86)) ⟨⟨tp79.trans L67.1.1, P79.1.1.trans L67.1.2⟩, by obtain ⟨k, -, e⟩ := L67.2.2; exact tl_bad e (xpz83.2 t86) L67.2.1 P79.1⟩ hP hS (lv_sub hl [0, 1] rfl)
                  · have t86 := tq_ne (k := z83.toInt) (q := (0)) c86 rfl (by decide +kernel)
                    refine lv_aload_n hx hb dX7_tell_89 rfl (lv_at hl 0 rfl) ?_
                    refine sw_ir (Z := (fun u => (fun I1 J1 => Iv L K x0 m0 tx ((Iz79 m0 13, tm.1.2.1, Iz79 tm.1.2.1), tm.2) I1 ∧ (∀ b, ¬ (b = p0) → I1 b = Iz79 b) ∧ I1 p0 11 = Iz79 p0 11 ∧ ((Iz79 p0 14).toInt ≤ (I1 p0 14).toInt ∧ ((I1 p0 15).toInt = -1 → (Iz79 p0 15).toInt = -1) ∧ (∀ k, ¬ k = 14 → I1 p0 k = Iz79 p0 k) ∧ (¬ u.toInt = -1 → (I1 p0 14).toInt < (I1 p0 13).toInt)) ∧ (u.toInt = sgB ((tb (Iz79 tm.1.2.1) (Iz79 p0 13).toInt) (sk (tb (Iz79 tm.1.2.1) (Iz79 p0 13).toInt) (Iz79 p0 14).toInt)) ∧ (I1 p0 14).toInt = (sk (tb (Iz79 tm.1.2.1) (Iz79 p0 13).toInt) (Iz79 p0 14).toInt)) ∧ (∀ b, K b = 0 ∨ K b = 1 ∨ K b = 3 ∨ K b = 6 → I1 b = Iz79 b) ∧ J1 = Jz79))) (va_runV (As := []) (rest := []) ⟨hx, hb, hml, hown, hts⟩ (s_X7_next l dC dI cs L K G Q hQ x0 m0 tx ((Iz79 m0 13, tm.1.2.1, Iz79 tm.1.2.1), tm.2) H.size Iz79 Jz79 hIz79 p0 hLp0 hKp0) (cwV 0 hts (gV pq1211 pq1213 pq10 pq81 pq1214) rfl rfl rfl (by decide +kernel) ⟨(by rw [hR]; exact (Nat.le_of_ble_eq_true rfl)), (by rw [hR]; exact (Nat.le_of_ble_eq_true rfl))⟩) (sP_V hP hD hK hN hLp0 hKp0 rfl rfl) rfl rfl hl.1 rfl (lv_room (Nat.le_of_ble_eq_true rfl)) dX7_tell_90 ⟨(by rw [hR]; exact (Nat.le_of_ble_eq_true rfl)), (by rw [hR]; exact (Nat.le_of_ble_eq_true rfl))⟩) hS hAL hA (fun z90 Iz90 Jz90 H locs hz90 hIz90 hP hS => ?_)
                    obtain ⟨hIz90, frc90, kc90_0_11, zr90, fz90, dnc90, djc90⟩ := hIz90
                    obtain rfl : Jz79 = Jz90 := djc90.symm
                    have tx90 : Iz90 m0 13 = Iz79 m0 13 := hIz90.2.2.2.1
                    have tp90 : Iz90 tm.1.2.1 = Iz79 tm.1.2.1 := tpM hQ hIz90 hLp0 hKp0
                    have hIz90 := Iv_fm hIz90
                    replace zr90 : Hid _ := zr90
                    replace fz90 : Hid _ := fz90
                    have dn_Iz90 : (∀ b, K b = 0 ∨ K b = 1 ∨ K b = 3 ∨ K b = 6 → Iz90 b = I b) := fun b hc => (dnc90 b (by omega)).trans (dn_Iz79 b hc)
                    have bz90 := hz90
                    have a90 : (Iz90 p0 14).toInt = sk (tb (I tm.1.2.1) (I p0 13).toInt) (Iz79 p0 14).toInt := by have q := fz90.2; rw [tp79, L67.1.1, P79.1.1, L67.1.2] at q; exact q
                    have z90e : z90.toInt = sgB ((tb (I tm.1.2.1) (I p0 13).toInt) (Iz90 p0 14).toInt) := by have q := fz90.1; rw [tp79, L67.1.1, P79.1.1, L67.1.2] at q; rw [a90]; exact q
                    have k90 : sk (tb (I tm.1.2.1) (I p0 13).toInt) (sk (tb (I tm.1.2.1) (I p0 13).toInt) (Iz79 p0 14).toInt) = sk (tb (I tm.1.2.1) (I p0 13).toInt) (Iz79 p0 14).toInt := sk_idem (oI_7_14 (Iv_at hIz79 hLp0 hKp0)).1 bi13.2
                    refine lv_bipush (v := 59) hx hb dX7_tell_93 (by decide +kernel) ?_
                    refine lv_icmp_ne (tgt := 102) hx hb dX7_tell_95 (by decide) (fun c95 => ?_) (fun c95 => ?_)
                    · have t95 := tq_ne (k := z90.toInt) (q := (59)) c95 rfl (by decide +kernel)
                      exact j102 Iz90 _ _ _ hIz90 dn_Iz90 ⟨hO_fr hQ hLp0 hKp0 frc90 zr90.2.1 zp79.2, Int.le_trans zp79.1 zr90.1⟩ (fun σ h => cmA_h0 hQ hLp0 hKp0 frc90 kc90_0_11 (cmA_hr hQ hLp0 hKp0 frc79 djc79 kc79_0_11 (gm67 σ h))) (fun _ => hrG_fr (show Iz90 (a0 Q p0 1) = Iz79 (a0 Q p0 1) from frc90 _ nyh) ((hr_part (g67 L67.2.1) (by omega) b67 (fun c a b d => by have w := jz79 c a b d (xpz83.1 t86); rw [L67.1.1, L67.1.2] at w; exact w) (hf_pn (v := (0, 0)) (F := 0) P79.1 (xpz83.1 t86) L67.2.1)).1 (by rw [← a90]; exact fun h => t95 (z90e.trans (by rw [h]; exact sg_c (by decide)))) 0)) ⟨⟨tp90.trans (tp79.trans L67.1.1), (zr90.2.2.1 13 (by decide)).trans (P79.1.1.trans L67.1.2)⟩, by obtain ⟨k, -, e⟩ := L67.2.2; exact tl_last e (xpz83.1 t86) L67.2.1 P79.1 (fun w => (P79.2 w).2) (zr90.2.2.1 15 (by decide)) (frc90 _ nyh) a90 k90 (fun h => t95 (z90e.trans (by rw [h]; exact sg_c (by decide))))⟩ hP hS (lv_sub hl [0, 1] rfl)
                    · have t95 := tq_eq (k := z90.toInt) (q := (59)) c95 rfl (by decide +kernel)
                      refine lv_iconst (v := 1) hx hb dX7_tell_98 (by decide +kernel) ?_
                      refine lv_goto (tgt := 103) hx hb dX7_tell_99 (by decide) ?_
                      exact j103 1 Iz90 _ _ _ ⟨by decide +kernel, by decide +kernel⟩ hIz90 dn_Iz90 ⟨hO_fr hQ hLp0 hKp0 frc90 zr90.2.1 zp79.2, Int.le_trans zp79.1 zr90.1, fun _ => by have := zr90.2.2.2 (by omega); have := oI_7_13 (Iv_at hIz90 hLp0 hKp0); omega⟩ (fun σ h => cmA_h0 hQ hLp0 hKp0 frc90 kc90_0_11 (cmA_hr hQ hLp0 hKp0 frc79 djc79 kc79_0_11 (gm67 σ h))) (fun _ => by rw [a90, show (1 : Int32).toInt = 1 from by decide +kernel]; exact hrG_fr (show Iz90 (a0 Q p0 1) = Iz79 (a0 Q p0 1) from frc90 _ nyh) ((hr_part (g67 L67.2.1) (by omega) b67 (fun c a b d => by have w := jz79 c a b d (xpz83.1 t86); rw [L67.1.1, L67.1.2] at w; exact w) (hf_pn (v := (0, 0)) (F := 0) P79.1 (xpz83.1 t86) L67.2.1)).2 (by rw [← a90]; exact sg_t (tb_rng hby) (by decide) (z90e.symm.trans t95)))) ⟨⟨tp90.trans (tp79.trans L67.1.1), (zr90.2.2.1 13 (by decide)).trans (P79.1.1.trans L67.1.2)⟩, Or.inl ⟨by decide +kernel, by rw [zr90.2.2.1 15 (by decide)]; exact xpz83.1 t86, by obtain ⟨k, hk, e⟩ := L67.2.2; exact tl_more e hk (xpz83.1 t86) L67.2.1 P79.1 P79.2 (frc90 _ nyh) a90 b67.1 (sg_t (tb_rng hby) (by decide) (z90e.symm.trans t95))⟩⟩ hP hS (lv_sub hl [0, 1] rfl))
            exact key67 _ w66_0 Iz54 J33 _ _ _ rfl ⟨by omega, by omega⟩ hIz54 dn_Iz54 dj_J33 (hO_fr hQ hLp0 hKp0 frc54 zr54.2.1 h53) (fun σ h => cmA_h0 hQ hLp0 hKp0 frc54 kc54_0_11 (cmA_hr hQ hLp0 hKp0 (fun _ _ => rfl) g33.2 rfl (gm12 σ h))) (fun _ => ⟨fx0, ⟨fun k hk => by rw [show 99 * 0 + k = k by omega]; show Iz54 ((Q p0 1).getD 0) k = 0; rw [frc54 _ nyh, eYH]; exact h12 yh0 eyh0 k (by omega), fun k hk => by rw [show 640 * 0 + k = k by omega]; exact g33.1 k (by omega)⟩, okF_0, zF_0, fun q => ⟨401, by have := a54e; have := b54; omega, by rw [a54e]; unfold tellF; rw [if_neg (hc66.elim (fun r => r.2) (fun r => by omega))]; exact (toT_sk (k := 400) ki0).symm⟩, fun q => by unfold tellF; rw [if_pos (hc66.elim (fun r => by omega) (fun r => r.2))]⟩) ⟨⟨tp54.trans hc12.1, (zr54.2.2.1 13 (by decide)).trans hc12.2⟩, hc66.elim (fun q => Or.inl ⟨q.1, f54, 401, by have := a54e; have := b54; omega, by rw [M54, N54, a54e]; unfold tellR; rw [if_neg q.2]; exact (prs_sk (k := 400) ki0).symm⟩) (fun q => Or.inr ⟨q.1, Or.inr ⟨f54, by rw [a54e]; exact ki0, Or.inl ⟨by rw [a54e]; exact q.2, by rw [N54]; unfold tellR; rw [if_pos q.2]⟩⟩⟩)⟩ hP hS (lv_sub hl [1, 0] rfl)
          refine lv_icmp_eq (tgt := 65) hx hb dX7_tell_58 (by decide) (fun c58 => ?_) (fun c58 => ?_)
          · have t58 := tq_eq (k := z54.toInt) (q := (-1)) c58 rfl (by decide +kernel)
            refine lv_iconst (v := 0) hx hb dX7_tell_65 (by decide +kernel) ?_
            exact j66 0 _ _ _ ⟨by decide +kernel, by decide +kernel⟩ (Or.inr ⟨by decide +kernel, sg_e (z54e.symm.trans t58)⟩) hP hS (lv_sub hl [0, 1] rfl)
          · have t58 := tq_ne (k := z54.toInt) (q := (-1)) c58 rfl (by decide +kernel)
            refine lv_iconst (v := 1) hx hb dX7_tell_61 (by decide +kernel) ?_
            refine lv_goto (tgt := 66) hx hb dX7_tell_62 (by decide) ?_
            exact j66 1 _ _ _ ⟨by decide +kernel, by decide +kernel⟩ (Or.inl ⟨by decide +kernel, fun h => t58 (z54e.trans (by rw [h]; rfl))⟩) hP hS (lv_sub hl [0, 1] rfl)
        · have t37 := tq_nle (k := (640)) (q := v33_1.toInt) c37 (by decide +kernel) rfl
          refine lv_aload_n hx hb dX7_tell_40 rfl (lv_at hl 0 rfl) ?_
          obtain ⟨y41, ey41, hLy41, hKy41⟩ := oQ_7_6 (Sv_at hQ hLp0 hKp0)
          refine p_get (v := .ref y41) hx hb hts inX7 hown hK hP hLp0 hKp0 rfl rfl 6 (by decide) (hts _ pq1121) (congrArg (fun q => some (va_rf q)) ey41) dX7_tell_41 ?_
          refine lv_iload_n hx hb dX7_tell_44 rfl (lv_at hl 1 rfl) ?_
          refine lv_lconst (v := 0) hx hb dX7_tell_45 (by decide +kernel) ?_
          refine p_last hx hb hK hP hD hS 22 hLy41 hKy41 rfl (fun _ => rfl) rfl (in_of (by omega) (by omega)) dX7_tell_46 (fun H locs hP hS => ?_)
          obtain ⟨Jz46, hP, qJz46⟩ : ∃ Jz46, va_P (dC, dI) vwCl (Wd cs L K I12 Jz46 Q) H ∧ Jz46 = va_up J33 y41 (vp_updL (J33 y41) v33_1.toNatClampNeg (0 : Int64)) := ⟨_, hP, rfl⟩
          have dj_Jz46 : (∀ b, ¬ (K b = 21 ∨ K b = 32) → Jz46 b = J b) := fun b hc => (congrFun qJz46 b).trans ((va_up_ne _ _ (fun z => hc (by have q := hKy41; rw [← z] at q; omega))).trans (dj_J33 b hc))
          obtain ⟨z47, ez47⟩ : ∃ y : Int32, y = v33_1 + 1 := ⟨_, rfl⟩
          refine lv_iinc (v := z47) (lv' := [(1, .int z47), (0, .ref p0)]) hx hb dX7_tell_47 hl (k := 1) rfl (by rw [ez47]; rfl) (by decide) rfl (fun ls hl => ?_)
          have bz47 := tq_add (k := v33_1.toInt) (q := 1) ez47 rfl (by decide +kernel) (by omega) (by omega)
          refine lv_goto (tgt := 33) hx hb dX7_tell_50 (by decide) ?_
          exact ih33 _ (by omega) z47 Jz46 _ _ _ rfl ⟨by omega, by omega⟩ dj_Jz46 ⟨fun i hi => by rw [qJz46, show a0 Q p0 6 = y41 from gd_of ey41, va_up_self]; exact zl_upd (fun q => by have w := g33.1 i q; rw [show a0 Q p0 6 = y41 from gd_of ey41] at w; exact w) (by rw [bz47] at hi; exact hi), fun b hb => by rw [qJz46, va_up_ne _ _ (fun z => hb (by rw [z]; exact hKy41))]; exact g33.2 b hb⟩ hP hS (lv_sub hl [1, 0] rfl))
      exact key33 _ 0 J _ _ _ rfl ⟨by decide +kernel, by decide +kernel⟩ dj_J ⟨fun i hi => absurd hi (by rw [show (0 : Int32).toInt.toNat = 0 from by decide +kernel]; omega), fun _ _ => rfl⟩ hP hS (lv_sub hl [1, 0] rfl)
    · have t15 := tq_nle (k := (99)) (q := v12_1.toInt) c15 (by decide +kernel) rfl
      refine lv_aload_n hx hb dX7_tell_18 rfl (lv_at hl 0 rfl) ?_
      obtain ⟨y19, ey19, hLy19, hKy19⟩ := oQ_7_1 (Sv_at hQ hLp0 hKp0)
      refine p_get (v := .ref y19) hx hb hts inX7 hown hK hP hLp0 hKp0 rfl rfl 1 (by decide) (hts _ pq1116) (congrArg (fun q => some (va_rf q)) ey19) dX7_tell_19 ?_
      refine lv_iload_n hx hb dX7_tell_22 rfl (lv_at hl 1 rfl) ?_
      refine lv_iconst (v := 0) hx hb dX7_tell_23 (by decide +kernel) ?_
      refine p_iast hx hb hK hP hD hS 18 hLy19 hKy19 rfl (fun _ => rfl) rfl (in_of (by omega) (by omega)) dX7_tell_24 (fun H locs hP hS => ?_)
      obtain ⟨Iz24, hP, hIz24, qIz24⟩ : ∃ Iz24, va_P (dC, dI) vwCl (Wd cs L K Iz24 J Q) H ∧ Iv L K x0 m0 tx ((Iz24 m0 13, tm.1.2.1, Iz24 tm.1.2.1), tm.2) Iz24 ∧ Iz24 = va_up I12 y19 (upd (I12 y19) v12_1.toNatClampNeg (0 : Int32)) := ⟨_, hP, Iv_putm hI12 hKy19 (show okI _ 28 _ from trivial) (Or.inl (by decide)) trivial, rfl⟩
      have dn_Iz24 : (∀ b, K b = 0 ∨ K b = 1 ∨ K b = 3 ∨ K b = 6 → Iz24 b = I b) := fun b hc => (congrFun qIz24 b).trans ((va_up_ne _ _ (fun z => by have q := hKy19; rw [← z] at q; omega)).trans (dn_I12 b hc))
      obtain ⟨z25, ez25⟩ : ∃ y : Int32, y = v12_1 + 1 := ⟨_, rfl⟩
      refine lv_iinc (v := z25) (lv' := [(1, .int z25), (0, .ref p0)]) hx hb dX7_tell_25 hl (k := 1) rfl (by rw [ez25]; rfl) (by decide) rfl (fun ls hl => ?_)
      have bz25 := tq_add (k := v12_1.toInt) (q := 1) ez25 rfl (by decide +kernel) (by omega) (by omega)
      refine lv_goto (tgt := 12) hx hb dX7_tell_28 (by decide) ?_
      exact ih12 _ (by omega) z25 Iz24 _ _ _ rfl ⟨by omega, by omega⟩ hIz24 dn_Iz24 (fun yh e i hi => by obtain rfl : y19 = yh := Option.some.inj (ey19.symm.trans e); rw [qIz24, va_up_self]; exact z_upd (h12 y19 ey19 i) (by rw [bz25] at hi; exact hi)) ⟨by rw [qIz24, va_up_ne _ _ (ne_k hKp0 hKy19 (by decide))]; exact h12b.1, by rw [qIz24, va_up_ne _ _ (ne_k hKp0 hKy19 (by decide))]; exact h12b.2⟩ (fun σ h => cmA_ha hQ hLp0 hKp0 hKy19 qIz24 (gm12 σ h)) ⟨by rw [qIz24, va_up_ne _ _ (ne_k kT hKy19 (by decide))]; exact hc12.1, by rw [qIz24, va_up_ne _ _ (ne_k hKp0 hKy19 (by decide))]; exact hc12.2⟩ hP hS (lv_sub hl [1, 0] rfl))
  exact key12 _ 0 Iz7 _ _ _ rfl ⟨by decide +kernel, by decide +kernel⟩ hIz7 dn_Iz7 (fun yh e i hi => absurd hi (by rw [show (0 : Int32).toInt = 0 from by decide +kernel]; omega)) ⟨by rw [qIz7, rz_at]; decide +kernel, by rw [qIz7, rz_fr _ _ _ _ (by decide), qIz2, rz_at]; decide +kernel⟩ (fun σ h => cmA_tp hQ hLp0 hKp0 qIz7 (by decide) (cmA_tp hQ hLp0 hKp0 qIz2 (by decide) h)) ⟨by rw [qIz7, va_up_ne _ _ ntm, qIz2, va_up_ne _ _ ntm], by rw [qIz7, rz_fr _ _ _ _ (by decide), qIz2, rz_fr _ _ _ _ (by decide)]⟩ hP hS (lv_sub hl [1, 0] rfl)
