theorem dL_law_0 : decode cL_law 0 = .ok (.new 7, 3) := by decide +kernel
theorem dL_law_3 : decode cL_law 3 = .ok (.dup, 1) := by decide +kernel
theorem dL_law_4 : decode cL_law 4 = .ok (.invokespecial 9, 3) := by decide +kernel
theorem dL_law_7 : decode cL_law 7 = .ok (.astore_n 1, 1) := by decide +kernel
theorem dL_law_8 : decode cL_law 8 = .ok (.new 10, 3) := by decide +kernel
theorem dL_law_11 : decode cL_law 11 = .ok (.dup, 1) := by decide +kernel
theorem dL_law_12 : decode cL_law 12 = .ok (.invokespecial 12, 3) := by decide +kernel
theorem dL_law_15 : decode cL_law 15 = .ok (.astore_n 2, 1) := by decide +kernel
theorem dL_law_16 : decode cL_law 16 = .ok (.iconst 0, 1) := by decide +kernel
theorem dL_law_17 : decode cL_law 17 = .ok (.istore_n 3, 1) := by decide +kernel
theorem dL_law_27 : decode cL_law 27 = .ok (.aload_n 0, 1) := by decide +kernel
theorem dL_law_28 : decode cL_law 28 = .ok (.iload_n 3, 1) := by decide +kernel
theorem dL_law_29 : decode cL_law 29 = .ok (.iaload, 1) := by decide +kernel
theorem dL_law_30 : decode cL_law 30 = .ok (.bipush 63, 2) := by decide +kernel
theorem dL_law_32 : decode cL_law 32 = .ok (.iand, 1) := by decide +kernel
theorem dL_law_33 : decode cL_law 33 = .ok (.tableswitch 1917 0 48 #[211, 274, 297, 310, 353, 386, 429, 472, 515, 538, 561, 624, 667, 710, 723, 746, 769, 792, 805, 828, 851, 884, 927, 971, 1004, 1037, 1080, 1103, 1126, 1149, 1182, 1225, 1278, 1321, 1364, 1407, 1450, 1503, 1536, 1579, 1612, 1635, 1668, 1721, 1780, 1813, 1837, 1851, 1894], 211) := by decide +kernel
set_option maxRecDepth 100000 in
theorem pq93 : Cond.classLink RL 7 RX6 ∈ pw := pw_mem (i := 93) (by decide +kernel) rfl
set_option maxRecDepth 100000 in
theorem pq94 : Cond.instantiable RX6 12 ∈ pw := pw_mem (i := 94) (by decide +kernel) rfl
set_option maxRecDepth 100000 in
theorem pq95 : Cond.methodLink RL 9 yX6_init ∈ pw := pw_mem (i := 95) (by decide +kernel) rfl
set_option maxRecDepth 100000 in
theorem pq96 : Cond.instanceMethod yX6_init ∈ pw := pw_mem (i := 96) (by decide +kernel) rfl
set_option maxRecDepth 100000 in
theorem pq97 : Cond.code yX6_init cX6_init 1 none ∈ pw := pw_mem (i := 97) (by rfl) rfl
set_option maxRecDepth 100000 in
theorem pq1109 : Cond.classLink RL 10 RX7 ∈ pw := pw_mem (i := 1109) (by decide +kernel) rfl
set_option maxRecDepth 100000 in
theorem pq1110 : Cond.instantiable RX7 26 ∈ pw := pw_mem (i := 1110) (by decide +kernel) rfl
set_option maxRecDepth 100000 in
theorem pq1111 : Cond.methodLink RL 12 yX7_init ∈ pw := pw_mem (i := 1111) (by decide +kernel) rfl
set_option maxRecDepth 100000 in
theorem pq1112 : Cond.instanceMethod yX7_init ∈ pw := pw_mem (i := 1112) (by decide +kernel) rfl
set_option maxRecDepth 100000 in
theorem pq1113 : Cond.code yX7_init cX7_init 1 none ∈ pw := pw_mem (i := 1113) (by rfl) rfl
set_option maxHeartbeats 4000000 in
set_option maxRecDepth 100000 in
/-- the law, from its entry -/
theorem whole_start {p : Program} {e : Env} {s : State} {m : MethodId} {below : List Frame} {meth : Method} {c : Code} (l : Launch) (hflags : l.flags = flags0) {b L : Nat} {xs : Nat → Int32} (hL : L ≤ 6) (C0 : lw_At p s m meth c b L xs) : W p l e room_1 s m #[Value.ref b] below meth c s.heap [] 0 0 (lw_Z below #[Value.ref b] s) (entryFrame m ([Value.ref b] : List Value).toArray 4) := by
  obtain ⟨hx, hb, hr, hml, hown, htl, hX, hbl, hlocks, hgv⟩ := id C0
  have hb : c.code = cL_law := hb
  have hown : s.vm.findClass RL = some m.cls := hown
  have hts : ∀ w ∈ pw, w.before #[Value.ref b] s = true := fun w h => htl w (pw_tbl h)
  have hN : xN s := xN_of htl
  have hA : ∀ q : Nat, s.heap.size ≤ q → (fun q : Nat => s.heap.size ≤ q) q := fun _ h => h
  have hbA : ¬ (fun q : Nat => s.heap.size ≤ q) b := Nat.not_le.mpr hbl
  obtain ⟨c0, iS0, hKn0⟩ := u_known (C := RX0) (T := TX0) (N := 8) (n := 8) hts inX0 (hts (.instantiable RX0 8) pq164)
  obtain ⟨c1, iS1, hKn1⟩ := u_known (C := RX1) (T := TX1) (N := 5) (n := 5) hts inX1 (hts (.instantiable RX1 5) pq102)
  obtain ⟨c2, iS2, hKn2⟩ := u_known (C := RX2) (T := TX2) (N := 8) (n := 8) hts inX2 (hts (.instantiable RX2 8) pq310)
  obtain ⟨c3, iS3, hKn3⟩ := u_known (C := RX3) (T := TX3) (N := 8) (n := 8) hts inX3 (hts (.instantiable RX3 8) pq111)
  obtain ⟨c4, iS4, hKn4⟩ := u_known (C := RX4) (T := TX4) (N := 6) (n := 6) hts inX4 (hts (.instantiable RX4 6) pq242)
  obtain ⟨c5, iS5, hKn5⟩ := u_known (C := RX5) (T := TX5) (N := 9) (n := 9) hts inX5 (hts (.instantiable RX5 9) pq267)
  obtain ⟨c6, iS6, hKn6⟩ := u_known (C := RX6) (T := TX6) (N := 12) (n := 12) hts inX6 (hts (.instantiable RX6 12) pq94)
  obtain ⟨c7, iS7, hKn7⟩ := u_known (C := RX7) (T := TX7) (N := 26) (n := 26) hts inX7 (hts (.instantiable RX7 26) pq1110)
  obtain ⟨dC, dI, hKc⟩ : ∃ (dC : Nat → ClassId) (dI : Nat → Nat → Nat), ∀ (k : Nat) (q : vw_C), vwCl[k]? = some q → u_Kn s q.1 q.2.1 q.2.2 (dC k) (dI k) := by
    refine ⟨fun k => match k with | 0 => c0 | 1 => c1 | 2 => c2 | 3 => c3 | 4 => c4 | 5 => c5 | 6 => c6 | _ => c7, fun k => match k with | 0 => iS0 | 1 => iS1 | 2 => iS2 | 3 => iS3 | 4 => iS4 | 5 => iS5 | 6 => iS6 | _ => iS7, ?_⟩
    intro k q hq
    match k, hq with
    | 0, hq => cases hq; exact hKn0
    | 1, hq => cases hq; exact hKn1
    | 2, hq => cases hq; exact hKn2
    | 3, hq => cases hq; exact hKn3
    | 4, hq => cases hq; exact hKn4
    | 5, hq => cases hq; exact hKn5
    | 6, hq => cases hq; exact hKn6
    | 7, hq => cases hq; exact hKn7
    | k + 8, hq => simp [vwCl] at hq
  have hS : va_S (fun q : Nat => s.heap.size ≤ q) s.heap s.heap [] := va_S.rf
  have hK : va_K (dC, dI) vwCl [] s := ⟨hKc, fun k q h => by simp at h⟩
  have hP : va_P (dC, dI) vwCl [] s.heap := va_P0
  have hD : va_D (fun q : Nat => s.heap.size ≤ q) [] := va_D0
  have hl := lv_entry ([.ref b]) (n := 4) (Nat.le_of_ble_eq_true rfl)
  rw [lg_entry_eq]
  generalize (lg_sl ([.ref b]) ++ List.replicate (4 - (lg_sl ([.ref b])).length) Slot.unset).toArray = ls at hl ⊢
  have hl : lv_has ls 4 [(0, .ref b)] := hl
  refine va_new (ci := 6) (fs := [.null, .int 0, .null, .null, .null, .null, .null, .null, .null, .int 0, .int 0, .null]) (C := RX6) (T := TX6) (N := 12) hx hb hts inX6 tyX6 tyX6_ok hown (hts _ pq93) (hts _ pq94) (hts _ pq74) hK hP hD hS hA rfl dfX6 (Nat.le_of_ble_eq_true rfl) (Nat.le_of_ble_eq_true rfl) dL_law_0 (fun q1 H hP hD hS => ?_)
  have hP : va_P (dC, dI) vwCl [(q1, .inr (6, [.null, .int 0, .null, .null, .null, .null, .null, .null, .null, .int 0, .int 0, .null]))] H := hP
  have hD : va_D (fun q : Nat => s.heap.size ≤ q) [(q1, .inr (6, [.null, .int 0, .null, .null, .null, .null, .null, .null, .null, .int 0, .int 0, .null]))] := hD
  refine W.widen (k := 1) (n := 12) (Nat.le_of_ble_eq_true rfl) (Nat.le_of_ble_eq_true rfl) ?_
  refine lv_dup hx hb dL_law_3 rfl ?_
  have hPc := hP.sub (ws' := [(q1, .inr (6, [.null, .int 0, .null, .null, .null, .null, .null, .null, .null, .int 0, .int 0, .null]))]) [0] rfl
  have hDc := hD.sub (ws' := [(q1, .inr (6, [.null, .int 0, .null, .null, .null, .null, .null, .null, .null, .int 0, .int 0, .null]))]) [0] (by decide) rfl
  have hKc := hK.sub (tys' := []) [] rfl
  have hFc := va_free (wc := [(q1, .inr (6, [.null, .int 0, .null, .null, .null, .null, .null, .null, .null, .int 0, .int 0, .null]))]) hD hS hA [0] rfl
  refine va_callv (va_runI (As := []) (rest := [.ref q1]) ⟨hx, hb, hml, hown, hts⟩ (c_X6_init l dC dI q1 H.size  ) (cwI 0 hts (gI pq97) rfl rfl rfl (hts _ pq74) (hts _ pq95) (hts _ pq96) rfl (by decide +kernel) ⟨(Nat.le_of_ble_eq_true rfl), (Nat.le_of_ble_eq_true rfl)⟩) (pc_S hPc hDc hKc hN) rfl rfl hl.1 rfl (lv_room (Nat.le_of_ble_eq_true rfl)) dL_law_4 ⟨(Nat.le_of_ble_eq_true rfl), (Nat.le_of_ble_eq_true rfl)⟩) hS (fun q _ h => hFc q h) hFc (fun u t H1 locs ht hvm hw hB hz1 hk1 hS => ?_)
  obtain ⟨q2, q3, q4, q5, q6, q7, q8, q9, q10, q11, q12, q13, q14, q15, k16, k17, k18, hP1, hK1, hD1⟩ := hB
  rw [ht] at hP1
  have hK1 := va_K.moved hvm.symm hK1
  obtain ⟨hP, hD⟩ := va_join (wr := []) (w1 := [(q1, .inr (6, [.ref q2, .int 0, .ref q3, .ref q4, .ref q5, .ref q6, .ref q7, .ref q8, .ref q9, .int 0, .int 0, .ref q10])), (q2, .inl (k16, 400, .inl (fun _ => 0))), (q3, .inr (1, [.ref q11, .ref q12, .int 0, .int 0, .int 0])), (q4, .inr (1, [.ref q13, .ref q14, .int 0, .int 0, .int 0])), (q5, .inr (4, [.ref q2, .int 0, .int 0, .int 0, .int 0, .int 0])), (q6, .inr (5, [.ref q3, .ref q15, .int 0, .int (-1), .int 0, .int 0, .int 0, .int 0, .int 0])), (q9, .inl (k17, 10, .inr (.inr (.inr (.inr (fun _ => none)))))), (q10, .inl (k18, 2, .inr (.inr (.inr (.inr (fun _ => none))))))]) hP hD [0] [] rfl rfl (by decide) (by decide) hk1 hFc hP1 hD1
  have hK := hK.app hK1
  have hK : va_K (dC, dI) vwCl [(k16, .byte), (k17, .object RX1), (k18, .object RX1)] s := hK
  generalize H1 = H at hP hS ⊢
  have hP : va_P (dC, dI) vwCl [(q1, .inr (6, [.ref q2, .int 0, .ref q3, .ref q4, .ref q5, .ref q6, .ref q7, .ref q8, .ref q9, .int 0, .int 0, .ref q10])), (q2, .inl (k16, 400, .inl (fun _ => 0))), (q3, .inr (1, [.ref q11, .ref q12, .int 0, .int 0, .int 0])), (q4, .inr (1, [.ref q13, .ref q14, .int 0, .int 0, .int 0])), (q5, .inr (4, [.ref q2, .int 0, .int 0, .int 0, .int 0, .int 0])), (q6, .inr (5, [.ref q3, .ref q15, .int 0, .int (-1), .int 0, .int 0, .int 0, .int 0, .int 0])), (q9, .inl (k17, 10, .inr (.inr (.inr (.inr (fun _ => none)))))), (q10, .inl (k18, 2, .inr (.inr (.inr (.inr (fun _ => none))))))] H := hP
  have hD : va_D (fun q : Nat => s.heap.size ≤ q) [(q1, .inr (6, [.ref q2, .int 0, .ref q3, .ref q4, .ref q5, .ref q6, .ref q7, .ref q8, .ref q9, .int 0, .int 0, .ref q10])), (q2, .inl (k16, 400, .inl (fun _ => 0))), (q3, .inr (1, [.ref q11, .ref q12, .int 0, .int 0, .int 0])), (q4, .inr (1, [.ref q13, .ref q14, .int 0, .int 0, .int 0])), (q5, .inr (4, [.ref q2, .int 0, .int 0, .int 0, .int 0, .int 0])), (q6, .inr (5, [.ref q3, .ref q15, .int 0, .int (-1), .int 0, .int 0, .int 0, .int 0, .int 0])), (q9, .inl (k17, 10, .inr (.inr (.inr (.inr (fun _ => none)))))), (q10, .inl (k18, 2, .inr (.inr (.inr (.inr (fun _ => none))))))] := hD
  refine W.widen (k := 91) (n := 7127) (Nat.le_of_ble_eq_true rfl) (Nat.le_of_ble_eq_true rfl) ?_
  refine lv_astore_n (lv' := [(1, .ref q1), (0, .ref b)]) hx hb dL_law_7 rfl hl (by decide) rfl (fun ls hl => ?_)
  refine va_new (ci := 7) (fs := [.null, .null, .null, .null, .null, .null, .null, .null, .null, .null, .null, .int 0, .null, .int 0, .int 0, .int 0, .int 0, .null, .int 0, .null, .null, .null, .null, .int 0, .int 0, .null]) (C := RX7) (T := TX7) (N := 26) hx hb hts inX7 tyX7 tyX7_ok hown (hts _ pq1109) (hts _ pq1110) (hts _ pq81) hK hP hD hS hA rfl dfX7 (Nat.le_of_ble_eq_true rfl) (Nat.le_of_ble_eq_true rfl) dL_law_8 (fun q19 H hP hD hS => ?_)
  have hP : va_P (dC, dI) vwCl [(q1, .inr (6, [.ref q2, .int 0, .ref q3, .ref q4, .ref q5, .ref q6, .ref q7, .ref q8, .ref q9, .int 0, .int 0, .ref q10])), (q2, .inl (k16, 400, .inl (fun _ => 0))), (q3, .inr (1, [.ref q11, .ref q12, .int 0, .int 0, .int 0])), (q4, .inr (1, [.ref q13, .ref q14, .int 0, .int 0, .int 0])), (q5, .inr (4, [.ref q2, .int 0, .int 0, .int 0, .int 0, .int 0])), (q6, .inr (5, [.ref q3, .ref q15, .int 0, .int (-1), .int 0, .int 0, .int 0, .int 0, .int 0])), (q9, .inl (k17, 10, .inr (.inr (.inr (.inr (fun _ => none)))))), (q10, .inl (k18, 2, .inr (.inr (.inr (.inr (fun _ => none)))))), (q19, .inr (7, [.null, .null, .null, .null, .null, .null, .null, .null, .null, .null, .null, .int 0, .null, .int 0, .int 0, .int 0, .int 0, .null, .int 0, .null, .null, .null, .null, .int 0, .int 0, .null]))] H := hP
  have hD : va_D (fun q : Nat => s.heap.size ≤ q) [(q1, .inr (6, [.ref q2, .int 0, .ref q3, .ref q4, .ref q5, .ref q6, .ref q7, .ref q8, .ref q9, .int 0, .int 0, .ref q10])), (q2, .inl (k16, 400, .inl (fun _ => 0))), (q3, .inr (1, [.ref q11, .ref q12, .int 0, .int 0, .int 0])), (q4, .inr (1, [.ref q13, .ref q14, .int 0, .int 0, .int 0])), (q5, .inr (4, [.ref q2, .int 0, .int 0, .int 0, .int 0, .int 0])), (q6, .inr (5, [.ref q3, .ref q15, .int 0, .int (-1), .int 0, .int 0, .int 0, .int 0, .int 0])), (q9, .inl (k17, 10, .inr (.inr (.inr (.inr (fun _ => none)))))), (q10, .inl (k18, 2, .inr (.inr (.inr (.inr (fun _ => none)))))), (q19, .inr (7, [.null, .null, .null, .null, .null, .null, .null, .null, .null, .null, .null, .int 0, .null, .int 0, .int 0, .int 0, .int 0, .null, .int 0, .null, .null, .null, .null, .int 0, .int 0, .null]))] := hD
  refine W.widen (k := 92) (n := 7153) (Nat.le_of_ble_eq_true rfl) (Nat.le_of_ble_eq_true rfl) ?_
  refine lv_dup hx hb dL_law_11 rfl ?_
  have hPc := hP.sub (ws' := [(q19, .inr (7, [.null, .null, .null, .null, .null, .null, .null, .null, .null, .null, .null, .int 0, .null, .int 0, .int 0, .int 0, .int 0, .null, .int 0, .null, .null, .null, .null, .int 0, .int 0, .null]))]) [8] rfl
  have hDc := hD.sub (ws' := [(q19, .inr (7, [.null, .null, .null, .null, .null, .null, .null, .null, .null, .null, .null, .int 0, .null, .int 0, .int 0, .int 0, .int 0, .null, .int 0, .null, .null, .null, .null, .int 0, .int 0, .null]))]) [8] (by decide) rfl
  have hKc := hK.sub (tys' := []) [] rfl
  have hFc := va_free (wc := [(q19, .inr (7, [.null, .null, .null, .null, .null, .null, .null, .null, .null, .null, .null, .int 0, .null, .int 0, .int 0, .int 0, .int 0, .null, .int 0, .null, .null, .null, .null, .int 0, .int 0, .null]))]) hD hS hA [8] rfl
  refine va_callv (va_runI (As := []) (rest := [.ref q19]) ⟨hx, hb, hml, hown, hts⟩ (c_X7_init l dC dI q19 H.size  ) (cwI 0 hts (gI pq1113) rfl rfl rfl (hts _ pq81) (hts _ pq1111) (hts _ pq1112) rfl (by decide +kernel) ⟨(Nat.le_of_ble_eq_true rfl), (Nat.le_of_ble_eq_true rfl)⟩) (pc_S hPc hDc hKc hN) rfl rfl hl.1 rfl (lv_room (Nat.le_of_ble_eq_true rfl)) dL_law_12 ⟨(Nat.le_of_ble_eq_true rfl), (Nat.le_of_ble_eq_true rfl)⟩) hS (fun q _ h => hFc q h) hFc (fun u t H1 locs ht hvm hw hB hz1 hk1 hS => ?_)
  obtain ⟨q20, q21, q22, q23, q24, q25, q26, q27, q28, q29, q30, q31, q32, q33, q34, q35, q36, q37, k38, k39, k40, k41, k42, k43, k44, k45, k46, k47, k48, k49, hP1, hK1, hD1⟩ := hB
  rw [ht] at hP1
  have hK1 := va_K.moved hvm.symm hK1
  obtain ⟨hP, hD⟩ := va_join (wr := [(q1, .inr (6, [.ref q2, .int 0, .ref q3, .ref q4, .ref q5, .ref q6, .ref q7, .ref q8, .ref q9, .int 0, .int 0, .ref q10])), (q2, .inl (k16, 400, .inl (fun _ => 0))), (q3, .inr (1, [.ref q11, .ref q12, .int 0, .int 0, .int 0])), (q4, .inr (1, [.ref q13, .ref q14, .int 0, .int 0, .int 0])), (q5, .inr (4, [.ref q2, .int 0, .int 0, .int 0, .int 0, .int 0])), (q6, .inr (5, [.ref q3, .ref q15, .int 0, .int (-1), .int 0, .int 0, .int 0, .int 0, .int 0])), (q9, .inl (k17, 10, .inr (.inr (.inr (.inr (fun _ => none)))))), (q10, .inl (k18, 2, .inr (.inr (.inr (.inr (fun _ => none))))))]) (w1 := [(q19, .inr (7, [.ref q20, .ref q21, .ref q22, .ref q23, .ref q24, .ref q25, .ref q26, .ref q27, .ref q28, .ref q29, .ref q30, .int 0, .ref q31, .int 0, .int 0, .int 0, .int 0, .ref q32, .int 0, .ref q33, .ref q34, .ref q35, .ref q36, .int 0, .int 0, .ref q37])), (q20, .inl (k38, 99, .inl (fun _ => 0))), (q21, .inl (k39, 99, .inl (fun _ => 0))), (q22, .inl (k40, 99, .inl (fun _ => 0))), (q23, .inl (k41, 990, .inl (fun _ => 0))), (q24, .inl (k42, 198, .inl (fun _ => 0))), (q25, .inl (k43, 640, .inr (.inl (fun _ => 0)))), (q26, .inl (k44, 640, .inr (.inl (fun _ => 0)))), (q27, .inl (k45, 640, .inr (.inl (fun _ => 0)))), (q28, .inl (k46, 6400, .inr (.inl (fun _ => 0)))), (q29, .inl (k47, 1280, .inr (.inl (fun _ => 0)))), (q30, .inl (k48, 2, .inl (fun _ => 0))), (q31, .inl (k49, 400, .inl (fun _ => 0)))]) hP hD [8] [0, 1, 2, 3, 4, 5, 6, 7] rfl rfl (by decide) (by decide) hk1 hFc hP1 hD1
  have hK := hK.app hK1
  have hK : va_K (dC, dI) vwCl [(k16, .byte), (k17, .object RX1), (k18, .object RX1), (k38, .int), (k39, .int), (k40, .int), (k41, .int), (k42, .int), (k43, .long), (k44, .long), (k45, .long), (k46, .long), (k47, .long), (k48, .boolean), (k49, .byte)] s := hK
  generalize H1 = H at hP hS ⊢
  have hP : va_P (dC, dI) vwCl [(q1, .inr (6, [.ref q2, .int 0, .ref q3, .ref q4, .ref q5, .ref q6, .ref q7, .ref q8, .ref q9, .int 0, .int 0, .ref q10])), (q2, .inl (k16, 400, .inl (fun _ => 0))), (q3, .inr (1, [.ref q11, .ref q12, .int 0, .int 0, .int 0])), (q4, .inr (1, [.ref q13, .ref q14, .int 0, .int 0, .int 0])), (q5, .inr (4, [.ref q2, .int 0, .int 0, .int 0, .int 0, .int 0])), (q6, .inr (5, [.ref q3, .ref q15, .int 0, .int (-1), .int 0, .int 0, .int 0, .int 0, .int 0])), (q9, .inl (k17, 10, .inr (.inr (.inr (.inr (fun _ => none)))))), (q10, .inl (k18, 2, .inr (.inr (.inr (.inr (fun _ => none)))))), (q19, .inr (7, [.ref q20, .ref q21, .ref q22, .ref q23, .ref q24, .ref q25, .ref q26, .ref q27, .ref q28, .ref q29, .ref q30, .int 0, .ref q31, .int 0, .int 0, .int 0, .int 0, .ref q32, .int 0, .ref q33, .ref q34, .ref q35, .ref q36, .int 0, .int 0, .ref q37])), (q20, .inl (k38, 99, .inl (fun _ => 0))), (q21, .inl (k39, 99, .inl (fun _ => 0))), (q22, .inl (k40, 99, .inl (fun _ => 0))), (q23, .inl (k41, 990, .inl (fun _ => 0))), (q24, .inl (k42, 198, .inl (fun _ => 0))), (q25, .inl (k43, 640, .inr (.inl (fun _ => 0)))), (q26, .inl (k44, 640, .inr (.inl (fun _ => 0)))), (q27, .inl (k45, 640, .inr (.inl (fun _ => 0)))), (q28, .inl (k46, 6400, .inr (.inl (fun _ => 0)))), (q29, .inl (k47, 1280, .inr (.inl (fun _ => 0)))), (q30, .inl (k48, 2, .inl (fun _ => 0))), (q31, .inl (k49, 400, .inl (fun _ => 0)))] H := hP
  have hD : va_D (fun q : Nat => s.heap.size ≤ q) [(q1, .inr (6, [.ref q2, .int 0, .ref q3, .ref q4, .ref q5, .ref q6, .ref q7, .ref q8, .ref q9, .int 0, .int 0, .ref q10])), (q2, .inl (k16, 400, .inl (fun _ => 0))), (q3, .inr (1, [.ref q11, .ref q12, .int 0, .int 0, .int 0])), (q4, .inr (1, [.ref q13, .ref q14, .int 0, .int 0, .int 0])), (q5, .inr (4, [.ref q2, .int 0, .int 0, .int 0, .int 0, .int 0])), (q6, .inr (5, [.ref q3, .ref q15, .int 0, .int (-1), .int 0, .int 0, .int 0, .int 0, .int 0])), (q9, .inl (k17, 10, .inr (.inr (.inr (.inr (fun _ => none)))))), (q10, .inl (k18, 2, .inr (.inr (.inr (.inr (fun _ => none)))))), (q19, .inr (7, [.ref q20, .ref q21, .ref q22, .ref q23, .ref q24, .ref q25, .ref q26, .ref q27, .ref q28, .ref q29, .ref q30, .int 0, .ref q31, .int 0, .int 0, .int 0, .int 0, .ref q32, .int 0, .ref q33, .ref q34, .ref q35, .ref q36, .int 0, .int 0, .ref q37])), (q20, .inl (k38, 99, .inl (fun _ => 0))), (q21, .inl (k39, 99, .inl (fun _ => 0))), (q22, .inl (k40, 99, .inl (fun _ => 0))), (q23, .inl (k41, 990, .inl (fun _ => 0))), (q24, .inl (k42, 198, .inl (fun _ => 0))), (q25, .inl (k43, 640, .inr (.inl (fun _ => 0)))), (q26, .inl (k44, 640, .inr (.inl (fun _ => 0)))), (q27, .inl (k45, 640, .inr (.inl (fun _ => 0)))), (q28, .inl (k46, 6400, .inr (.inl (fun _ => 0)))), (q29, .inl (k47, 1280, .inr (.inl (fun _ => 0)))), (q30, .inl (k48, 2, .inl (fun _ => 0))), (q31, .inl (k49, 400, .inl (fun _ => 0)))] := hD
  refine W.widen (k := 110) (n := 27528) (Nat.le_of_ble_eq_true rfl) (Nat.le_of_ble_eq_true rfl) ?_
  refine lv_astore_n (lv' := [(2, .ref q19), (1, .ref q1), (0, .ref b)]) hx hb dL_law_15 rfl hl (by decide) rfl (fun ls hl => ?_)
  refine lv_iconst (v := 0) hx hb dL_law_16 (by decide +kernel) ?_
  refine lv_istore_n (lv' := [(3, .int 0), (2, .ref q19), (1, .ref q1), (0, .ref b)]) hx hb dL_law_17 rfl hl (by decide) rfl (fun ls hl => ?_)
  rcases (show L = 0 ∨ L = 1 ∨ L = 2 ∨ L = 3 ∨ L = 4 ∨ L = 5 ∨ L = 6 by omega) with rfl | rfl | rfl | rfl | rfl | rfl | rfl
  · refine lv_iload_n hx hb dL_law_18 rfl (lv_at hl 0 rfl) ?_
    refine lv_aload_n hx hb dL_law_19 rfl (lv_at hl 3 rfl) ?_
    refine va_slen hx hb hX hbl hbA hS dL_law_20 ?_
    refine lv_bipush (v := 6) hx hb dL_law_21 (by decide +kernel) ?_
    refine lv_isub hx hb dL_law_23 ?_
    refine lv_topi (fun z50 ez50 => ?_)
    obtain rfl : z50 = (-6) := ez50.trans (by decide +kernel)
    refine lv_icmp_gt (tgt := 1956) hx hb dL_law_24 (by decide) (fun c51 => ?_) (fun c51 => absurd (by decide +kernel) c51)
    refine lv_iconst (v := 1) hx hb dL_law_1956 (by decide +kernel) ?_
    refine va_forget (fun q hq => hS.2.2 q hq) ?_
    refine W.widen (k := 600000) (n := 7302249) (Nat.le_of_ble_eq_true rfl) (Nat.le_of_ble_eq_true rfl) ?_
    refine W.base ?_
    exact lw_ret (Drawn.sameBut.refl s.drawn lw_cs) hx hb hr hlocks dL_law_1957
  · refine lv_iload_n hx hb dL_law_18 rfl (lv_at hl 0 rfl) ?_
    refine lv_aload_n hx hb dL_law_19 rfl (lv_at hl 3 rfl) ?_
    refine va_slen hx hb hX hbl hbA hS dL_law_20 ?_
    refine lv_bipush (v := 6) hx hb dL_law_21 (by decide +kernel) ?_
    refine lv_isub hx hb dL_law_23 ?_
    refine lv_topi (fun z52 ez52 => ?_)
    obtain rfl : z52 = (-5) := ez52.trans (by decide +kernel)
    refine lv_icmp_gt (tgt := 1956) hx hb dL_law_24 (by decide) (fun c53 => ?_) (fun c53 => absurd (by decide +kernel) c53)
    refine lv_iconst (v := 1) hx hb dL_law_1956 (by decide +kernel) ?_
    refine va_forget (fun q hq => hS.2.2 q hq) ?_
    refine W.widen (k := 600000) (n := 7302249) (Nat.le_of_ble_eq_true rfl) (Nat.le_of_ble_eq_true rfl) ?_
    refine W.base ?_
    exact lw_ret (Drawn.sameBut.refl s.drawn lw_cs) hx hb hr hlocks dL_law_1957
  · refine lv_iload_n hx hb dL_law_18 rfl (lv_at hl 0 rfl) ?_
    refine lv_aload_n hx hb dL_law_19 rfl (lv_at hl 3 rfl) ?_
    refine va_slen hx hb hX hbl hbA hS dL_law_20 ?_
    refine lv_bipush (v := 6) hx hb dL_law_21 (by decide +kernel) ?_
    refine lv_isub hx hb dL_law_23 ?_
    refine lv_topi (fun z54 ez54 => ?_)
    obtain rfl : z54 = (-4) := ez54.trans (by decide +kernel)
    refine lv_icmp_gt (tgt := 1956) hx hb dL_law_24 (by decide) (fun c55 => ?_) (fun c55 => absurd (by decide +kernel) c55)
    refine lv_iconst (v := 1) hx hb dL_law_1956 (by decide +kernel) ?_
    refine va_forget (fun q hq => hS.2.2 q hq) ?_
    refine W.widen (k := 600000) (n := 7302249) (Nat.le_of_ble_eq_true rfl) (Nat.le_of_ble_eq_true rfl) ?_
    refine W.base ?_
    exact lw_ret (Drawn.sameBut.refl s.drawn lw_cs) hx hb hr hlocks dL_law_1957
  · refine lv_iload_n hx hb dL_law_18 rfl (lv_at hl 0 rfl) ?_
    refine lv_aload_n hx hb dL_law_19 rfl (lv_at hl 3 rfl) ?_
    refine va_slen hx hb hX hbl hbA hS dL_law_20 ?_
    refine lv_bipush (v := 6) hx hb dL_law_21 (by decide +kernel) ?_
    refine lv_isub hx hb dL_law_23 ?_
    refine lv_topi (fun z56 ez56 => ?_)
    obtain rfl : z56 = (-3) := ez56.trans (by decide +kernel)
    refine lv_icmp_gt (tgt := 1956) hx hb dL_law_24 (by decide) (fun c57 => ?_) (fun c57 => absurd (by decide +kernel) c57)
    refine lv_iconst (v := 1) hx hb dL_law_1956 (by decide +kernel) ?_
    refine va_forget (fun q hq => hS.2.2 q hq) ?_
    refine W.widen (k := 600000) (n := 7302249) (Nat.le_of_ble_eq_true rfl) (Nat.le_of_ble_eq_true rfl) ?_
    refine W.base ?_
    exact lw_ret (Drawn.sameBut.refl s.drawn lw_cs) hx hb hr hlocks dL_law_1957
  · refine lv_iload_n hx hb dL_law_18 rfl (lv_at hl 0 rfl) ?_
    refine lv_aload_n hx hb dL_law_19 rfl (lv_at hl 3 rfl) ?_
    refine va_slen hx hb hX hbl hbA hS dL_law_20 ?_
    refine lv_bipush (v := 6) hx hb dL_law_21 (by decide +kernel) ?_
    refine lv_isub hx hb dL_law_23 ?_
    refine lv_topi (fun z58 ez58 => ?_)
    obtain rfl : z58 = (-2) := ez58.trans (by decide +kernel)
    refine lv_icmp_gt (tgt := 1956) hx hb dL_law_24 (by decide) (fun c59 => ?_) (fun c59 => absurd (by decide +kernel) c59)
    refine lv_iconst (v := 1) hx hb dL_law_1956 (by decide +kernel) ?_
    refine va_forget (fun q hq => hS.2.2 q hq) ?_
    refine W.widen (k := 600000) (n := 7302249) (Nat.le_of_ble_eq_true rfl) (Nat.le_of_ble_eq_true rfl) ?_
    refine W.base ?_
    exact lw_ret (Drawn.sameBut.refl s.drawn lw_cs) hx hb hr hlocks dL_law_1957
  · refine lv_iload_n hx hb dL_law_18 rfl (lv_at hl 0 rfl) ?_
    refine lv_aload_n hx hb dL_law_19 rfl (lv_at hl 3 rfl) ?_
    refine va_slen hx hb hX hbl hbA hS dL_law_20 ?_
    refine lv_bipush (v := 6) hx hb dL_law_21 (by decide +kernel) ?_
    refine lv_isub hx hb dL_law_23 ?_
    refine lv_topi (fun z60 ez60 => ?_)
    obtain rfl : z60 = (-1) := ez60.trans (by decide +kernel)
    refine lv_icmp_gt (tgt := 1956) hx hb dL_law_24 (by decide) (fun c61 => ?_) (fun c61 => absurd (by decide +kernel) c61)
    refine lv_iconst (v := 1) hx hb dL_law_1956 (by decide +kernel) ?_
    refine va_forget (fun q hq => hS.2.2 q hq) ?_
    refine W.widen (k := 600000) (n := 7302249) (Nat.le_of_ble_eq_true rfl) (Nat.le_of_ble_eq_true rfl) ?_
    refine W.base ?_
    exact lw_ret (Drawn.sameBut.refl s.drawn lw_cs) hx hb hr hlocks dL_law_1957
  · refine lv_iload_n hx hb dL_law_18 rfl (lv_at hl 0 rfl) ?_
    refine lv_aload_n hx hb dL_law_19 rfl (lv_at hl 3 rfl) ?_
    refine va_slen hx hb hX hbl hbA hS dL_law_20 ?_
    refine lv_bipush (v := 6) hx hb dL_law_21 (by decide +kernel) ?_
    refine lv_isub hx hb dL_law_23 ?_
    refine lv_topi (fun z62 ez62 => ?_)
    obtain rfl : z62 = 0 := ez62.trans (by decide +kernel)
    refine lv_icmp_gt (tgt := 1956) hx hb dL_law_24 (by decide) (fun c63 => absurd c63 (by decide +kernel)) (fun c63 => ?_)
    refine lv_aload_n hx hb dL_law_27 rfl (lv_at hl 3 rfl) ?_
    refine lv_iload_n hx hb dL_law_28 rfl (lv_at hl 0 rfl) ?_
    refine va_sld hx hb hX hbl hbA hS (in_d (by decide +kernel)) dL_law_29 ?_
    refine lv_bipush (v := 63) hx hb dL_law_30 (by decide +kernel) ?_
    refine lv_iand hx hb dL_law_32 ?_
    refine lv_topi (fun z64 ez64 => ?_)
    rcases sw49 z64 with rfl | rfl | rfl | rfl | rfl | rfl | rfl | rfl | rfl | rfl | rfl | rfl | rfl | rfl | rfl | rfl | rfl | rfl | rfl | rfl | rfl | rfl | rfl | rfl | rfl | rfl | rfl | rfl | rfl | rfl | rfl | rfl | rfl | rfl | rfl | rfl | rfl | rfl | rfl | rfl | rfl | rfl | rfl | rfl | rfl | rfl | rfl | rfl | rfl | hsw
    · exact lv_tableIn (off := 211) (tgt := 244) hx hb dL_law_33 (by decide +kernel) (by decide +kernel) (by decide +kernel) (by decide) (lw_case0 l C0 hK hP hD hS hl)
    · exact lv_tableIn (off := 274) (tgt := 307) hx hb dL_law_33 (by decide +kernel) (by decide +kernel) (by decide +kernel) (by decide) (lw_case1 l C0 hK hP hD hS hl)
    · exact lv_tableIn (off := 297) (tgt := 330) hx hb dL_law_33 (by decide +kernel) (by decide +kernel) (by decide +kernel) (by decide) (lw_case2 l C0 hK hP hD hS hl)
    · exact lv_tableIn (off := 310) (tgt := 343) hx hb dL_law_33 (by decide +kernel) (by decide +kernel) (by decide +kernel) (by decide) (lw_case3 l C0 hK hP hD hS hl)
    · exact lv_tableIn (off := 353) (tgt := 386) hx hb dL_law_33 (by decide +kernel) (by decide +kernel) (by decide +kernel) (by decide) (lw_case4 l C0 hK hP hD hS hl)
    · exact lv_tableIn (off := 386) (tgt := 419) hx hb dL_law_33 (by decide +kernel) (by decide +kernel) (by decide +kernel) (by decide) (lw_case5 l C0 hK hP hD hS hl)
    · exact lv_tableIn (off := 429) (tgt := 462) hx hb dL_law_33 (by decide +kernel) (by decide +kernel) (by decide +kernel) (by decide) (lw_case6 l C0 hK hP hD hS hl)
    · exact lv_tableIn (off := 472) (tgt := 505) hx hb dL_law_33 (by decide +kernel) (by decide +kernel) (by decide +kernel) (by decide) (lw_case7 l C0 hK hP hD hS hl)
    · exact lv_tableIn (off := 515) (tgt := 548) hx hb dL_law_33 (by decide +kernel) (by decide +kernel) (by decide +kernel) (by decide) (lw_case8 l C0 hK hP hD hS hl)
    · exact lv_tableIn (off := 538) (tgt := 571) hx hb dL_law_33 (by decide +kernel) (by decide +kernel) (by decide +kernel) (by decide) (lw_case9 l C0 hK hP hD hS hl)
    · exact lv_tableIn (off := 561) (tgt := 594) hx hb dL_law_33 (by decide +kernel) (by decide +kernel) (by decide +kernel) (by decide) (lw_case10 l C0 hK hP hD hS hl)
    · exact lv_tableIn (off := 624) (tgt := 657) hx hb dL_law_33 (by decide +kernel) (by decide +kernel) (by decide +kernel) (by decide) (lw_case11 l C0 hK hP hD hS hl)
    · exact lv_tableIn (off := 667) (tgt := 700) hx hb dL_law_33 (by decide +kernel) (by decide +kernel) (by decide +kernel) (by decide) (lw_case12 l C0 hK hP hD hS hl)
    · exact lv_tableIn (off := 710) (tgt := 743) hx hb dL_law_33 (by decide +kernel) (by decide +kernel) (by decide +kernel) (by decide) (lw_case13 l C0 hK hP hD hS hl)
    · exact lv_tableIn (off := 723) (tgt := 756) hx hb dL_law_33 (by decide +kernel) (by decide +kernel) (by decide +kernel) (by decide) (lw_case14 l C0 hK hP hD hS hl)
    · exact lv_tableIn (off := 746) (tgt := 779) hx hb dL_law_33 (by decide +kernel) (by decide +kernel) (by decide +kernel) (by decide) (lw_case15 l C0 hK hP hD hS hl)
    · exact lv_tableIn (off := 769) (tgt := 802) hx hb dL_law_33 (by decide +kernel) (by decide +kernel) (by decide +kernel) (by decide) (lw_case16 l C0 hK hP hD hS hl)
    · exact lv_tableIn (off := 792) (tgt := 825) hx hb dL_law_33 (by decide +kernel) (by decide +kernel) (by decide +kernel) (by decide) (lw_case17 l C0 hK hP hD hS hl)
    · exact lv_tableIn (off := 805) (tgt := 838) hx hb dL_law_33 (by decide +kernel) (by decide +kernel) (by decide +kernel) (by decide) (lw_case18 l C0 hK hP hD hS hl)
    · exact lv_tableIn (off := 828) (tgt := 861) hx hb dL_law_33 (by decide +kernel) (by decide +kernel) (by decide +kernel) (by decide) (lw_case19 l C0 hK hP hD hS hl)
    · exact lv_tableIn (off := 851) (tgt := 884) hx hb dL_law_33 (by decide +kernel) (by decide +kernel) (by decide +kernel) (by decide) (lw_case20 l C0 hK hP hD hS hl)
    · exact lv_tableIn (off := 884) (tgt := 917) hx hb dL_law_33 (by decide +kernel) (by decide +kernel) (by decide +kernel) (by decide) (lw_case21 l C0 hK hP hD hS hl)
    · exact lv_tableIn (off := 927) (tgt := 960) hx hb dL_law_33 (by decide +kernel) (by decide +kernel) (by decide +kernel) (by decide) (lw_case22 l C0 hK hP hD hS hl)
    · exact lv_tableIn (off := 971) (tgt := 1004) hx hb dL_law_33 (by decide +kernel) (by decide +kernel) (by decide +kernel) (by decide) (lw_case23 l C0 hK hP hD hS hl)
    · exact lv_tableIn (off := 1004) (tgt := 1037) hx hb dL_law_33 (by decide +kernel) (by decide +kernel) (by decide +kernel) (by decide) (lw_case24 l C0 hK hP hD hS hl)
    · exact lv_tableIn (off := 1037) (tgt := 1070) hx hb dL_law_33 (by decide +kernel) (by decide +kernel) (by decide +kernel) (by decide) (lw_case25 l C0 hK hP hD hS hl)
    · exact lv_tableIn (off := 1080) (tgt := 1113) hx hb dL_law_33 (by decide +kernel) (by decide +kernel) (by decide +kernel) (by decide) (lw_case26 l C0 hK hP hD hS hl)
    · exact lv_tableIn (off := 1103) (tgt := 1136) hx hb dL_law_33 (by decide +kernel) (by decide +kernel) (by decide +kernel) (by decide) (lw_case27 l C0 hK hP hD hS hl)
    · exact lv_tableIn (off := 1126) (tgt := 1159) hx hb dL_law_33 (by decide +kernel) (by decide +kernel) (by decide +kernel) (by decide) (lw_case28 l C0 hK hP hD hS hl)
    · exact lv_tableIn (off := 1149) (tgt := 1182) hx hb dL_law_33 (by decide +kernel) (by decide +kernel) (by decide +kernel) (by decide) (lw_case29 l C0 hK hP hD hS hl)
    · exact lv_tableIn (off := 1182) (tgt := 1215) hx hb dL_law_33 (by decide +kernel) (by decide +kernel) (by decide +kernel) (by decide) (lw_case30 l C0 hK hP hD hS hl)
    · exact lv_tableIn (off := 1225) (tgt := 1258) hx hb dL_law_33 (by decide +kernel) (by decide +kernel) (by decide +kernel) (by decide) (lw_case31 l C0 hK hP hD hS hl)
    · exact lv_tableIn (off := 1278) (tgt := 1311) hx hb dL_law_33 (by decide +kernel) (by decide +kernel) (by decide +kernel) (by decide) (lw_case32 l C0 hK hP hD hS hl)
    · exact lv_tableIn (off := 1321) (tgt := 1354) hx hb dL_law_33 (by decide +kernel) (by decide +kernel) (by decide +kernel) (by decide) (lw_case33 l C0 hK hP hD hS hl)
    · exact lv_tableIn (off := 1364) (tgt := 1397) hx hb dL_law_33 (by decide +kernel) (by decide +kernel) (by decide +kernel) (by decide) (lw_case34 l C0 hK hP hD hS hl)
    · exact lv_tableIn (off := 1407) (tgt := 1440) hx hb dL_law_33 (by decide +kernel) (by decide +kernel) (by decide +kernel) (by decide) (lw_case35 l C0 hK hP hD hS hl)
    · exact lv_tableIn (off := 1450) (tgt := 1483) hx hb dL_law_33 (by decide +kernel) (by decide +kernel) (by decide +kernel) (by decide) (lw_case36 l C0 hK hP hD hS hl)
    · exact lv_tableIn (off := 1503) (tgt := 1536) hx hb dL_law_33 (by decide +kernel) (by decide +kernel) (by decide +kernel) (by decide) (lw_case37 l C0 hK hP hD hS hl)
    · exact lv_tableIn (off := 1536) (tgt := 1569) hx hb dL_law_33 (by decide +kernel) (by decide +kernel) (by decide +kernel) (by decide) (lw_case38 l C0 hK hP hD hS hl)
    · exact lv_tableIn (off := 1579) (tgt := 1612) hx hb dL_law_33 (by decide +kernel) (by decide +kernel) (by decide +kernel) (by decide) (lw_case39 l C0 hK hP hD hS hl)
    · exact lv_tableIn (off := 1612) (tgt := 1645) hx hb dL_law_33 (by decide +kernel) (by decide +kernel) (by decide +kernel) (by decide) (lw_case40 l C0 hK hP hD hS hl)
    · exact lv_tableIn (off := 1635) (tgt := 1668) hx hb dL_law_33 (by decide +kernel) (by decide +kernel) (by decide +kernel) (by decide) (lw_case41 l C0 hK hP hD hS hl)
    · exact lv_tableIn (off := 1668) (tgt := 1701) hx hb dL_law_33 (by decide +kernel) (by decide +kernel) (by decide +kernel) (by decide) (lw_case42 l C0 hK hP hD hS hl)
    · exact lv_tableIn (off := 1721) (tgt := 1754) hx hb dL_law_33 (by decide +kernel) (by decide +kernel) (by decide +kernel) (by decide) (lw_case43 l C0 hK hP hD hS hl)
    · exact lv_tableIn (off := 1780) (tgt := 1813) hx hb dL_law_33 (by decide +kernel) (by decide +kernel) (by decide +kernel) (by decide) (lw_case44 l C0 hK hP hD hS hl)
    · exact lv_tableIn (off := 1813) (tgt := 1846) hx hb dL_law_33 (by decide +kernel) (by decide +kernel) (by decide +kernel) (by decide) (lw_case45 l C0 hK hP hD hS hl)
    · exact lv_tableIn (off := 1837) (tgt := 1870) hx hb dL_law_33 (by decide +kernel) (by decide +kernel) (by decide +kernel) (by decide) (lw_case46 l C0 hK hP hD hS hl)
    · exact lv_tableIn (off := 1851) (tgt := 1884) hx hb dL_law_33 (by decide +kernel) (by decide +kernel) (by decide +kernel) (by decide) (lw_case47 l C0 hK hP hD hS hl)
    · exact lv_tableIn (off := 1894) (tgt := 1927) hx hb dL_law_33 (by decide +kernel) (by decide +kernel) (by decide +kernel) (by decide) (lw_case48 l C0 hK hP hD hS hl)
    · exact lv_tableOut (tgt := 1950) hx hb dL_law_33 hsw (by decide) (lw_cased l C0 hK hP hD hS hl)
