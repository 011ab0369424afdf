
theorem inA {A : Nat → Prop} {ws : va_W} (h : va_D A ws) {y : Nat} (hy : y ∈ ws.map Prod.fst) : A y := by
  obtain ⟨x, hx, rfl⟩ := List.mem_map.mp hy
  obtain ⟨k, hk⟩ := List.getElem?_of_mem hx
  exact h.2 k x hk
set_option maxRecDepth 100000 in
set_option maxHeartbeats 4000000 in
theorem al_field {p : Program} {l : Launch} {e : Env} {R : Room} {s : State} {m : MethodId} {args : Array Value} {below : List Frame} {meth : Method} {c : Code} {H : Heap} {locs : List Loc} {cells slots : Nat} {Qq : State → Prop} {pc : Nat} {ls : Array Slot} {rest st0 : List Value} {A0 : Nat → Prop} {H0 : Heap} {dC : Nat → ClassId} {dI : Nat → Nat → Nat} {cs : Nat → ClassId} {L : List Nat} {K G : Nat → Nat} {Q : Nat → Nat → Option Nat} {I : Nat → Nat → Int32} {J : Nat → Nat → Int64} {x0 m0 : Nat} {tx : GT} {tm : GT × Int} {q : Nat} (g : Nat)
    (hr : va_Run p l e R s m args below meth c H locs cells slots 28 802 (F0 m pc ls st0) rest ((va_Qv (fun (_ : Unit) => True) (fun _ t => ∃ (fm : Nat), ∃ (fb : Nat), ∃ (fm0 : Nat), ∃ (fm1 : Nat), ∃ (fm2 : Nat), ∃ (fm3 : Nat), ∃ (fm4 : Nat), ∃ (fm5 : Nat), ∃ (fm6 : Nat), ∃ (fm7 : Nat), ∃ (fw0 : Nat), ∃ (fw1 : Nat), ∃ (fw2 : Nat), ∃ (fw3 : Nat), ∃ (fw4 : Nat), ∃ (fw5 : Nat), ∃ (fw6 : Nat), ∃ (fw7 : Nat), ∃ (fb0 : Nat), ∃ (fb1 : Nat), ∃ (fb2 : Nat), ∃ (fb3 : Nat), ∃ (fb4 : Nat), ∃ (fb5 : Nat), ∃ (fb6 : Nat), ∃ (fb7 : Nat), ∃ (fb8 : Nat), ∃ (fb9 : Nat), ∃ (fkM : ClassId), ∃ (fkB : ClassId), ∃ (fkJ0 : ClassId), ∃ (fkJ1 : ClassId), ∃ (fkJ2 : ClassId), ∃ (fkJ3 : ClassId), ∃ (fkJ4 : ClassId), ∃ (fkJ5 : ClassId), ∃ (fkJ6 : ClassId), ∃ (fkJ7 : ClassId), wB (dC, dI) [(q, .inr (1, [.ref fm, .ref fb, .int 0, .int 0, .int 0])), (fm, .inl (fkM, 8, .inr (.inr (.inr (.inr (rl [fm0, fm1, fm2, fm3, fm4, fm5, fm6, fm7])))))), (fb, .inl (fkB, 10, .inr (.inr (.inr (.inr (rl [fb0, fb1, fb2, fb3, fb4, fb5, fb6, fb7, fb8, fb9])))))), (fm0, .inr (3, [.int 0, .int 0, .ref fw0, .int 0, .int 0, .int 0, .int 0, .int 0])), (fw0, .inl (fkJ0, 80, .inr (.inl (fun _ => 0)))), (fm1, .inr (3, [.int 0, .int 0, .ref fw1, .int 0, .int 0, .int 0, .int 0, .int 0])), (fw1, .inl (fkJ1, 80, .inr (.inl (fun _ => 0)))), (fm2, .inr (3, [.int 0, .int 0, .ref fw2, .int 0, .int 0, .int 0, .int 0, .int 0])), (fw2, .inl (fkJ2, 80, .inr (.inl (fun _ => 0)))), (fm3, .inr (3, [.int 0, .int 0, .ref fw3, .int 0, .int 0, .int 0, .int 0, .int 0])), (fw3, .inl (fkJ3, 80, .inr (.inl (fun _ => 0)))), (fm4, .inr (3, [.int 0, .int 0, .ref fw4, .int 0, .int 0, .int 0, .int 0, .int 0])), (fw4, .inl (fkJ4, 80, .inr (.inl (fun _ => 0)))), (fm5, .inr (3, [.int 0, .int 0, .ref fw5, .int 0, .int 0, .int 0, .int 0, .int 0])), (fw5, .inl (fkJ5, 80, .inr (.inl (fun _ => 0)))), (fm6, .inr (3, [.int 0, .int 0, .ref fw6, .int 0, .int 0, .int 0, .int 0, .int 0])), (fw6, .inl (fkJ6, 80, .inr (.inl (fun _ => 0)))), (fm7, .inr (3, [.int 0, .int 0, .ref fw7, .int 0, .int 0, .int 0, .int 0, .int 0])), (fw7, .inl (fkJ7, 80, .inr (.inl (fun _ => 0)))), (fb0, .inr (0, [.int 0, .int 0, .int 0, .int 0, .int 0, .int 0, .int 0, .int 0])), (fb1, .inr (0, [.int 0, .int 0, .int 0, .int 0, .int 0, .int 0, .int 0, .int 0])), (fb2, .inr (0, [.int 0, .int 0, .int 0, .int 0, .int 0, .int 0, .int 0, .int 0])), (fb3, .inr (0, [.int 0, .int 0, .int 0, .int 0, .int 0, .int 0, .int 0, .int 0])), (fb4, .inr (0, [.int 0, .int 0, .int 0, .int 0, .int 0, .int 0, .int 0, .int 0])), (fb5, .inr (0, [.int 0, .int 0, .int 0, .int 0, .int 0, .int 0, .int 0, .int 0])), (fb6, .inr (0, [.int 0, .int 0, .int 0, .int 0, .int 0, .int 0, .int 0, .int 0])), (fb7, .inr (0, [.int 0, .int 0, .int 0, .int 0, .int 0, .int 0, .int 0, .int 0])), (fb8, .inr (0, [.int 0, .int 0, .int 0, .int 0, .int 0, .int 0, .int 0, .int 0])), (fb9, .inr (0, [.int 0, .int 0, .int 0, .int 0, .int 0, .int 0, .int 0, .int 0]))] [(fkM, .object RX3), (fkB, .object RX0), (fkJ0, .long), (fkJ1, .long), (fkJ2, .long), (fkJ3, .long), (fkJ4, .long), (fkJ5, .long), (fkJ6, .long), (fkJ7, .long)] (va_A [(q, .inr (1, [.null, .null, .int 0, .int 0, .int 0]))] H.size) t) (va_A [(q, .inr (1, [.null, .null, .int 0, .int 0, .int 0]))] H.size)) #[.ref q]) (va_A [(q, .inr (1, [.null, .null, .int 0, .int 0, .int 0]))] H.size)) (hS : va_S A0 H0 H locs) (hK : va_K (dC, dI) vwCl (tysA cs) s) (hP : va_P (dC, dI) vwCl (Wd cs L K I J Q ++ [(q, .inr (1, [.null, .null, .int 0, .int 0, .int 0]))]) H) (hD : va_D A0 (Wd cs L K I J Q ++ [(q, .inr (1, [.null, .null, .int 0, .int 0, .int 0]))])) (hA : ∀ q, H0.size ≤ q → A0 q) (hQ : Sv L K G Q) (hI : Iv L K x0 m0 tx tm I) (hx0 : x0 ∈ L) (hm0 : m0 ∈ L)
    (kk : ∀ (L1 : List Nat) (K1 G1 : Nat → Nat) (Q1 : Nat → Nat → Option Nat) (I1 : Nat → Nat → Int32) (J1 : Nat → Nat → Int64) (H1 : Heap) (locs1 : List Loc), extW L K G Q L1 K1 G1 Q1 → (∀ b, b ∈ L → I1 b = I b ∧ Q1 b = Q b ∧ J1 b = J b) → q ∈ L1 → K1 q = 1 → G1 q = g → Sv L1 K1 G1 Q1 → Iv L1 K1 x0 m0 tx tm I1 → (∀ F, va_D A0 (va_pl L1 F)) → (∀ y, y ∈ L1 → A0 y) → va_P (dC, dI) vwCl (Wd cs L1 K1 I1 J1 Q1) H1 → va_S A0 H0 H1 locs1 → W p l e R s m args below meth c H1 locs1 (cells + 28) (slots + 802) Qq (F0 m (pc + 3) ls rest)) : W p l e R s m args below meth c H locs cells slots Qq (F0 m pc ls st0) := by
  have hFc : ∀ z, va_A [(q, .inr (1, [.null, .null, .int 0, .int 0, .int 0]))] H.size z → A0 z := fun z h => h.elim (fun ⟨k, e, hk⟩ => (D_last hD).2 k _ hk) (fun h => hA z (Nat.le_trans hS.1 h))
  refine va_callv hr hS (fun z _ h => hFc z h) hFc (fun u t H1 locs1 ht hvm hw hB hz1 hk1 hS1 => ?_)
  obtain ⟨fm, fb, fm0, fm1, fm2, fm3, fm4, fm5, fm6, fm7, fw0, fw1, fw2, fw3, fw4, fw5, fw6, fw7, fb0, fb1, fb2, fb3, fb4, fb5, fb6, fb7, fb8, fb9, fkM, fkB, fkJ0, fkJ1, fkJ2, fkJ3, fkJ4, fkJ5, fkJ6, fkJ7, hP1, hK1, hD1⟩ := hB
  rw [ht] at hP1
  have hK1 := va_K.moved hvm.symm hK1
  obtain rfl : fkM = cs 13 := K_uniq hK hK1 (i := 3) (j := 0) rfl rfl
  obtain rfl : fkB = cs 14 := K_uniq hK hK1 (i := 4) (j := 1) rfl rfl
  obtain rfl : fkJ0 = cs 12 := K_uniq hK hK1 (i := 2) (j := 2) rfl rfl
  obtain rfl : fkJ1 = cs 12 := K_uniq hK hK1 (i := 2) (j := 3) rfl rfl
  obtain rfl : fkJ2 = cs 12 := K_uniq hK hK1 (i := 2) (j := 4) rfl rfl
  obtain rfl : fkJ3 = cs 12 := K_uniq hK hK1 (i := 2) (j := 5) rfl rfl
  obtain rfl : fkJ4 = cs 12 := K_uniq hK hK1 (i := 2) (j := 6) rfl rfl
  obtain rfl : fkJ5 = cs 12 := K_uniq hK hK1 (i := 2) (j := 7) rfl rfl
  obtain rfl : fkJ6 = cs 12 := K_uniq hK hK1 (i := 2) (j := 8) rfl rfl
  obtain rfl : fkJ7 = cs 12 := K_uniq hK hK1 (i := 2) (j := 9) rfl rfl
  have hlen : (Wd cs L K I J Q).length = L.length := by unfold Wd va_pl; simp
  have pre : ∀ (k : Nat) (x : Nat × va_E), (Wd cs L K I J Q)[k]? = some x → (Wd cs L K I J Q ++ [(q, .inr (1, [.null, .null, .int 0, .int 0, .int 0]))])[k]? = some x := fun k x hx => by
    rw [List.getElem?_append_left (List.getElem?_eq_some_iff.mp hx).1]; exact hx
  have lt : ∀ (k : Nat) (x : Nat × va_E), (Wd cs L K I J Q)[k]? = some x → x.1 < H.size ∧ ¬ x.1 = q := fun k x hx => by
    refine ⟨(hP k x (pre k x hx)).lt, fun z => ?_⟩
    have hk := (List.getElem?_eq_some_iff.mp hx).1
    have := hD.1 k (Wd cs L K I J Q).length x (q, .inr (1, [.null, .null, .int 0, .int 0, .int 0])) (pre k x hx) (by rw [List.getElem?_append_right (Nat.le_refl _), Nat.sub_self]; rfl) z
    omega
  have ltL : ∀ y, y ∈ L → y < H.size ∧ ¬ y = q := fun y hy => by
    obtain ⟨k, hk⟩ := va_pl_get (X := []) (f := fun a => ent cs (K a) (I a) (J a) (Q a)) hy
    exact lt k _ hk
  have hPo : va_P (dC, dI) vwCl (Wd cs L K I J Q) H1 := va_P.kept (fun k x hx => hP k x (pre k x hx)) (fun k x hx => hk1 x.1 (lt k x hx).1 (fun z => z.elim (fun ⟨j, e, hj⟩ => (lt k x hx).2 (by
    have z : j < 1 := (List.getElem?_eq_some_iff.mp hj).1
    rw [show j = 0 by omega] at hj
    exact (congrArg Prod.fst (Option.some.inj hj)).symm)) (fun z => absurd (lt k x hx).1 (by omega))))
  have hDo : ∀ F, va_D A0 (va_pl L F) := fun F => by
    have h0 : va_D A0 (Wd cs L K I J Q) := hD.by id pre (fun i j _ _ h => h)
    have e1 : ∀ (k : Nat) (x : Nat × va_E), (va_pl L F)[k]? = some x → ∃ w, (Wd cs L K I J Q)[k]? = some (x.1, w) := fun k x hx => by
      unfold va_pl at hx
      rw [List.getElem?_map] at hx
      obtain ⟨a, ha, rfl⟩ := Option.map_eq_some_iff.mp hx
      exact ⟨_, by unfold Wd va_pl; rw [List.getElem?_map, ha]; rfl⟩
    refine ⟨fun i j x y hx hy hxy => ?_, fun k x hx => ?_⟩
    · obtain ⟨w1, g1⟩ := e1 i x hx
      obtain ⟨w2, g2⟩ := e1 j y hy
      exact h0.1 i j _ _ g1 g2 hxy
    · obtain ⟨w1, g1⟩ := e1 k x hx
      have z := h0.2 k _ g1
      exact z
  have hD2 := hD1.sub (ws' := [(fm0, .inr (3, [.int 0, .int 0, .ref fw0, .int 0, .int 0, .int 0, .int 0, .int 0])), (fw0, .inl (cs 12, 80, .inr (.inl (fun _ => 0)))), (fm1, .inr (3, [.int 0, .int 0, .ref fw1, .int 0, .int 0, .int 0, .int 0, .int 0])), (fw1, .inl (cs 12, 80, .inr (.inl (fun _ => 0)))), (fm2, .inr (3, [.int 0, .int 0, .ref fw2, .int 0, .int 0, .int 0, .int 0, .int 0])), (fw2, .inl (cs 12, 80, .inr (.inl (fun _ => 0)))), (fm3, .inr (3, [.int 0, .int 0, .ref fw3, .int 0, .int 0, .int 0, .int 0, .int 0])), (fw3, .inl (cs 12, 80, .inr (.inl (fun _ => 0)))), (fm4, .inr (3, [.int 0, .int 0, .ref fw4, .int 0, .int 0, .int 0, .int 0, .int 0])), (fw4, .inl (cs 12, 80, .inr (.inl (fun _ => 0)))), (fm5, .inr (3, [.int 0, .int 0, .ref fw5, .int 0, .int 0, .int 0, .int 0, .int 0])), (fw5, .inl (cs 12, 80, .inr (.inl (fun _ => 0)))), (fm6, .inr (3, [.int 0, .int 0, .ref fw6, .int 0, .int 0, .int 0, .int 0, .int 0])), (fw6, .inl (cs 12, 80, .inr (.inl (fun _ => 0)))), (fm7, .inr (3, [.int 0, .int 0, .ref fw7, .int 0, .int 0, .int 0, .int 0, .int 0])), (fw7, .inl (cs 12, 80, .inr (.inl (fun _ => 0)))), (fb0, .inr (0, [.int 0, .int 0, .int 0, .int 0, .int 0, .int 0, .int 0, .int 0])), (fb1, .inr (0, [.int 0, .int 0, .int 0, .int 0, .int 0, .int 0, .int 0, .int 0])), (fb2, .inr (0, [.int 0, .int 0, .int 0, .int 0, .int 0, .int 0, .int 0, .int 0])), (fb3, .inr (0, [.int 0, .int 0, .int 0, .int 0, .int 0, .int 0, .int 0, .int 0])), (fb4, .inr (0, [.int 0, .int 0, .int 0, .int 0, .int 0, .int 0, .int 0, .int 0])), (fb5, .inr (0, [.int 0, .int 0, .int 0, .int 0, .int 0, .int 0, .int 0, .int 0])), (fb6, .inr (0, [.int 0, .int 0, .int 0, .int 0, .int 0, .int 0, .int 0, .int 0])), (fb7, .inr (0, [.int 0, .int 0, .int 0, .int 0, .int 0, .int 0, .int 0, .int 0])), (fb8, .inr (0, [.int 0, .int 0, .int 0, .int 0, .int 0, .int 0, .int 0, .int 0])), (fb9, .inr (0, [.int 0, .int 0, .int 0, .int 0, .int 0, .int 0, .int 0, .int 0])), (fm, .inl (cs 13, 8, .inr (.inr (.inr (.inr (rl [fm0, fm1, fm2, fm3, fm4, fm5, fm6, fm7])))))), (fb, .inl (cs 14, 10, .inr (.inr (.inr (.inr (rl [fb0, fb1, fb2, fb3, fb4, fb5, fb6, fb7, fb8, fb9])))))), (q, .inr (1, [.ref fm, .ref fb, .int 0, .int 0, .int 0]))]) [3, 4, 5, 6, 7, 8, 9, 10, 11, 12, 13, 14, 15, 16, 17, 18, 19, 20, 21, 22, 23, 24, 25, 26, 27, 28, 1, 2, 0] (by decide) rfl
  have hN : [fm0, fw0, fm1, fw1, fm2, fw2, fm3, fw3, fm4, fw4, fm5, fw5, fm6, fw6, fm7, fw7, fb0, fb1, fb2, fb3, fb4, fb5, fb6, fb7, fb8, fb9, fm, fb, q].Nodup := nd_of hD2
  have hin : ∀ y, y ∈ [fm0, fw0, fm1, fw1, fm2, fw2, fm3, fw3, fm4, fw4, fm5, fw5, fm6, fw6, fm7, fw7, fb0, fb1, fb2, fb3, fb4, fb5, fb6, fb7, fb8, fb9, fm, fb, q] → va_A [(q, .inr (1, [.null, .null, .int 0, .int 0, .int 0]))] H.size y := fun y hy => inA hD2 hy
  have hO : ∀ y, y ∈ [fm0, fw0, fm1, fw1, fm2, fw2, fm3, fw3, fm4, fw4, fm5, fw5, fm6, fw6, fm7, fw7, fb0, fb1, fb2, fb3, fb4, fb5, fb6, fb7, fb8, fb9, fm, fb, q] → y ∉ L ∧ A0 y ∧ ¬ y = x0 ∧ ¬ y = m0 := fun y hy => by
    have hz := hin y hy
    have hz2 : y = q ∨ H.size ≤ y := hz.elim (fun ⟨j, e, hj⟩ => Or.inl (by
      have z : j < 1 := (List.getElem?_eq_some_iff.mp hj).1
      rw [show j = 0 by omega] at hj
      exact (congrArg Prod.fst (Option.some.inj hj)).symm)) Or.inr
    have hL : y ∉ L := fun z => by
      have := ltL y z
      rcases hz2 with w | w
      · exact this.2 w
      · omega
    exact ⟨hL, hFc y hz, fun z => hL (z ▸ hx0), fun z => hL (z ▸ hm0)⟩
  obtain ⟨⟨L1, K1, G1, Q1, I1, J1⟩, ⟨g1, g2, g3, g4⟩, hE, hAt, -, hM⟩ := pushF (P := (L, K, G, Q, I, J)) ⟨hQ, hI, hPo, hDo⟩ g (q := q) (am := fm) (ab := fb) (ms := [(fm0, fw0), (fm1, fw1), (fm2, fw2), (fm3, fw3), (fm4, fw4), (fm5, fw5), (fm6, fw6), (fm7, fw7)]) (bs := [fb0, fb1, fb2, fb3, fb4, fb5, fb6, fb7, fb8, fb9]) rfl rfl (hP1.sub [0] rfl) (hP1.sub [1] rfl) (hP1.sub [2] rfl) (by
    intro r hr
    simp only [List.mem_cons, List.not_mem_nil, or_false] at hr
    rcases hr with rfl | rfl | rfl | rfl | rfl | rfl | rfl | rfl
    · exact ⟨hP1.sub [3] rfl, hP1.sub [4] rfl⟩
    · exact ⟨hP1.sub [5] rfl, hP1.sub [6] rfl⟩
    · exact ⟨hP1.sub [7] rfl, hP1.sub [8] rfl⟩
    · exact ⟨hP1.sub [9] rfl, hP1.sub [10] rfl⟩
    · exact ⟨hP1.sub [11] rfl, hP1.sub [12] rfl⟩
    · exact ⟨hP1.sub [13] rfl, hP1.sub [14] rfl⟩
    · exact ⟨hP1.sub [15] rfl, hP1.sub [16] rfl⟩
    · exact ⟨hP1.sub [17] rfl, hP1.sub [18] rfl⟩) (by
    intro r hr
    simp only [List.mem_cons, List.not_mem_nil, or_false] at hr
    rcases hr with rfl | rfl | rfl | rfl | rfl | rfl | rfl | rfl | rfl | rfl
    · exact hP1.sub [19] rfl
    · exact hP1.sub [20] rfl
    · exact hP1.sub [21] rfl
    · exact hP1.sub [22] rfl
    · exact hP1.sub [23] rfl
    · exact hP1.sub [24] rfl
    · exact hP1.sub [25] rfl
    · exact hP1.sub [26] rfl
    · exact hP1.sub [27] rfl
    · exact hP1.sub [28] rfl) hN hO
  exact kk L1 K1 G1 Q1 I1 J1 H1 locs1 (fun y hy => ⟨(hE y hy).1, (hE y hy).2.1, (hE y hy).2.2.1, fun _ _ => (hE y hy).2.2.2.1⟩) (fun b hb => ⟨(hE b hb).2.2.2.2.1, (hE b hb).2.2.2.1, (hE b hb).2.2.2.2.2⟩) hAt.1 hAt.2.1 hAt.2.2 g1 g2 g4 (fun y hy => by
    obtain ⟨k, hk⟩ := va_pl_get (X := []) (f := fun a => ent cs (K1 a) (I1 a) (J1 a) (Q1 a)) hy
    exact (g4 _).2 k _ hk) g3 hS1
