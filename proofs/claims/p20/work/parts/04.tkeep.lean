/-! How many bodies: the class's fields now, past, on shelves -/
def cxR (Q : Nat → Nat → Option Nat) (I : Nat → Nat → Int32) (x : Nat) (N : Int32) (S : Nat → Option Int32) : Prop := (∀ yf, Q x 2 = some yf → I yf 3 = N) ∧ (∀ yp, Q x 8 = some yp → ∀ j : Nat, j < (I x 10).toInt.toNat → ∃ F, Q yp (((I x 9).toInt.toNat + j) % 10) = some F ∧ I F 3 = N) ∧ ∀ ys, Q x 11 = some ys → ∀ s : Nat, s < 2 → (Q ys s).map (fun F => I F 3) = S s
def cxT (Q : Nat → Nat → Option Nat) (I : Nat → Nat → Int32) (x : Nat) (Q1 : Nat → Nat → Option Nat) (I1 : Nat → Nat → Int32) : Prop := ∀ N S, cxR Q I x N S → cxR Q1 I1 x N S
theorem cxT_refl {Q : Nat → Nat → Option Nat} {I : Nat → Nat → Int32} {x : Nat} : cxT Q I x Q I := fun _ _ h => h
theorem cxT_tr {Q Q1 Q2 : Nat → Nat → Option Nat} {I I1 I2 : Nat → Nat → Int32} {x : Nat} (h : cxT Q I x Q1 I1) (h2 : cxT Q1 I1 x Q2 I2) : cxT Q I x Q2 I2 := fun N S q => h2 N S (h N S q)
section CX
variable {L : List Nat} {K G : Nat → Nat} {Q Q0 : Nat → Nat → Option Nat} {I I0 I1 : Nat → Nat → Int32} {x : Nat}
theorem cx_now (hQ : Sv L K G Q) (hL : x ∈ L) (hK : K x = 6) {yf : Nat} (e : Q x 2 = some yf) : yf ∈ L ∧ K yf = 1 ∧ G yf = 1 := by
  obtain ⟨y, f1, l1, k1, g1⟩ := oQ_6_2 (Sv_at hQ hL hK)
  obtain rfl : yf = y := Option.some.inj (e.symm.trans f1)
  exact ⟨l1, k1, g1⟩
theorem cx_pst (hQ : Sv L K G Q) (hL : x ∈ L) (hK : K x = 6) {yp F i : Nat} (e : Q x 8 = some yp) (hi : i < 10) (e2 : Q yp i = some F) : F ∈ L ∧ K F = 1 ∧ G F = 5 := by
  obtain ⟨y, f1, l1, k1⟩ := oQ_6_8 (Sv_at hQ hL hK)
  obtain rfl : yp = y := Option.some.inj (e.symm.trans f1)
  rcases (Sv_at hQ l1 k1) i hi with z | ⟨w, z, a, b, c⟩
  · rw [z] at e2; cases e2
  · obtain rfl : F = w := Option.some.inj (e2.symm.trans z)
    exact ⟨a, b, c⟩
theorem cx_shl (hQ : Sv L K G Q) (hL : x ∈ L) (hK : K x = 6) {ys F i : Nat} (e : Q x 11 = some ys) (hi : i < 2) (e2 : Q ys i = some F) : F ∈ L ∧ K F = 1 ∧ G F = 6 + i := by
  obtain ⟨y, f1, l1, k1⟩ := oQ_6_11 (Sv_at hQ hL hK)
  obtain rfl : ys = y := Option.some.inj (e.symm.trans f1)
  rcases (Sv_at hQ l1 k1) i hi with z | ⟨w, z, a, b, c⟩
  · rw [z] at e2; cases e2
  · obtain rfl : F = w := Option.some.inj (e2.symm.trans z)
    exact ⟨a, b, c⟩
/-- the counts of fields in use are as they were, the ring too -/
theorem cxR_fr (hQ : Sv L K G Q) (hL : x ∈ L) (hK : K x = 6) {N : Int32} {S : Nat → Option Int32} (h1 : ∀ b, K b = 1 → I1 b 3 = I b 3) (h9 : I1 x 9 = I x 9) (h10 : I1 x 10 = I x 10) (h : cxR Q I x N S) : cxR Q I1 x N S := by
  refine ⟨fun yf e => ?_, fun yp e j hj => ?_, fun ys e s hs => ?_⟩
  · rw [h1 yf (cx_now hQ hL hK e).2.1]; exact h.1 yf e
  · rw [h9, h10] at *
    obtain ⟨F, e2, e3⟩ := h.2.1 yp e j hj
    exact ⟨F, e2, by rw [h1 F (cx_pst hQ hL hK e (Nat.mod_lt _ (by decide)) e2).2.1]; exact e3⟩
  · rw [← h.2.2 ys e s hs]
    cases q : Q ys s with
    | none => rfl
    | some F => show some (I1 F 3) = some (I F 3); rw [h1 F (cx_shl hQ hL hK e hs q).2.1]
theorem cxT_fr (hQ : Sv L K G Q) (hL : x ∈ L) (hK : K x = 6) (h : cxT Q0 I0 x Q I) (h1 : ∀ b, K b = 1 → I1 b 3 = I b 3) (h9 : I1 x 9 = I x 9) (h10 : I1 x 10 = I x 10) : cxT Q0 I0 x Q I1 := fun N S q => cxR_fr hQ hL hK h1 h9 h10 (h N S q)
theorem cxT_put (hQ : Sv L K G Q) (hL : x ∈ L) (hK : K x = 6) (h : cxT Q0 I0 x Q I) {a k κ : Nat} {v : Int32} (e : I1 = va_up I a (upd (I a) k v)) (ha : K a = κ) (hs : (κ ≠ 1 ∨ k ≠ 3) ∧ (κ ≠ 6 ∨ (k ≠ 9 ∧ k ≠ 10))) : cxT Q0 I0 x Q I1 := by
  have g : ∀ b j : Nat, (¬ b = a ∨ ¬ j = k) → I1 b j = I b j := fun b j q => by
    rw [e]
    by_cases w : b = a
    · rcases q with z | z
      · exact absurd w z
      · rw [w, va_up_self]; unfold upd; rw [if_neg z]
    · rw [va_up_ne _ _ w]
  refine cxT_fr hQ hL hK h (fun b hb => g b 3 ?_) (g x 9 ?_) (g x 10 ?_)
  · rcases hs.1 with z | z
    · exact Or.inl (fun w => z (by rw [← ha, ← w]; exact hb))
    · exact Or.inr (fun w => z w.symm)
  · rcases hs.2 with z | z
    · exact Or.inl (fun w => z (by rw [← ha, ← w]; exact hK))
    · exact Or.inr (fun w => z.1 w.symm)
  · rcases hs.2 with z | z
    · exact Or.inl (fun w => z (by rw [← ha, ← w]; exact hK))
    · exact Or.inr (fun w => z.2 w.symm)
/-- a new field -/
theorem cxT_new {Q1 : Nat → Nat → Option Nat} (hQ : Sv L K G Q) (hL : x ∈ L) (hK : K x = 6) (h : cxT Q0 I0 x Q I) (hE : ∀ b, b ∈ L → I1 b = I b ∧ Q1 b = Q b) : cxT Q0 I0 x Q1 I1 := fun N S q => by
  have r := h N S q
  refine ⟨fun yf e => ?_, fun yp e j hj => ?_, fun ys e s hs => ?_⟩
  · rw [(hE x hL).2] at e
    rw [(hE yf (cx_now hQ hL hK e).1).1]; exact r.1 yf e
  · rw [(hE x hL).2] at e
    rw [(hE x hL).1] at hj ⊢
    obtain ⟨F, e2, e3⟩ := r.2.1 yp e j hj
    obtain ⟨y, f1, l1, k1⟩ := oQ_6_8 (Sv_at hQ hL hK)
    obtain rfl : yp = y := Option.some.inj (e.symm.trans f1)
    exact ⟨F, by rw [(hE yp l1).2]; exact e2, by rw [(hE F (cx_pst hQ hL hK e (Nat.mod_lt _ (by decide)) e2).1).1]; exact e3⟩
  · rw [(hE x hL).2] at e
    obtain ⟨y, f1, l1, k1⟩ := oQ_6_11 (Sv_at hQ hL hK)
    obtain rfl : ys = y := Option.some.inj (e.symm.trans f1)
    rw [← r.2.2 ys e s hs, (hE ys l1).2]
    cases q : Q ys s with
    | none => rfl
    | some F => show some (I1 F 3) = some (I F 3); rw [(hE F (cx_shl hQ hL hK e hs q).1).1]
/-- a field in the ring's free place -/
theorem cxT_ast16 {Q1 : Nat → Nat → Option Nat} {yp v : Nat} {i : Int32} (hQ : Sv L K G Q) (hL : x ∈ L) (hK : K x = 6) (h : cxT Q0 I0 x Q I) (e : Q x 8 = some yp) (hQ1 : Q1 = va_up Q yp (va_up (Q yp) i.toNatClampNeg (some v))) (hi : i.toInt.toNat = ((I x 9).toInt.toNat + (I x 10).toInt.toNat) % 10) (hu : (I x 10).toInt ≤ 9) : cxT Q0 I0 x Q1 I := fun N S q => by
  have r := h N S q
  obtain ⟨y, f1, l1, k1⟩ := oQ_6_8 (Sv_at hQ hL hK)
  obtain rfl : yp = y := Option.some.inj (e.symm.trans f1)
  have nx : ¬ x = yp := ne_k hK k1 (by decide)
  have ex : Q1 x = Q x := by rw [hQ1, va_up_ne _ _ nx]
  refine ⟨fun yf e => r.1 yf (by rw [ex] at e; exact e), fun yp2 e2 j hj => ?_, fun ys e2 s hs => ?_⟩
  · rw [ex] at e2
    obtain rfl : yp = yp2 := Option.some.inj (e.symm.trans e2)
    obtain ⟨F, e3, e4⟩ := r.2.1 yp e j hj
    refine ⟨F, ?_, e4⟩
    have ne : ¬ ((I x 9).toInt.toNat + j) % 10 = i.toNatClampNeg := by
      show ¬ ((I x 9).toInt.toNat + j) % 10 = i.toInt.toNat
      omega
    rw [hQ1, va_up_self, va_up_ne _ _ ne]; exact e3
  · rw [ex] at e2
    obtain ⟨y2, f2, l2, k2⟩ := oQ_6_11 (Sv_at hQ hL hK)
    obtain rfl : ys = y2 := Option.some.inj (e2.symm.trans f2)
    rw [← r.2.2 ys e2 s hs, hQ1, va_up_ne _ _ (ne_k k2 k1 (by decide))]
/-- the ring goes on: all ten are in use, the first one is given up -/
theorem cxT_ring {o u : Int32} (h : cxT Q0 I0 x Q I) (e9 : I1 x 9 = o) (e10 : I1 x 10 = u) (h1 : ∀ b, K b = 1 → I1 b 3 = I b 3) (hQ : Sv L K G Q) (hL : x ∈ L) (hK : K x = 6) (h10 : (I x 10).toInt = 10) (hu : u.toInt = 9) (ho : o.toInt = ((I x 9).toInt + 1) % 10) (h0 : 0 ≤ (I x 9).toInt) : cxT Q0 I0 x Q I1 := fun N S q => by
  have r := h N S q
  refine ⟨fun yf e => ?_, fun yp e j hj => ?_, fun ys e s hs => ?_⟩
  · rw [h1 yf (cx_now hQ hL hK e).2.1]; exact r.1 yf e
  · rw [e10] at hj
    rw [e9]
    obtain ⟨F, e2, e3⟩ := r.2.1 yp e (j + 1) (by omega)
    rw [show ((I x 9).toInt.toNat + (j + 1)) % 10 = (o.toInt.toNat + j) % 10 by omega] at e2
    exact ⟨F, e2, by rw [h1 F (cx_pst hQ hL hK e (Nat.mod_lt _ (by decide)) e2).2.1]; exact e3⟩
  · rw [← r.2.2 ys e s hs]
    cases q : Q ys s with
    | none => rfl
    | some F => show some (I1 F 3) = some (I F 3); rw [h1 F (cx_shl hQ hL hK e hs q).2.1]
/-- a field of the past becomes as the one now -/
theorem cxT_become {yf v : Nat} (hQ : Sv L K G Q) (hL : x ∈ L) (hK : K x = 6) (h : cxT Q0 I0 x Q I) (e : Q x 2 = some yf) (hv : I1 v 3 = I yf 3) (hG : G v = 5) (h1 : ∀ b, K b = 1 → ¬ b = v → I1 b 3 = I b 3) (h9 : I1 x 9 = I x 9) (h10 : I1 x 10 = I x 10) : cxT Q0 I0 x Q I1 := fun N S q => by
  have r := h N S q
  refine ⟨fun y2 e2 => ?_, fun yp e2 j hj => ?_, fun ys e2 s hs => ?_⟩
  · have c := cx_now hQ hL hK e2
    rw [h1 y2 c.2.1 (fun z => by have := c.2.2; rw [z, hG] at this; exact absurd this (by decide))]; exact r.1 y2 e2
  · rw [h9, h10] at *
    obtain ⟨F, e3, e4⟩ := r.2.1 yp e2 j hj
    refine ⟨F, e3, ?_⟩
    by_cases z : F = v
    · rw [z, hv]; exact r.1 yf e
    · rw [h1 F (cx_pst hQ hL hK e2 (Nat.mod_lt _ (by decide)) e3).2.1 z]; exact e4
  · rw [← r.2.2 ys e2 s hs]
    cases q : Q ys s with
    | none => rfl
    | some F =>
      have c := cx_shl hQ hL hK e2 hs q
      show some (I1 F 3) = some (I F 3)
      rw [h1 F c.2.1 (fun z => by have := c.2.2; rw [z, hG] at this; omega)]
/-- one more can be undone: the field that became as the one now -/
theorem cxT_more {yf yp v : Nat} {u : Int32} (hQ : Sv L K G Q) (hL : x ∈ L) (hK : K x = 6) (h : cxT Q0 I0 x Q I) (e : Q x 2 = some yf) (e2 : Q x 8 = some yp) (e3 : Q yp (((I x 9).toInt.toNat + (I x 10).toInt.toNat) % 10) = some v) (hv : I v 3 = I yf 3) (e1 : I1 = va_up I x (upd (I x) 10 u)) (hu : u.toInt = (I x 10).toInt + 1) (hu0 : 0 ≤ (I x 10).toInt) : cxT Q0 I0 x Q I1 := fun N S q => by
  have r := h N S q
  have g : ∀ b k : Nat, ¬ k = 10 → I1 b k = I b k := fun b k hk => by rw [e1, rz_fr _ _ _ _ hk]
  refine ⟨fun y2 z => by rw [g _ _ (by decide)]; exact r.1 y2 z, fun yp2 z j hj => ?_, fun ys z s hs => ?_⟩
  · rw [g _ _ (by decide)]
    rw [e1, rz_at, hu] at hj
    obtain rfl : yp = yp2 := Option.some.inj (e2.symm.trans z)
    by_cases w : j < (I x 10).toInt.toNat
    · obtain ⟨F, a, b⟩ := r.2.1 yp e2 j w
      exact ⟨F, a, by rw [g _ _ (by decide)]; exact b⟩
    · obtain rfl : j = (I x 10).toInt.toNat := by omega
      exact ⟨v, e3, by rw [g _ _ (by decide), hv]; exact r.1 yf e⟩
  · rw [← r.2.2 ys z s hs, show (fun F => I1 F 3) = (fun F => I F 3) from funext (fun F => g F 3 (by decide))]
/-- one less -/
theorem cxT_less {u : Int32} (h : cxT Q0 I0 x Q I) (e1 : I1 = va_up I x (upd (I x) 10 u)) (hu : u.toInt ≤ (I x 10).toInt) : cxT Q0 I0 x Q I1 := fun N S q => by
  have r := h N S q
  have g : ∀ b k : Nat, ¬ k = 10 → I1 b k = I b k := fun b k hk => by rw [e1, rz_fr _ _ _ _ hk]
  refine ⟨fun y2 z => by rw [g _ _ (by decide)]; exact r.1 y2 z, fun yp z j hj => ?_, fun ys z s hs => ?_⟩
  · rw [g _ _ (by decide)]
    rw [e1, rz_at] at hj
    obtain ⟨F, a, b⟩ := r.2.1 yp z j (by omega)
    exact ⟨F, a, by rw [g _ _ (by decide)]; exact b⟩
  · rw [← r.2.2 ys z s hs, show (fun F => I1 F 3) = (fun F => I F 3) from funext (fun F => g F 3 (by decide))]
/-- the last one is undone -/
theorem cxT_undo {yf F yp : Nat} (hQ : Sv L K G Q) (hL : x ∈ L) (hK : K x = 6) (h : cxT Q0 I0 x Q I) (e : Q x 2 = some yf) (e8 : Q x 8 = some yp) (hF : Q yp (((I x 9).toInt.toNat + ((I x 10).toInt.toNat - 1)) % 10) = some F) (hu : 0 < (I x 10).toInt) (hv : I1 yf 3 = I F 3) (h1 : ∀ b, K b = 1 → ¬ b = yf → I1 b 3 = I b 3) (h9 : I1 x 9 = I x 9) (h10 : (I1 x 10).toInt = (I x 10).toInt - 1) : cxT Q0 I0 x Q I1 := fun N S q => by
  have r := h N S q
  obtain ⟨F2, a, b⟩ := r.2.1 yp e8 ((I x 10).toInt.toNat - 1) (by omega)
  obtain rfl : F = F2 := Option.some.inj (hF.symm.trans a)
  have cf := cx_now hQ hL hK e
  refine ⟨fun y2 z => ?_, fun yp2 z j hj => ?_, fun ys z s hs => ?_⟩
  · obtain rfl : yf = y2 := Option.some.inj (e.symm.trans z)
    rw [hv]; exact b
  · rw [h9]
    obtain ⟨F3, a3, b3⟩ := r.2.1 yp2 z j (by omega)
    have c := cx_pst hQ hL hK z (Nat.mod_lt _ (by decide)) a3
    exact ⟨F3, a3, by rw [h1 F3 c.2.1 (fun w => by have := c.2.2; rw [w, cf.2.2] at this; exact absurd this (by decide))]; exact b3⟩
  · rw [← r.2.2 ys z s hs]
    cases q : Q ys s with
    | none => rfl
    | some F3 =>
      have c := cx_shl hQ hL hK z hs q
      show some (I1 F3 3) = some (I F3 3)
      rw [h1 F3 c.2.1 (fun w => by have := c.2.2; rw [w, cf.2.2] at this; omega)]
/-- the field now becomes another one; nothing can be undone then -/
theorem cxR_repl {yf : Nat} {N N1 : Int32} {S : Nat → Option Int32} (hQ : Sv L K G Q) (hL : x ∈ L) (hK : K x = 6) (r : cxR Q I x N S) (e : Q x 2 = some yf) (hv : I1 yf 3 = N1) (h1 : ∀ b, K b = 1 → ¬ b = yf → I1 b 3 = I b 3) (h10 : (I1 x 10).toInt = 0) : cxR Q I1 x N1 S := by
  have cf := cx_now hQ hL hK e
  refine ⟨fun y2 z => ?_, fun yp2 z j hj => absurd hj (by omega), fun ys z s hs => ?_⟩
  · obtain rfl : yf = y2 := Option.some.inj (e.symm.trans z)
    exact hv
  · rw [← r.2.2 ys z s hs]
    cases q : Q ys s with
    | none => rfl
    | some F3 =>
      have c := cx_shl hQ hL hK z hs q
      show some (I1 F3 3) = some (I F3 3)
      rw [h1 F3 c.2.1 (fun w => by have := c.2.2; rw [w, cf.2.2] at this; omega)]
/-- a field that is neither now nor past nor kept changes -/
theorem cxR_oth {v : Nat} {N : Int32} {S : Nat → Option Int32} (hQ : Sv L K G Q) (hL : x ∈ L) (hK : K x = 6) (r : cxR Q I x N S) (hG : G v = 3) (h1 : ∀ b, K b = 1 → ¬ b = v → I1 b 3 = I b 3) (h9 : I1 x 9 = I x 9) (h10 : I1 x 10 = I x 10) : cxR Q I1 x N S := by
  refine ⟨fun yf e => ?_, fun yp e j hj => ?_, fun ys e s hs => ?_⟩
  · have c := cx_now hQ hL hK e
    rw [h1 yf c.2.1 (fun w => by have := c.2.2; rw [w, hG] at this; exact absurd this (by decide))]; exact r.1 yf e
  · rw [h9, h10] at *
    obtain ⟨F, e2, e3⟩ := r.2.1 yp e j hj
    have c := cx_pst hQ hL hK e (Nat.mod_lt _ (by decide)) e2
    exact ⟨F, e2, by rw [h1 F c.2.1 (fun w => by have := c.2.2; rw [w, hG] at this; exact absurd this (by decide))]; exact e3⟩
  · rw [← r.2.2 ys e s hs]
    cases q : Q ys s with
    | none => rfl
    | some F =>
      have c := cx_shl hQ hL hK e hs q
      show some (I1 F 3) = some (I F 3)
      rw [h1 F c.2.1 (fun w => by have := c.2.2; rw [w, hG] at this; omega)]
/-- a field on a shelf becomes as the one now -/
theorem cxR_kept {yf ys v k : Nat} {N : Int32} {S : Nat → Option Int32} (hQ : Sv L K G Q) (hL : x ∈ L) (hK : K x = 6) (r : cxR Q I x N S) (e : Q x 2 = some yf) (e2 : Q x 11 = some ys) (hk : k < 2) (e3 : Q ys k = some v) (hv : I1 v 3 = I yf 3) (h1 : ∀ b, K b = 1 → ¬ b = v → I1 b 3 = I b 3) (h9 : I1 x 9 = I x 9) (h10 : I1 x 10 = I x 10) : cxR Q I1 x N (fun s => if s = k then some N else S s) := by
  have cv := cx_shl hQ hL hK e2 hk e3
  refine ⟨fun y2 z => ?_, fun yp z j hj => ?_, fun ys2 z s hs => ?_⟩
  · have c := cx_now hQ hL hK z
    rw [h1 y2 c.2.1 (fun w => by have := c.2.2; rw [w, cv.2.2] at this; omega)]; exact r.1 y2 z
  · rw [h9, h10] at *
    obtain ⟨F, a, b⟩ := r.2.1 yp z j hj
    have c := cx_pst hQ hL hK z (Nat.mod_lt _ (by decide)) a
    exact ⟨F, a, by rw [h1 F c.2.1 (fun w => by have := c.2.2; rw [w, cv.2.2] at this; omega)]; exact b⟩
  · obtain rfl : ys = ys2 := Option.some.inj (e2.symm.trans z)
    by_cases w : s = k
    · show Option.map (fun F => I1 F 3) (Q ys s) = if s = k then some N else S s
      rw [if_pos w, w, e3]; show some (I1 v 3) = some N; rw [hv, r.1 yf e]
    · show Option.map (fun F => I1 F 3) (Q ys s) = if s = k then some N else S s
      rw [if_neg w, ← r.2.2 ys z s hs]
      cases q : Q ys s with
      | none => rfl
      | some F =>
        have c := cx_shl hQ hL hK z hs q
        show some (I1 F 3) = some (I F 3)
        rw [h1 F c.2.1 (fun u => by have := c.2.2; rw [u, cv.2.2] at this; omega)]
/-- a new field on an empty shelf: what it is then is told of it as it becomes -/
def cxH (Q : Nat → Nat → Option Nat) (I : Nat → Nat → Int32) (x : Nat) (N : Int32) (S : Nat → Option Int32) (k : Nat) : Prop := (∀ yf, Q x 2 = some yf → I yf 3 = N) ∧ (∀ yp, Q x 8 = some yp → ∀ j : Nat, j < (I x 10).toInt.toNat → ∃ F, Q yp (((I x 9).toInt.toNat + j) % 10) = some F ∧ I F 3 = N) ∧ ∀ ys, Q x 11 = some ys → ∀ s : Nat, s < 2 → ¬ s = k → (Q ys s).map (fun F => I F 3) = S s
theorem cxH_of {N : Int32} {S : Nat → Option Int32} {k : Nat} (h : cxR Q I x N S) : cxH Q I x N S k := ⟨h.1, h.2.1, fun ys e s hs _ => h.2.2 ys e s hs⟩
theorem cxH_ast {Q1 : Nat → Nat → Option Nat} {ys v : Nat} {i : Int32} {N : Int32} {S : Nat → Option Int32} (hQ : Sv L K G Q) (hL : x ∈ L) (hK : K x = 6) (r : cxR Q I x N S) (e : Q x 11 = some ys) (hQ1 : Q1 = va_up Q ys (va_up (Q ys) i.toNatClampNeg (some v))) : cxH Q1 I x N S i.toInt.toNat := by
  obtain ⟨y, f1, l1, k1⟩ := oQ_6_11 (Sv_at hQ hL hK)
  obtain rfl : ys = y := Option.some.inj (e.symm.trans f1)
  have ex : Q1 x = Q x := by rw [hQ1, va_up_ne _ _ (ne_k hK k1 (by decide))]
  refine ⟨fun yf z => r.1 yf (by rw [ex] at z; exact z), fun yp z j hj => ?_, fun y2 z s hs hn => ?_⟩
  · rw [ex] at z
    obtain ⟨y3, f3, l3, k3⟩ := oQ_6_8 (Sv_at hQ hL hK)
    obtain rfl : yp = y3 := Option.some.inj (z.symm.trans f3)
    obtain ⟨F, a, b⟩ := r.2.1 yp z j hj
    exact ⟨F, by rw [hQ1, va_up_ne _ _ (ne_k k3 k1 (by decide))]; exact a, b⟩
  · rw [ex] at z
    obtain rfl : ys = y2 := Option.some.inj (e.symm.trans z)
    have n2 : ¬ s = i.toNatClampNeg := hn
    rw [hQ1, va_up_self, va_up_ne _ _ n2]; exact r.2.2 ys e s hs
theorem cxH_kept {yf ys v k : Nat} {N : Int32} {S : Nat → Option Int32} (hQ : Sv L K G Q) (hL : x ∈ L) (hK : K x = 6) (r : cxH Q I x N S k) (e : Q x 2 = some yf) (e2 : Q x 11 = some ys) (hk : k < 2) (e3 : Q ys k = some v) (hv : I1 v 3 = I yf 3) (h1 : ∀ b, K b = 1 → ¬ b = v → I1 b 3 = I b 3) (h9 : I1 x 9 = I x 9) (h10 : I1 x 10 = I x 10) : cxR Q I1 x N (fun s => if s = k then some N else S s) := by
  have h : cxR Q I x N (fun s => if s = k then some (I v 3) else S s) := ⟨r.1, r.2.1, fun y2 z s hs => by
    by_cases w : s = k
    · obtain rfl : ys = y2 := Option.some.inj (e2.symm.trans z)
      show Option.map (fun F => I F 3) (Q ys s) = if s = k then some (I v 3) else S s
      rw [if_pos w, w, e3]; rfl
    · show Option.map (fun F => I F 3) (Q y2 s) = if s = k then some (I v 3) else S s
      rw [if_neg w]; exact r.2.2 y2 z s hs w⟩
  have q := cxR_kept hQ hL hK h e e2 hk e3 hv h1 h9 h10
  have ee : (fun s => if s = k then some N else (fun s => if s = k then some (I v 3) else S s) s) = (fun s => if s = k then some N else S s) := by
    funext s
    by_cases w : s = k
    · simp [w]
    · simp [w]
  rw [ee] at q; exact q
end CX
def bkF (k N : Int32) (S : Nat → Option Int32) : Int × Int32 := if 0 ≤ k.toInt ∧ k.toInt ≤ 1 then (match S k.toInt.toNat with | none => (-2, N) | some c => (c.toInt, c)) else (-1, N)
def kpF (k N : Int32) (S : Nat → Option Int32) : Int × (Nat → Option Int32) := if 0 ≤ k.toInt ∧ k.toInt ≤ 1 then (N.toInt, fun s => if s = k.toInt.toNat then some N else S s) else (-1, S)
/-! How many bodies: the reference's -/
def cmR (Q : Nat → Nat → Option Nat) (I : Nat → Nat → Int32) (m : Nat) (N : Int32) (S : Nat → Option Int32) : Prop := (∀ yn, Q m 0 = some yn → I yn 1 = N) ∧ (∀ yp, Q m 3 = some yp → ∀ j : Nat, j < (I m 11).toInt.toNat → I yp (99 * j + 1) = N) ∧ ∀ ys yk, Q m 4 = some ys → Q m 10 = some yk → ∀ s : Nat, s < 2 → (if I yk s = 0 then none else some (I ys (99 * s + 1))) = S s
def cmT (Q : Nat → Nat → Option Nat) (I : Nat → Nat → Int32) (m : Nat) (I1 : Nat → Nat → Int32) : Prop := ∀ N S, cmR Q I m N S → cmR Q I1 m N S
theorem cmT_refl {Q : Nat → Nat → Option Nat} {I : Nat → Nat → Int32} {m : Nat} : cmT Q I m I := fun _ _ h => h
theorem cmT_tr {Q : Nat → Nat → Option Nat} {I I1 I2 : Nat → Nat → Int32} {m : Nat} (h : cmT Q I m I1) (h2 : cmT Q I1 m I2) : cmT Q I m I2 := fun N S q => h2 N S (h N S q)
section CM
variable {L : List Nat} {K G : Nat → Nat} {Q : Nat → Nat → Option Nat} {I I0 I1 : Nat → Nat → Int32} {m : Nat}
theorem cm_k (hQ : Sv L K G Q) (hL : m ∈ L) (hK : K m = 7) : (∀ y, Q m 0 = some y → K y = 18) ∧ (∀ y, Q m 3 = some y → K y = 19) ∧ (∀ y, Q m 4 = some y → K y = 20) ∧ (∀ y, Q m 10 = some y → K y = 24) ∧ ∀ y, Q m 2 = some y → K y = 30 := by
  obtain ⟨y0, f0, l0, k0⟩ := oQ_7_0 (Sv_at hQ hL hK)
  obtain ⟨y1, f1, l1, k1⟩ := oQ_7_3 (Sv_at hQ hL hK)
  obtain ⟨y2, f2, l2, k2⟩ := oQ_7_4 (Sv_at hQ hL hK)
  obtain ⟨y3, f3, l3, k3⟩ := oQ_7_10 (Sv_at hQ hL hK)
  obtain ⟨y4, f4, l4, k4⟩ := oQ_7_2 (Sv_at hQ hL hK)
  refine ⟨fun y e => ?_, fun y e => ?_, fun y e => ?_, fun y e => ?_, fun y e => ?_⟩
  · obtain rfl : y = y0 := Option.some.inj (e.symm.trans f0); exact k0
  · obtain rfl : y = y1 := Option.some.inj (e.symm.trans f1); exact k1
  · obtain rfl : y = y2 := Option.some.inj (e.symm.trans f2); exact k2
  · obtain rfl : y = y3 := Option.some.inj (e.symm.trans f3); exact k3
  · obtain rfl : y = y4 := Option.some.inj (e.symm.trans f4); exact k4
theorem cmT_fr (hQ : Sv L K G Q) (hL : m ∈ L) (hK : K m = 7) (h : cmT Q I0 m I) (h1 : ∀ b, K b = 18 → I1 b 1 = I b 1) (h2 : ∀ b, K b = 19 ∨ K b = 20 ∨ K b = 24 → I1 b = I b) (h11 : I1 m 11 = I m 11) : cmT Q I0 m I1 := fun N S q => by
  have r := h N S q
  obtain ⟨a, b, c, d, -⟩ := cm_k hQ hL hK
  refine ⟨fun yn e => ?_, fun yp e j hj => ?_, fun ys yk e e2 s hs => ?_⟩
  · rw [h1 yn (a yn e)]; exact r.1 yn e
  · rw [h11] at hj; rw [h2 yp (Or.inl (b yp e))]; exact r.2.1 yp e j hj
  · rw [h2 yk (Or.inr (Or.inr (d yk e2))), h2 ys (Or.inr (Or.inl (c ys e)))]; exact r.2.2 ys yk e e2 s hs
theorem cmT_put (hQ : Sv L K G Q) (hL : m ∈ L) (hK : K m = 7) (h : cmT Q I0 m I) {a k κ : Nat} {v : Int32} (e : I1 = va_up I a (upd (I a) k v)) (ha : K a = κ) (hs : (κ ≠ 18 ∨ k ≠ 1) ∧ (κ ≠ 7 ∨ k ≠ 11) ∧ κ ≠ 19 ∧ κ ≠ 20 ∧ κ ≠ 24) : cmT Q I0 m I1 := by
  have g : ∀ b j : Nat, (¬ b = a ∨ ¬ j = k) → I1 b j = I b j := fun b j q => by
    rw [e]
    by_cases w : b = a
    · rcases q with z | z
      · exact absurd w z
      · rw [w, va_up_self]; unfold upd; rw [if_neg z]
    · rw [va_up_ne _ _ w]
  refine cmT_fr hQ hL hK h (fun b hb => g b 1 ?_) (fun b hb => funext (fun j => g b j (Or.inl (fun w => ?_)))) (g m 11 ?_)
  · rcases hs.1 with z | z
    · exact Or.inl (fun w => z (by rw [← ha, ← w]; exact hb))
    · exact Or.inr (fun w => z w.symm)
  · have e2 : K b = κ := by rw [w]; exact ha
    have h3 := hs.2.2
    rw [e2] at hb
    omega
  · rcases hs.2.1 with z | z
    · exact Or.inl (fun w => z (by rw [← ha, ← w]; exact hK))
    · exact Or.inr (fun w => z w.symm)
/-- all that is past goes one place down -/
theorem cmT_shift {yp w t : Nat} (hQ : Sv L K G Q) (hL : m ∈ L) (hK : K m = 7) (h : cmT Q I0 m I) (e : Q m 3 = some yp) (hv : I1 yp (99 * t + 1) = I yp (99 * w + 1)) (hj : ∀ j : Nat, ¬ j = t → I1 yp (99 * j + 1) = I yp (99 * j + 1)) (fr : ∀ b, ¬ b = yp → I1 b = I b) (hw : w < (I m 11).toInt.toNat) : cmT Q I0 m I1 := fun N S q => by
  have r := h N S q
  obtain ⟨a, b, c, d, -⟩ := cm_k hQ hL hK
  have kp := b yp e
  refine ⟨fun yn z => ?_, fun y2 z j hj2 => ?_, fun ys yk z z2 s hs => ?_⟩
  · rw [fr yn (ne_k (a yn z) kp (by decide))]; exact r.1 yn z
  · rw [fr m (ne_k hK kp (by decide))] at hj2
    obtain rfl : yp = y2 := Option.some.inj (e.symm.trans z)
    by_cases x : j = t
    · rw [x, hv]; exact r.2.1 yp e w hw
    · rw [hj j x]; exact r.2.1 yp e j hj2
  · rw [fr yk (ne_k (d yk z2) kp (by decide)), fr ys (ne_k (c ys z) kp (by decide))]; exact r.2.2 ys yk z z2 s hs
theorem cmT_less {u : Int32} (h : cmT Q I0 m I) (e1 : I1 = va_up I m (upd (I m) 11 u)) (hu : u.toInt ≤ (I m 11).toInt) (hQ : Sv L K G Q) (hL : m ∈ L) (hK : K m = 7) : cmT Q I0 m I1 := fun N S q => by
  have r := h N S q
  obtain ⟨a, b, c, d, -⟩ := cm_k hQ hL hK
  have fr : ∀ b, ¬ b = m → I1 b = I b := fun b hb => by rw [e1, va_up_ne _ _ hb]
  refine ⟨fun yn z => ?_, fun y2 z j hj2 => ?_, fun ys yk z z2 s hs => ?_⟩
  · rw [fr yn (ne_k (a yn z) hK (by decide))]; exact r.1 yn z
  · rw [e1, rz_at] at hj2
    rw [fr y2 (ne_k (b y2 z) hK (by decide))]; exact r.2.1 y2 z j (by omega)
  · rw [fr yk (ne_k (d yk z2) hK (by decide)), fr ys (ne_k (c ys z) hK (by decide))]; exact r.2.2 ys yk z z2 s hs
/-- what lies aside is remembered -/
theorem cmR_more {Ia : Nat → Nat → Int32} {yp t : Nat} {u N : Int32} {S : Nat → Option Int32} (hQ : Sv L K G Q) (hL : m ∈ L) (hK : K m = 7) (r : cmR Q I m N S) (e : Q m 3 = some yp) (ht : t = (I m 11).toInt.toNat) (hv : Ia yp (99 * t + 1) = N) (hj : ∀ j : Nat, ¬ j = t → Ia yp (99 * j + 1) = I yp (99 * j + 1)) (fr : ∀ b, ¬ b = yp → Ia b = I b) (e1 : I1 = va_up Ia m (upd (Ia m) 11 u)) (hu : u.toInt = (I m 11).toInt + 1) (h0 : 0 ≤ (I m 11).toInt) : cmR Q I1 m N S := by
  obtain ⟨a, b, c, d, -⟩ := cm_k hQ hL hK
  have kp := b yp e
  have f2 : ∀ b, ¬ b = m → I1 b = Ia b := fun b hb => by rw [e1, va_up_ne _ _ hb]
  refine ⟨fun y2 z => ?_, fun y2 z j hj2 => ?_, fun ys yk z z2 s hs => ?_⟩
  · rw [f2 y2 (ne_k (a y2 z) hK (by decide)), fr y2 (ne_k (a y2 z) kp (by decide))]; exact r.1 y2 z
  · rw [e1, rz_at, hu] at hj2
    obtain rfl : yp = y2 := Option.some.inj (e.symm.trans z)
    rw [f2 yp (ne_k kp hK (by decide))]
    by_cases x : j = t
    · rw [x, hv]
    · rw [hj j x]; exact r.2.1 yp e j (by omega)
  · rw [f2 yk (ne_k (d yk z2) hK (by decide)), f2 ys (ne_k (c ys z) hK (by decide)), fr yk (ne_k (d yk z2) kp (by decide)), fr ys (ne_k (c ys z) kp (by decide))]; exact r.2.2 ys yk z z2 s hs
/-- the last one is undone -/
theorem cmT_undo {yp yn t : Nat} (hQ : Sv L K G Q) (hL : m ∈ L) (hK : K m = 7) (h : cmT Q I0 m I) (e : Q m 3 = some yp) (e0 : Q m 0 = some yn) (ht : t < (I m 11).toInt.toNat) (hv : I1 yn 1 = I yp (99 * t + 1)) (fr : ∀ b, ¬ b = yn → ¬ b = m → I1 b = I b) (h11 : (I1 m 11).toInt ≤ (I m 11).toInt) : cmT Q I0 m I1 := fun N S q => by
  have r := h N S q
  obtain ⟨a, b, c, d, -⟩ := cm_k hQ hL hK
  have kn := a yn e0
  refine ⟨fun y2 z => ?_, fun y2 z j hj2 => ?_, fun ys yk z z2 s hs => ?_⟩
  · obtain rfl : yn = y2 := Option.some.inj (e0.symm.trans z)
    rw [hv]; exact r.2.1 yp e t ht
  · rw [fr y2 (ne_k (b y2 z) kn (by decide)) (ne_k (b y2 z) hK (by decide))]; exact r.2.1 y2 z j (by omega)
  · rw [fr yk (ne_k (d yk z2) kn (by decide)) (ne_k (d yk z2) hK (by decide)), fr ys (ne_k (c ys z) kn (by decide)) (ne_k (c ys z) hK (by decide))]; exact r.2.2 ys yk z z2 s hs
/-- another one comes now; nothing can be undone then -/
theorem cmR_repl {yn : Nat} {N N1 : Int32} {S : Nat → Option Int32} (hQ : Sv L K G Q) (hL : m ∈ L) (hK : K m = 7) (r : cmR Q I m N S) (e0 : Q m 0 = some yn) (hv : I1 yn 1 = N1) (fr : ∀ b, K b = 20 ∨ K b = 24 → I1 b = I b) (h11 : (I1 m 11).toInt = 0) : cmR Q I1 m N1 S := by
  obtain ⟨a, b, c, d, -⟩ := cm_k hQ hL hK
  refine ⟨fun y2 z => ?_, fun y2 z j hj2 => absurd hj2 (by omega), fun ys yk z z2 s hs => ?_⟩
  · obtain rfl : yn = y2 := Option.some.inj (e0.symm.trans z)
    exact hv
  · rw [fr yk (Or.inr (d yk z2)), fr ys (Or.inl (c ys z))]; exact r.2.2 ys yk z z2 s hs
/-- all is kept -/
theorem cmR_kept {yn ys yk k : Nat} {N v : Int32} {S : Nat → Option Int32} (hQ : Sv L K G Q) (hL : m ∈ L) (hK : K m = 7) (r : cmR Q I m N S) (e0 : Q m 0 = some yn) (e4 : Q m 4 = some ys) (e10 : Q m 10 = some yk) (hv : I1 ys (99 * k + 1) = I yn 1) (hj : ∀ j : Nat, ¬ j = k → I1 ys (99 * j + 1) = I ys (99 * j + 1)) (hk : I1 yk = upd (I yk) k v) (hn : ¬ v = 0) (fr : ∀ b, ¬ b = ys → ¬ b = yk → I1 b = I b) : cmR Q I1 m N (fun s => if s = k then some N else S s) := by
  obtain ⟨a, b, c, d, -⟩ := cm_k hQ hL hK
  have kn := c ys e4
  have kk := d yk e10
  refine ⟨fun y2 z => ?_, fun y2 z j hj2 => ?_, fun y2 y3 z z2 s hs => ?_⟩
  · rw [fr y2 (ne_k (a y2 z) kn (by decide)) (ne_k (a y2 z) kk (by decide))]; exact r.1 y2 z
  · rw [fr m (ne_k hK kn (by decide)) (ne_k hK kk (by decide))] at hj2
    rw [fr y2 (ne_k (b y2 z) kn (by decide)) (ne_k (b y2 z) kk (by decide))]; exact r.2.1 y2 z j hj2
  · obtain rfl : ys = y2 := Option.some.inj (e4.symm.trans z)
    obtain rfl : yk = y3 := Option.some.inj (e10.symm.trans z2)
    show _ = if s = k then some N else S s
    rw [hk]
    unfold upd
    by_cases w : s = k
    · rw [if_pos w, if_pos w, if_neg hn, w, hv, r.1 yn e0]
    · rw [if_neg w, if_neg w, hj s w]; exact r.2.2 ys yk z z2 s hs
end CM
def tlN (r N : Int32) : Int32 := if 0 ≤ r.toInt then r else N
theorem tlN_of {P : Int32 → Prop} {r N : Int32} (h : (0 ≤ r.toInt → P r) ∧ (r.toInt < 0 → P N)) : P (tlN r N) := by
  unfold tlN
  by_cases q : 0 ≤ r.toInt
  · rw [if_pos q]; exact h.1 q
  · rw [if_neg q]; exact h.2 (by omega)
theorem cxR_dn {L : List Nat} {K G : Nat → Nat} {Q : Nat → Nat → Option Nat} {I I1 : Nat → Nat → Int32} {x : Nat} {N : Int32} {S : Nat → Option Int32} (hQ : Sv L K G Q) (hL : x ∈ L) (hK : K x = 6) (h : cxR Q I x N S) (d : ∀ b, K b = 1 ∨ K b = 6 → I1 b = I b) : cxR Q I1 x N S := cxR_fr hQ hL hK (fun b hb => by rw [d b (Or.inl hb)]) (by rw [d x (Or.inr hK)]) (by rw [d x (Or.inr hK)]) h
theorem cmR_dn {L : List Nat} {K G : Nat → Nat} {Q : Nat → Nat → Option Nat} {I I1 : Nat → Nat → Int32} {m : Nat} {N : Int32} {S : Nat → Option Int32} (hQ : Sv L K G Q) (hL : m ∈ L) (hK : K m = 7) (h : cmR Q I m N S) (d : ∀ b, K b = 7 ∨ K b = 18 ∨ K b = 19 ∨ K b = 20 ∨ K b = 24 → I1 b = I b) : cmR Q I1 m N S := cmT_fr hQ hL hK cmT_refl (fun b hb => by rw [d b (by omega)]) (fun b hb => d b (by omega)) (by rw [d m (by omega)]) N S h
theorem cmR_al {L0 L : List Nat} {K0 K G0 G : Nat → Nat} {Q0 Q : Nat → Nat → Option Nat} {I I1 : Nat → Nat → Int32} {m : Nat} {N : Int32} {S : Nat → Option Int32} (hQ : Sv L0 K0 G0 Q0) (hL : m ∈ L0) (hK : K0 m = 7) (hE : extW L0 K0 G0 Q0 L K G Q) (h : cmR Q0 I m N S) (d : ∀ b, b ∈ L0 → (K0 b = 7 ∨ K0 b = 18 ∨ K0 b = 19 ∨ K0 b = 20 ∨ K0 b = 24) → I1 b = I b) : cmR Q I1 m N S := by
  obtain ⟨y0, f0, l0, k0⟩ := oQ_7_0 (Sv_at hQ hL hK)
  obtain ⟨y1, f1, l1, k1⟩ := oQ_7_3 (Sv_at hQ hL hK)
  obtain ⟨y2, f2, l2, k2⟩ := oQ_7_4 (Sv_at hQ hL hK)
  obtain ⟨y3, f3, l3, k3⟩ := oQ_7_10 (Sv_at hQ hL hK)
  have eq : Q m = Q0 m := (hE m hL).2.2.2 (by rw [hK]; decide) (by rw [hK]; decide)
  refine ⟨fun yn e => ?_, fun yp e j hj => ?_, fun ys yk e e2 s hs => ?_⟩
  · rw [eq] at e
    obtain rfl : yn = y0 := Option.some.inj (e.symm.trans f0)
    rw [d yn l0 (by omega)]; exact h.1 yn e
  · rw [eq] at e
    obtain rfl : yp = y1 := Option.some.inj (e.symm.trans f1)
    rw [d m hL (by omega)] at hj
    rw [d yp l1 (by omega)]; exact h.2.1 yp e j hj
  · rw [eq] at e e2
    obtain rfl : ys = y2 := Option.some.inj (e.symm.trans f2)
    obtain rfl : yk = y3 := Option.some.inj (e2.symm.trans f3)
    rw [d ys l2 (by omega), d yk l3 (by omega)]; exact h.2.2 ys yk e e2 s hs
