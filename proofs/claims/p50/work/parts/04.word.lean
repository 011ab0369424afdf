/-! Words: a long's bits -/
def b64 (x : Int64) (i : Nat) : Bool := x.toBitVec.getLsbD i
theorem b64_ge {x : Int64} {i : Nat} (h : 64 ≤ i) : b64 x i = false := BitVec.getLsbD_of_ge _ _ h
theorem b64_and {x y z : Int64} (e : z = x &&& y) (i : Nat) : b64 z i = (b64 x i && b64 y i) := by
  unfold b64; rw [e, Int64.toBitVec_and, BitVec.getLsbD_and]
theorem b64_or {x y z : Int64} (e : z = x ||| y) (i : Nat) : b64 z i = (b64 x i || b64 y i) := by
  unfold b64; rw [e, Int64.toBitVec_or, BitVec.getLsbD_or]
theorem b64_xor {x y z : Int64} (e : z = x ^^^ y) (i : Nat) : b64 z i = (b64 x i ^^ b64 y i) := by
  unfold b64; rw [e, Int64.toBitVec_xor, BitVec.getLsbD_xor]
theorem b64_ext {x y : Int64} (h : ∀ i, i < 64 → b64 x i = b64 y i) : x = y := by
  apply Int64.toBitVec_inj.mp
  apply BitVec.eq_of_getLsbD_eq
  intro i hi
  exact h i hi
theorem sh_amt {c : Int32} {k : Nat} (h : c.toInt = (k : Int)) (hk : k < 64) : (c.toInt64 &&& 63).toBitVec.toNat = k := by
  have e : c = Int32.ofInt (k : Int) := by rw [← h, Int32.ofInt_toInt]
  have key : ∀ k : Fin 64, ((Int32.ofInt (k.1 : Int)).toInt64 &&& 63).toBitVec.toNat = k.1 := by decide +kernel
  rw [e]; exact key ⟨k, hk⟩
theorem sh_amtU {c : Int32} {k : Nat} (h : c.toInt = (k : Int)) (hk : k < 64) : ((c.toInt64.toUInt64 &&& Int64.toUInt64 63).toBitVec % 64).toNat = k := by
  have e : c = Int32.ofInt (k : Int) := by rw [← h, Int32.ofInt_toInt]
  have key : ∀ k : Fin 64, (((Int32.ofInt (k.1 : Int)).toInt64.toUInt64 &&& Int64.toUInt64 63).toBitVec % 64).toNat = k.1 := by decide +kernel
  rw [e]; exact key ⟨k, hk⟩
theorem b64_shr {x z : Int64} {c : Int32} {k : Nat} (e : z = (x.toUInt64 >>> (c.toInt64.toUInt64 &&& Int64.toUInt64 63)).toInt64) (h : c.toInt = (k : Int)) (hk : k < 64) (i : Nat) : b64 z i = b64 x (i + k) := by
  unfold b64
  rw [e]
  show (x.toUInt64 >>> (c.toInt64.toUInt64 &&& Int64.toUInt64 63)).toBitVec.getLsbD i = _
  rw [UInt64.toBitVec_shiftRight]
  show (x.toBitVec >>> ((c.toInt64.toUInt64 &&& Int64.toUInt64 63).toBitVec % 64)).getLsbD i = _
  rw [BitVec.ushiftRight_eq', BitVec.getLsbD_ushiftRight, sh_amtU h hk, Nat.add_comm]
theorem smod63 {c : Int32} {k : Nat} (h : c.toInt = (k : Int)) (hk : k < 64) : ((c.toInt64 &&& 63).toBitVec.smod 64).toNat = k := by
  have e : c = Int32.ofInt (k : Int) := by rw [← h, Int32.ofInt_toInt]
  have key : ∀ k : Fin 64, (((Int32.ofInt (k.1 : Int)).toInt64 &&& 63).toBitVec.smod 64).toNat = k.1 := by decide +kernel
  rw [e]; exact key ⟨k, hk⟩
theorem b64_shl {x z : Int64} {c : Int32} {k : Nat} (e : z = x <<< (c.toInt64 &&& 63)) (h : c.toInt = (k : Int)) (hk : k < 64) (i : Nat) : b64 z i = (decide (i < 64) && !decide (i < k) && b64 x (i - k)) := by
  unfold b64
  rw [e, Int64.toBitVec_shiftLeft, BitVec.shiftLeft_eq', BitVec.getLsbD_shiftLeft, smod63 h hk]
/-- a row's dots: 64 of the first word, 64 of the second -/
def dt (a b : Int64) (x : Int) : Bool := if x < 0 then false else if x < 64 then b64 a x.toNat else b64 b (x.toNat - 64)
theorem dt_hi {a b : Int64} {x : Int} (h : 128 ≤ x) : dt a b x = false := by
  unfold dt; rw [if_neg (by omega), if_neg (by omega)]; exact b64_ge (by omega)
theorem dt_lo {a b : Int64} {x : Int} (h : x < 0) : dt a b x = false := if_pos h
theorem dt_a {a b : Int64} {x : Int} (h : 0 ≤ x) (h2 : x < 64) : dt a b x = b64 a x.toNat := by
  unfold dt; rw [if_neg (by omega), if_pos h2]
theorem dt_b {a b : Int64} {x : Int} (h : 64 ≤ x) : dt a b x = b64 b (x.toNat - 64) := by
  unfold dt; rw [if_neg (by omega), if_neg (by omega)]
theorem b64_0 (i : Nat) : b64 0 i = false := by
  unfold b64; simp
theorem b64_m1 {i : Nat} (h : i < 64) : b64 (-1) i = true := by
  have key : ∀ k : Fin 64, b64 (-1) k.1 = true := by decide +kernel
  exact key ⟨i, h⟩
theorem b64_ones {z1 z2 : Int64} {c : Int32} {k : Nat} (e1 : z1 = (1 : Int64) <<< (c.toInt64 &&& 63)) (e2 : z2 = z1 - 1) (h : c.toInt = (k : Int)) (hk : k < 64) {i : Nat} (hi : i < 64) : b64 z2 i = decide (i < k) := by
  have e : c = Int32.ofInt (k : Int) := by rw [← h, Int32.ofInt_toInt]
  have key : ∀ k i : Fin 64, b64 (((1 : Int64) <<< ((Int32.ofInt (k.1 : Int)).toInt64 &&& 63)) - 1) i.1 = decide (i.1 < k.1) := by decide +kernel
  rw [e2, e1, e]; exact key ⟨k, hk⟩ ⟨i, hi⟩
theorem mh_a {low high z10 z13 z19 z20 : Int64} {c z18 : Int32} (e10 : z10 = high <<< (c.toInt64 &&& 63)) (e13 : z13 = (low.toUInt64 >>> ((1 : Int32).toInt64.toUInt64 &&& Int64.toUInt64 63)).toInt64) (b18 : z18.toInt = 63 - c.toInt) (e19 : z19 = (z13.toUInt64 >>> (z18.toInt64.toUInt64 &&& Int64.toUInt64 63)).toInt64) (e20 : z20 = z10 ||| z19) (h : 0 ≤ c.toInt) (h2 : c.toInt < 64) : ∀ i : Nat, i < 64 → b64 z20 i = dt low high ((i : Int) + 64 - c.toInt) := fun i hi => by
  obtain ⟨k, hk⟩ : ∃ k : Nat, c.toInt = (k : Int) := ⟨c.toInt.toNat, by omega⟩
  rw [b64_or e20, b64_shl e10 hk (by omega), b64_shr e19 (k := 63 - k) (by omega) (by omega), b64_shr e13 (k := 1) (by decide +kernel) (by omega)]
  rcases Nat.lt_or_ge i k with q | q
  · rw [dt_a (by omega) (by omega)]
    simp only [hi, q, decide_true, Bool.not_true, Bool.and_false, Bool.false_and, Bool.false_or]
    congr 1; omega
  · rw [dt_b (by omega)]
    rw [b64_ge (x := low) (by omega)]
    simp only [hi, decide_true, Bool.or_false, Bool.true_and, show ¬ i < k by omega, decide_false, Bool.not_false]
    congr 1; omega
theorem mh_b {low high z30 : Int64} {c z29 : Int32} (b29 : z29.toInt = c.toInt - 64) (e30 : z30 = low <<< (z29.toInt64 &&& 63)) (h : 64 ≤ c.toInt) (h2 : c.toInt < 128) : ∀ i : Nat, i < 64 → b64 z30 i = dt low high ((i : Int) + 64 - c.toInt) := fun i hi => by
  obtain ⟨k, hk⟩ : ∃ k : Nat, z29.toInt = (k : Int) := ⟨z29.toInt.toNat, by omega⟩
  rw [b64_shl e30 hk (by omega)]
  rcases Nat.lt_or_ge i k with q | q
  · rw [dt_lo (by omega)]
    simp [q]
  · rw [dt_a (by omega) (by omega)]
    simp only [hi, decide_true, Bool.true_and, show ¬ i < k by omega, decide_false, Bool.not_false]
    congr 1; omega
theorem sl_0 {low high : Int64} {by_ : Int} (h : 64 ≤ by_ ∨ by_ ≤ -128) : ∀ i : Nat, i < 64 → b64 0 i = dt low high ((i : Int) - by_) := fun i hi => by
  rw [b64_0]
  rcases h with q | q
  · rw [dt_lo (by omega)]
  · rw [dt_hi (by omega)]
theorem sl_a {low high z : Int64} {c : Int32} (e : z = low <<< (c.toInt64 &&& 63)) (h : 0 ≤ c.toInt) (h2 : c.toInt < 64) : ∀ i : Nat, i < 64 → b64 z i = dt low high ((i : Int) - c.toInt) := fun i hi => by
  obtain ⟨k, hk⟩ : ∃ k : Nat, c.toInt = (k : Int) := ⟨c.toInt.toNat, by omega⟩
  rw [b64_shl e hk (by omega)]
  rcases Nat.lt_or_ge i k with q | q
  · rw [dt_lo (by omega)]; simp [q]
  · rw [dt_a (by omega) (by omega)]
    simp only [hi, decide_true, Bool.true_and, show ¬ i < k by omega, decide_false, Bool.not_false]
    congr 1; omega
theorem sl_b {low high z37 z44 z45 : Int64} {c z36 z43 : Int32} (b36 : z36.toInt = -c.toInt) (e37 : z37 = (low.toUInt64 >>> (z36.toInt64.toUInt64 &&& Int64.toUInt64 63)).toInt64) (b43 : z43.toInt = 64 + c.toInt) (e44 : z44 = high <<< (z43.toInt64 &&& 63)) (e45 : z45 = z37 ||| z44) (h : -64 < c.toInt) (h2 : c.toInt < 0) : ∀ i : Nat, i < 64 → b64 z45 i = dt low high ((i : Int) - c.toInt) := fun i hi => by
  obtain ⟨k, hk⟩ : ∃ k : Nat, z36.toInt = (k : Int) := ⟨z36.toInt.toNat, by omega⟩
  rw [b64_or e45, b64_shr e37 hk (by omega), b64_shl e44 (k := 64 - k) (by omega) (by omega)]
  rcases Nat.lt_or_ge (i + k) 64 with q | q
  · rw [dt_a (by omega) (by omega)]
    simp only [show i < 64 - k by omega, decide_true, Bool.not_true, Bool.and_false, Bool.false_and, Bool.or_false]
    congr 1; omega
  · rw [dt_b (by omega), b64_ge (x := low) q]
    simp only [hi, decide_true, Bool.false_or, Bool.true_and, show ¬ i < 64 - k by omega, decide_false, Bool.not_false]
    congr 1; omega
theorem sl_c {low high z56 : Int64} {c z55 : Int32} (b55 : z55.toInt = -c.toInt - 64) (e56 : z56 = (high.toUInt64 >>> (z55.toInt64.toUInt64 &&& Int64.toUInt64 63)).toInt64) (h : -128 < c.toInt) (h2 : c.toInt ≤ -64) : ∀ i : Nat, i < 64 → b64 z56 i = dt low high ((i : Int) - c.toInt) := fun i hi => by
  obtain ⟨k, hk⟩ : ∃ k : Nat, z55.toInt = (k : Int) := ⟨z55.toInt.toNat, by omega⟩
  rw [b64_shr e56 hk (by omega), dt_b (by omega)]
  congr 1; omega
theorem sh_0 {low high : Int64} {by_ : Int} (h : 128 ≤ by_ ∨ by_ ≤ -64) : ∀ i : Nat, i < 64 → b64 0 i = dt low high ((i : Int) + 64 - by_) := fun i hi => by
  rw [b64_0]
  rcases h with q | q
  · rw [dt_lo (by omega)]
  · rw [dt_hi (by omega)]
theorem sh_c {low high z36 : Int64} {c z35 : Int32} (b35 : z35.toInt = -c.toInt) (e36 : z36 = (high.toUInt64 >>> (z35.toInt64.toUInt64 &&& Int64.toUInt64 63)).toInt64) (h : -64 < c.toInt) (h2 : c.toInt < 0) : ∀ i : Nat, i < 64 → b64 z36 i = dt low high ((i : Int) + 64 - c.toInt) := fun i hi => by
  obtain ⟨k, hk⟩ : ∃ k : Nat, z35.toInt = (k : Int) := ⟨z35.toInt.toNat, by omega⟩
  rw [b64_shr e36 hk (by omega), dt_b (by omega)]
  congr 1; omega
/-! The lowest and the highest bit of a row -/
theorem nbit_pred (t : Nat) : ∀ k, t ≤ k → nbit (2 ^ t - 1) k = t := by
  have h1 : ∀ k, k ≤ t → nbit (2 ^ t - 1) k = k := by
    intro k
    induction k with
    | zero => intro _; rfl
    | succ k ih =>
      intro h
      show nbit (2 ^ t - 1) k + _ = k + 1
      rw [ih (by omega), Nat.testBit_two_pow_sub_one]
      simp [show k < t by omega]
  intro k hk
  obtain ⟨d, rfl⟩ := Nat.exists_eq_add_of_le hk
  induction d with
  | zero => exact h1 t (Nat.le_refl _)
  | succ d ih =>
    show nbit (2 ^ t - 1) (t + d) + (if (2 ^ t - 1).testBit (t + d) then 1 else 0) = t
    rw [ih (by omega), Nat.testBit_two_pow_sub_one]
    simp
/-- t is the lowest bit of x -/
def lowB (x : Int64) (t : Nat) : Prop := t < 64 ∧ b64 x t = true ∧ ∀ j, j < t → b64 x j = false
theorem low_ex {x : Int64} (h : ¬ x = 0) : ∃ t, lowB x t := by
  have e : ∃ t, t < 64 ∧ b64 x t = true := by
    apply Classical.byContradiction
    intro q
    apply h
    apply b64_ext
    intro i hi
    rw [b64_0]
    cases w : b64 x i with
    | false => rfl
    | true => exact absurd ⟨i, hi, w⟩ q
  obtain ⟨t, ht⟩ := e
  have key : ∀ n t, t ≤ n → t < 64 ∧ b64 x t = true → ∃ t, lowB x t := by
    intro n
    induction n with
    | zero =>
      intro t h0 h1
      obtain rfl : t = 0 := by omega
      exact ⟨0, h1.1, h1.2, fun j hj => absurd hj (by omega)⟩
    | succ n ih =>
      intro t h0 h1
      by_cases q : ∃ j, j < t ∧ b64 x j = true
      · obtain ⟨j, a, b⟩ := q
        exact ih j (by omega) ⟨by omega, b⟩
      · exact ⟨t, h1.1, h1.2, fun j hj => by
          cases w : b64 x j with
          | false => rfl
          | true => exact absurd ⟨j, hj, w⟩ q⟩
  exact key t t (Nat.le_refl _) ht
theorem low_cnt {x z1 z2 z3 : Int64} {t : Nat} (h : lowB x t) (e1 : z1 = -x) (e2 : z2 = x &&& z1) (e3 : z3 = z2 - 1) : nbit z3.toBitVec.toNat 64 = t := by
  have h2 : z2.toBitVec = BitVec.twoPow 64 t := by
    apply BitVec.eq_of_getLsbD_eq
    intro i hi
    have a : z2.toBitVec.getLsbD i = (b64 x i && b64 z1 i) := b64_and e2 i
    rw [a, BitVec.getLsbD_twoPow]
    have b : b64 z1 i = (b64 x i ^^ (decide (i < 64) && decide (∃ j, j < i ∧ b64 x j = true))) := by
      unfold b64
      rw [e1, Int64.toBitVec_neg, BitVec.getLsbD_neg]
    rw [b]
    rcases Nat.lt_trichotomy i t with q | q | q
    · rw [h.2.2 i q]; simp; omega
    · rw [q, h.2.1]
      have n : ¬ ∃ j, j < t ∧ b64 x j = true := fun ⟨j, u, v⟩ => by rw [h.2.2 j u] at v; cases v
      simp [n, h.1]
    · have y : ∃ j, j < i ∧ b64 x j = true := ⟨t, q, h.2.1⟩
      cases w : b64 x i with
      | false => simp; omega
      | true => simp [y, hi]; omega
  have h3 : z3.toBitVec.toNat = 2 ^ t - 1 := by
    have lt : (2 : Nat) ^ t < 2 ^ 64 := Nat.pow_lt_pow_right (by decide) h.1
    have pos : 0 < (2 : Nat) ^ t := Nat.pow_pos (by decide)
    have n2 : z2.toBitVec.toNat = 2 ^ t := by rw [h2, BitVec.toNat_twoPow, Nat.mod_eq_of_lt lt]
    rw [e3, Int64.toBitVec_sub, BitVec.toNat_sub_of_le (by show (1 : Int64).toBitVec.toNat ≤ _; rw [n2]; exact pos), n2]
    rfl
  rw [h3, nbit_pred t 64 (by have := h.1; omega)]
/-- t is the highest bit of x -/
def highB (x : Int64) (t : Nat) : Prop := t < 64 ∧ b64 x t = true ∧ ∀ j, t < j → b64 x j = false
theorem high_ex {x : Int64} (h : ¬ x = 0) : ∃ t, highB x t := by
  obtain ⟨t0, l0⟩ := low_ex h
  have key : ∀ n t, 64 ≤ t + n → t < 64 ∧ b64 x t = true → ∃ t, highB x t := by
    intro n
    induction n with
    | zero => intro t h0 h1; omega
    | succ n ih =>
      intro t h0 h1
      by_cases q : ∃ j, t < j ∧ b64 x j = true
      · obtain ⟨j, a, b⟩ := q
        have hj : j < 64 := by
          rcases Nat.lt_or_ge j 64 with w | w
          · exact w
          · rw [b64_ge w] at b; cases b
        exact ih j (by omega) ⟨hj, b⟩
      · exact ⟨t, h1.1, h1.2, fun j hj => by
          cases w : b64 x j with
          | false => rfl
          | true => exact absurd ⟨j, hj, w⟩ q⟩
  exact key 64 t0 (by omega) ⟨l0.1, l0.2.1⟩
/-- bit i of z: some bit of x from i on, m of them -/
def smr (x z : Int64) (m : Nat) : Prop := ∀ i, b64 z i = true ↔ ∃ j, i ≤ j ∧ j < i + m ∧ b64 x j = true
theorem smr_1 (x : Int64) : smr x x 1 := fun i => ⟨fun h => ⟨i, Nat.le_refl _, by omega, h⟩, fun ⟨j, a, b, c⟩ => by
  obtain rfl : j = i := by omega
  exact c⟩
theorem smr_2 {x z y u : Int64} {c : Int32} {m : Nat} (h : smr x z m) (e1 : y = (z.toUInt64 >>> (c.toInt64.toUInt64 &&& Int64.toUInt64 63)).toInt64) (hc : c.toInt = (m : Int)) (hm : m < 64) (e2 : u = z ||| y) : smr x u (2 * m) := fun i => by
  rw [b64_or e2, b64_shr e1 hc hm, Bool.or_eq_true, h i, h (i + m)]
  constructor
  · rintro (⟨j, a, b, d⟩ | ⟨j, a, b, d⟩)
    · exact ⟨j, a, by omega, d⟩
    · exact ⟨j, by omega, by omega, d⟩
  · rintro ⟨j, a, b, d⟩
    rcases Nat.lt_or_ge j (i + m) with w | w
    · exact Or.inl ⟨j, a, w, d⟩
    · exact Or.inr ⟨j, w, by omega, d⟩
theorem high_cnt {x z : Int64} {t : Nat} (h : highB x t) (hs : smr x z 64) : nbit z.toBitVec.toNat 64 = t + 1 := by
  have e : ∀ k, nbit z.toBitVec.toNat k = nbit (2 ^ (t + 1) - 1) k := by
    intro k
    induction k with
    | zero => rfl
    | succ k ih =>
      show nbit z.toBitVec.toNat k + (if z.toBitVec.toNat.testBit k then 1 else 0) = nbit (2 ^ (t + 1) - 1) k + (if (2 ^ (t + 1) - 1).testBit k then 1 else 0)
      have a : z.toBitVec.toNat.testBit k = (2 ^ (t + 1) - 1).testBit k := by
        have b : z.toBitVec.toNat.testBit k = b64 z k := rfl
        rw [b, Nat.testBit_two_pow_sub_one]
        apply Bool.eq_iff_iff.mpr
        rw [hs k, decide_eq_true_iff]
        constructor
        · rintro ⟨j, u, v, w⟩
          apply Classical.byContradiction
          intro q
          rw [h.2.2 j (by omega)] at w; cases w
        · intro q
          exact ⟨t, by omega, by have := h.1; omega, h.2.1⟩
      rw [ih, a]
  rw [e, nbit_pred (t + 1) 64 (by have := h.1; omega)]
