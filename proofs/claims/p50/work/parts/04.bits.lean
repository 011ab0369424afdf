/-! Long.bitCount: 64 at most, byte by byte -/
theorem bq_land (a b c d : Nat) (hb : b < 256) (hd : d < 256) : (256 * a + b) &&& (256 * c + d) = 256 * (a &&& c) + (b &&& d) := by
  have hbd : (b &&& d) < 2 ^ 8 := Nat.and_lt_two_pow b hd
  apply Nat.eq_of_testBit_eq
  intro i
  rw [Nat.testBit_and, show (256 : Nat) = 2 ^ 8 from rfl, Nat.testBit_two_pow_mul_add a hb, Nat.testBit_two_pow_mul_add c hd, Nat.testBit_two_pow_mul_add (a &&& c) hbd]
  split
  · rw [Nat.testBit_and]
  · rw [Nat.testBit_and]
def bq_m : Nat → Nat → Nat
  | _, 0 => 0
  | c, k + 1 => 256 * bq_m c k + c
def bq_1 (k n : Nat) : Nat := n - (n / 2 &&& bq_m 85 k)
def bq_2 (k n : Nat) : Nat := (n &&& bq_m 51 k) + (n / 4 &&& bq_m 51 k)
def bq_3 (k n : Nat) : Nat := (n + n / 16) &&& bq_m 15 k
theorem bq_d1 : ∀ b : Fin 2, ∀ c : Fin 128, (128 * b.1 + c.1) &&& 85 = c.1 &&& 85 := by decide +kernel
theorem bq_d2 : ∀ b : Fin 4, ∀ c : Fin 64, (64 * b.1 + c.1) &&& 51 = c.1 &&& 51 := by decide +kernel
def bq_r (r : Nat) : Nat := ((r - (r / 2 &&& 85)) &&& 51) + ((r - (r / 2 &&& 85)) / 4 &&& 51)
theorem bq_d3 : ∀ r : Fin 256, bq_r r.1 ≤ 68 ∧ bq_r r.1 % 16 ≤ 4 ∧ (bq_r r.1 + bq_r r.1 / 16) % 16 ≤ 8 := by decide +kernel
theorem bq_d4 : ∀ n : Fin 256, n.1 &&& 15 = n.1 % 16 := by decide +kernel
theorem bq_s1 (k q r : Nat) (hr : r < 256) : bq_1 (k + 1) (256 * q + r) = 256 * bq_1 k q + (r - (r / 2 &&& 85)) := by
  unfold bq_1
  rw [show bq_m 85 (k + 1) = 256 * bq_m 85 k + 85 from rfl, show (256 * q + r) / 2 = 256 * (q / 2) + (128 * (q % 2) + r / 2) by omega, bq_land _ _ _ _ (by omega) (by omega), bq_d1 ⟨q % 2, by omega⟩ ⟨r / 2, by omega⟩]
  have h1 : (q / 2 &&& bq_m 85 k) ≤ q / 2 := Nat.and_le_left
  have h2 : (r / 2 &&& 85) ≤ r / 2 := Nat.and_le_left
  show 256 * q + r - (256 * (q / 2 &&& bq_m 85 k) + (r / 2 &&& 85)) = _
  omega
theorem bq_s2 (k q r : Nat) (hr : r < 256) : bq_2 (k + 1) (256 * q + r) = 256 * bq_2 k q + ((r &&& 51) + (r / 4 &&& 51)) := by
  unfold bq_2
  rw [show bq_m 51 (k + 1) = 256 * bq_m 51 k + 51 from rfl, show (256 * q + r) / 4 = 256 * (q / 4) + (64 * (q % 4) + r / 4) by omega, bq_land _ _ _ _ (by omega) (by omega), bq_land _ _ _ _ (by omega) (by omega), bq_d2 ⟨q % 4, by omega⟩ ⟨r / 4, by omega⟩]
  show 256 * (q &&& bq_m 51 k) + (r &&& 51) + (256 * (q / 4 &&& bq_m 51 k) + (r / 4 &&& 51)) = _
  omega
theorem bq_s3 (k q r : Nat) (hr : r ≤ 68) (hq : q % 16 ≤ 4) : bq_3 (k + 1) (256 * q + r) = 256 * bq_3 k q + (r + r / 16) % 16 := by
  unfold bq_3
  rw [show bq_m 15 (k + 1) = 256 * bq_m 15 k + 15 from rfl, show 256 * q + r + (256 * q + r) / 16 = 256 * (q + q / 16) + (r + 16 * (q % 16) + r / 16) by omega, bq_land _ _ _ _ (by omega) (by omega), bq_d4 ⟨r + 16 * (q % 16) + r / 16, by omega⟩]
  show 256 * ((q + q / 16) &&& bq_m 15 k) + (r + 16 * (q % 16) + r / 16) % 16 = _
  omega
def bq_by : Nat → Nat → Prop
  | 0, x => x = 0
  | k + 1, x => ∃ q r, x = 256 * q + r ∧ r ≤ 8 ∧ bq_by k q
theorem bq_all : ∀ (k n : Nat), n < 256 ^ k → bq_2 k (bq_1 k n) % 16 ≤ 4 ∧ bq_by k (bq_3 k (bq_2 k (bq_1 k n))) := by
  intro k
  induction k with
  | zero =>
    intro n hn
    have : n = 0 := by simp at hn; exact hn
    subst this
    exact ⟨by decide, show bq_3 0 (bq_2 0 (bq_1 0 0)) = 0 by decide⟩
  | succ k ih =>
    intro n hn
    have hn2 : n / 256 < 256 ^ k := by rw [Nat.pow_succ] at hn; omega
    have h := ih (n / 256) hn2
    have e : n = 256 * (n / 256) + n % 256 := by omega
    have hr : n % 256 < 256 := Nat.mod_lt _ (by decide)
    have g := bq_d3 ⟨n % 256, hr⟩
    have g' : bq_r (n % 256) ≤ 68 ∧ bq_r (n % 256) % 16 ≤ 4 ∧ (bq_r (n % 256) + bq_r (n % 256) / 16) % 16 ≤ 8 := g
    have e2 : bq_2 (k + 1) (bq_1 (k + 1) n) = 256 * bq_2 k (bq_1 k (n / 256)) + bq_r (n % 256) := by
      rw [e, bq_s1 _ _ _ hr, bq_s2 _ _ _ (by omega)]
      rw [show (256 * (n / 256) + n % 256) / 256 = n / 256 by omega, show (256 * (n / 256) + n % 256) % 256 = n % 256 by omega]
      rfl
    rw [e2]
    refine ⟨by omega, ?_⟩
    rw [bq_s3 _ _ _ g'.1 h.1]
    exact ⟨_, _, rfl, g'.2.2, h.2⟩
theorem bq_bys {k x : Nat} (h : bq_by (k + 1) x) : x % 256 ≤ 8 ∧ bq_by k (x / 256) := by
  obtain ⟨q, r, e, h1, h2⟩ := h
  rw [e, show (256 * q + r) / 256 = q by omega]
  exact ⟨by omega, h2⟩
theorem bq_sum {x t1 t2 : Nat} (h : bq_by 8 x) (e1 : t1 = x + x / 256) (e2 : t2 = t1 + t1 / 65536) : x < 1152921504606846976 ∧ (t2 + t2 / 4294967296) % 128 ≤ 64 := by
  have a0 := bq_bys h
  have a1 := bq_bys a0.2
  have a2 := bq_bys a1.2
  have a3 := bq_bys a2.2
  have a4 := bq_bys a3.2
  have a5 := bq_bys a4.2
  have a6 := bq_bys a5.2
  have a7 := bq_bys a6.2
  have h8 : x / 256 / 256 / 256 / 256 / 256 / 256 / 256 / 256 = 0 := a7.2
  obtain ⟨q1, f1⟩ : ∃ q, q = x / 256 := ⟨_, rfl⟩
  rw [← f1] at a1 a2 a3 a4 a5 a6 a7 h8 e1
  obtain ⟨q2, f2⟩ : ∃ q, q = q1 / 256 := ⟨_, rfl⟩
  rw [← f2] at a2 a3 a4 a5 a6 a7 h8
  obtain ⟨q3, f3⟩ : ∃ q, q = q2 / 256 := ⟨_, rfl⟩
  rw [← f3] at a3 a4 a5 a6 a7 h8
  obtain ⟨q4, f4⟩ : ∃ q, q = q3 / 256 := ⟨_, rfl⟩
  rw [← f4] at a4 a5 a6 a7 h8
  obtain ⟨q5, f5⟩ : ∃ q, q = q4 / 256 := ⟨_, rfl⟩
  rw [← f5] at a5 a6 a7 h8
  obtain ⟨q6, f6⟩ : ∃ q, q = q5 / 256 := ⟨_, rfl⟩
  rw [← f6] at a6 a7 h8
  obtain ⟨q7, f7⟩ : ∃ q, q = q6 / 256 := ⟨_, rfl⟩
  rw [← f7] at a7 h8
  have b0 := a0.1; have bq_1 := a1.1; have bq_2 := a2.1; have bq_3 := a3.1; have b4 := a4.1; have b5 := a5.1; have b6 := a6.1; have b7 := a7.1
  clear a0 a1 a2 a3 a4 a5 a6 a7 h
  have g7 : q7 ≤ 8 := by omega
  have g6 : q6 ≤ 2056 := by omega
  have g5 : q5 ≤ 526344 := by omega
  have g4 : q4 ≤ 134744072 := by omega
  have g3 : q3 ≤ 34494482440 := by omega
  have g2 : q2 ≤ 8830587504648 := by omega
  have g1 : q1 ≤ 2260630401189896 := by omega
  refine ⟨by omega, ?_⟩
  have w1 : t1 / 65536 = q2 + q3 := by omega
  have w2 : t2 = x + q1 + q2 + q3 := by omega
  have w3 : t2 / 4294967296 = q4 + q5 + q6 + q7 := by omega
  have w4 : x + q1 + q2 + q3 + (q4 + q5 + q6 + q7) = 256 * (q1 + q2 + q3 + q4 + q5 + q6 + q7) + (x % 256 + q1 % 256 + q2 % 256 + q3 % 256 + q4 % 256 + q5 % 256 + q6 % 256 + q7) := by omega
  have w5 : x % 256 + q1 % 256 + q2 % 256 + q3 % 256 + q4 % 256 + q5 % 256 + q6 % 256 + q7 ≤ 64 := by omega
  rw [w3, w2, w4]
  generalize x % 256 + q1 % 256 + q2 % 256 + q3 % 256 + q4 % 256 + q5 % 256 + q6 % 256 + q7 = σ at w5
  generalize q1 + q2 + q3 + q4 + q5 + q6 + q7 = Qs
  omega
theorem bq_sh {x : Int64} {z : Int64} {c : Int32} (k : Nat) (e : z = (x.toUInt64 >>> (c.toInt64.toUInt64 &&& Int64.toUInt64 63)).toInt64) (hk : ((c.toInt64.toUInt64 &&& Int64.toUInt64 63).toBitVec % 64).toNat = k) : z.toBitVec.toNat = x.toBitVec.toNat / 2 ^ k := by
  rw [e]
  show (x.toUInt64 >>> (c.toInt64.toUInt64 &&& Int64.toUInt64 63)).toBitVec.toNat = _
  rw [UInt64.toBitVec_shiftRight]
  show (x.toBitVec >>> ((c.toInt64.toUInt64 &&& Int64.toUInt64 63).toBitVec % 64)).toNat = _
  rw [BitVec.ushiftRight_eq', BitVec.toNat_ushiftRight, hk, Nat.shiftRight_eq_div_pow]
theorem bq_and {x y z : Int64} (e : z = x &&& y) : z.toBitVec.toNat = x.toBitVec.toNat &&& y.toBitVec.toNat := by
  rw [e, Int64.toBitVec_and, BitVec.toNat_and]
theorem bq_sub {x y z : Int64} (e : z = x - y) (h : y.toBitVec.toNat ≤ x.toBitVec.toNat) : z.toBitVec.toNat = x.toBitVec.toNat - y.toBitVec.toNat := by
  rw [e, Int64.toBitVec_sub, BitVec.toNat_sub_of_le (by exact h)]
theorem bq_add {x y z : Int64} (e : z = x + y) (h : x.toBitVec.toNat + y.toBitVec.toNat < 18446744073709551616) : z.toBitVec.toNat = x.toBitVec.toNat + y.toBitVec.toNat := by
  rw [e, Int64.toBitVec_add, BitVec.toNat_add, Nat.mod_eq_of_lt h]
theorem bc64 {p0 z3 z7 z8 z14 z17 z21 z22 z27 z28 z32 z38 z39 z45 z46 z52 z53 : Int64} {z56 z59 : Int32} (ez3 : z3 = (p0.toUInt64 >>> ((1 : Int32).toInt64.toUInt64 &&& Int64.toUInt64 63)).toInt64) (ez7 : z7 = z3 &&& 6148914691236517205) (ez8 : z8 = p0 - z7) (ez14 : z14 = z8 &&& 3689348814741910323) (ez17 : z17 = (z8.toUInt64 >>> ((2 : Int32).toInt64.toUInt64 &&& Int64.toUInt64 63)).toInt64) (ez21 : z21 = z17 &&& 3689348814741910323) (ez22 : z22 = z14 + z21) (ez27 : z27 = (z22.toUInt64 >>> ((4 : Int32).toInt64.toUInt64 &&& Int64.toUInt64 63)).toInt64) (ez28 : z28 = z22 + z27) (ez32 : z32 = z28 &&& 1085102592571150095) (ez38 : z38 = (z32.toUInt64 >>> ((8 : Int32).toInt64.toUInt64 &&& Int64.toUInt64 63)).toInt64) (ez39 : z39 = z32 + z38) (ez45 : z45 = (z39.toUInt64 >>> ((16 : Int32).toInt64.toUInt64 &&& Int64.toUInt64 63)).toInt64) (ez46 : z46 = z39 + z45) (ez52 : z52 = (z46.toUInt64 >>> ((32 : Int32).toInt64.toUInt64 &&& Int64.toUInt64 63)).toInt64) (ez53 : z53 = z46 + z52) (ez56 : z56 = z53.toInt32) (ez59 : z59 = z56 &&& 127) : 0 ≤ z59.toInt ∧ z59.toInt ≤ 64 := by
  have hn : p0.toBitVec.toNat < 256 ^ 8 := p0.toBitVec.isLt
  have n3 := bq_sh 1 ez3 (by decide +kernel)
  have n7 := bq_and ez7
  rw [n3, show (6148914691236517205 : Int64).toBitVec.toNat = bq_m 85 8 from by decide +kernel] at n7
  have l7 : (p0.toBitVec.toNat / 2 ^ 1 &&& bq_m 85 8) ≤ p0.toBitVec.toNat / 2 ^ 1 := Nat.and_le_left
  have n8 := bq_sub ez8 (by rw [n7]; omega)
  rw [n7] at n8
  have e8 : z8.toBitVec.toNat = bq_1 8 p0.toBitVec.toNat := n8
  have n14 := bq_and ez14
  have n17 := bq_sh 2 ez17 (by decide +kernel)
  have n21 := bq_and ez21
  rw [n17, show (3689348814741910323 : Int64).toBitVec.toNat = bq_m 51 8 from by decide +kernel] at n21
  rw [show (3689348814741910323 : Int64).toBitVec.toNat = bq_m 51 8 from by decide +kernel] at n14
  have l14 : (z8.toBitVec.toNat &&& bq_m 51 8) ≤ bq_m 51 8 := Nat.and_le_right
  have l21 : (z8.toBitVec.toNat / 2 ^ 2 &&& bq_m 51 8) ≤ bq_m 51 8 := Nat.and_le_right
  have v51 : bq_m 51 8 = 3689348814741910323 := by decide +kernel
  have n22 := bq_add ez22 (by rw [n14, n21]; omega)
  have e22 : z22.toBitVec.toNat = bq_2 8 (bq_1 8 p0.toBitVec.toNat) := by rw [n22, n14, n21, e8]; rfl
  have l22 : z22.toBitVec.toNat ≤ 7378697629483820646 := by rw [n22, n14, n21]; omega
  have n27 := bq_sh 4 ez27 (by decide +kernel)
  have n28 := bq_add ez28 (by rw [n27]; omega)
  have n32 := bq_and ez32
  rw [n28, n27, show (1085102592571150095 : Int64).toBitVec.toNat = bq_m 15 8 from by decide +kernel] at n32
  have e32 : z32.toBitVec.toNat = bq_3 8 (bq_2 8 (bq_1 8 p0.toBitVec.toNat)) := by rw [n32, ← e22]; rfl
  have hB := (bq_all 8 _ hn).2
  rw [← e32] at hB
  have n38 := bq_sh 8 ez38 (by decide +kernel)
  have hx := (bq_sum hB rfl rfl).1
  have n39 := bq_add ez39 (by rw [n38]; omega)
  have n45 := bq_sh 16 ez45 (by decide +kernel)
  have n46 := bq_add ez46 (by rw [n45, n39, n38]; omega)
  have n52 := bq_sh 32 ez52 (by decide +kernel)
  have n53 := bq_add ez53 (by rw [n52, n46, n45, n39, n38]; omega)
  have key := (bq_sum (t1 := z39.toBitVec.toNat) (t2 := z46.toBitVec.toNat) hB (by rw [n39, n38]) (by rw [n46, n45])).2
  have e53 : z53.toBitVec.toNat % 128 ≤ 64 := by rw [n53, n52]; exact key
  have n59 : z59.toBitVec.toNat = z53.toBitVec.toNat % 128 := by
    rw [ez59, Int32.toBitVec_and, BitVec.toNat_and, ez56, show (127 : Int32).toBitVec.toNat = 2 ^ 7 - 1 from by decide +kernel, Nat.and_two_pow_sub_one_eq_mod]
    show (z53.toBitVec.signExtend 32).toNat % 2 ^ 7 = _
    rw [BitVec.signExtend_eq_setWidth_of_le _ (by decide), BitVec.toNat_setWidth]
    omega
  have : z59.toInt = (z59.toBitVec.toNat : Int) := by
    show z59.toBitVec.toInt = _
    rw [BitVec.toInt_eq_toNat_of_lt (by omega)]
  omega
