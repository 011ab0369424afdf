/-! Long.bitCount is the number of bits -/
def pc8 (r : Nat) : Nat := r % 2 + r / 2 % 2 + r / 4 % 2 + r / 8 % 2 + r / 16 % 2 + r / 32 % 2 + r / 64 % 2 + r / 128 % 2
theorem bq_d5 : ∀ r : Fin 256, (bq_r r.1 + bq_r r.1 / 16) % 16 = pc8 r.1 ∧ pc8 r.1 ≤ 8 := by decide +kernel
/-- the bytes' numbers, packed -/
def bq_pk : Nat → Nat → Nat
  | 0, _ => 0
  | k + 1, n => 256 * bq_pk k (n / 256) + pc8 (n % 256)
/-- their sum -/
def bq_tot : Nat → Nat → Nat
  | 0, _ => 0
  | k + 1, n => pc8 (n % 256) + bq_tot k (n / 256)
theorem bq_ex : ∀ (k n : Nat), n < 256 ^ k → bq_3 k (bq_2 k (bq_1 k n)) = bq_pk k n := by
  intro k
  induction k with
  | zero =>
    intro n hn
    have : n = 0 := by simp at hn; exact hn
    subst this
    decide
  | succ k ih =>
    intro n hn
    have hn2 : n / 256 < 256 ^ k := by rw [Nat.pow_succ] at hn; omega
    have h := ih (n / 256) hn2
    have h4 := (bq_all k (n / 256) hn2).1
    have e : n = 256 * (n / 256) + n % 256 := by omega
    have hr : n % 256 < 256 := Nat.mod_lt _ (by decide)
    have g' : bq_r (n % 256) ≤ 68 ∧ bq_r (n % 256) % 16 ≤ 4 ∧ (bq_r (n % 256) + bq_r (n % 256) / 16) % 16 ≤ 8 := bq_d3 ⟨n % 256, hr⟩
    have g5 : (bq_r (n % 256) + bq_r (n % 256) / 16) % 16 = pc8 (n % 256) ∧ pc8 (n % 256) ≤ 8 := bq_d5 ⟨n % 256, hr⟩
    have e2 : bq_2 (k + 1) (bq_1 (k + 1) n) = 256 * bq_2 k (bq_1 k (n / 256)) + bq_r (n % 256) := by
      rw [e, bq_s1 _ _ _ hr, bq_s2 _ _ _ (by omega)]
      rw [show (256 * (n / 256) + n % 256) / 256 = n / 256 by omega, show (256 * (n / 256) + n % 256) % 256 = n % 256 by omega]
      rfl
    rw [e2, bq_s3 _ _ _ g'.1 h4, h, g5.1]
    rfl
theorem bq_pk8 {n : Nat} : bq_pk 8 n % 256 = pc8 (n % 256) := by
  have := (bq_d5 ⟨n % 256, Nat.mod_lt _ (by decide)⟩).2
  have this : pc8 (n % 256) ≤ 8 := this
  show (256 * bq_pk 7 (n / 256) + pc8 (n % 256)) % 256 = _
  omega
theorem bq_pks (k n : Nat) : bq_pk (k + 1) n % 256 = pc8 (n % 256) ∧ bq_pk (k + 1) n / 256 = bq_pk k (n / 256) ∧ pc8 (n % 256) ≤ 8 := by
  have this : pc8 (n % 256) ≤ 8 := (bq_d5 ⟨n % 256, Nat.mod_lt _ (by decide)⟩).2
  show (256 * bq_pk k (n / 256) + pc8 (n % 256)) % 256 = _ ∧ (256 * bq_pk k (n / 256) + pc8 (n % 256)) / 256 = _ ∧ _
  omega
set_option maxHeartbeats 1000000 in
theorem bq_sumE {n x t1 t2 : Nat} (hx : x = bq_pk 8 n) (e1 : t1 = x + x / 256) (e2 : t2 = t1 + t1 / 65536) : (t2 + t2 / 4294967296) % 128 = bq_tot 8 n := by
  have a0 := bq_pks 7 n
  have a1 := bq_pks 6 (n / 256)
  have a2 := bq_pks 5 (n / 256 / 256)
  have a3 := bq_pks 4 (n / 256 / 256 / 256)
  have a4 := bq_pks 3 (n / 256 / 256 / 256 / 256)
  have a5 := bq_pks 2 (n / 256 / 256 / 256 / 256 / 256)
  have a6 := bq_pks 1 (n / 256 / 256 / 256 / 256 / 256 / 256)
  have a7 := bq_pks 0 (n / 256 / 256 / 256 / 256 / 256 / 256 / 256)
  have h8 : bq_pk 0 (n / 256 / 256 / 256 / 256 / 256 / 256 / 256 / 256) = 0 := rfl
  have tt : bq_tot 8 n = pc8 (n % 256) + (pc8 (n / 256 % 256) + (pc8 (n / 256 / 256 % 256) + (pc8 (n / 256 / 256 / 256 % 256) + (pc8 (n / 256 / 256 / 256 / 256 % 256) + (pc8 (n / 256 / 256 / 256 / 256 / 256 % 256) + (pc8 (n / 256 / 256 / 256 / 256 / 256 / 256 % 256) + (pc8 (n / 256 / 256 / 256 / 256 / 256 / 256 / 256 % 256) + 0))))))) := rfl
  rw [tt]
  rw [← hx] at a0
  obtain ⟨q1, f1⟩ : ∃ q, q = bq_pk 7 (n / 256) := ⟨_, rfl⟩
  obtain ⟨q2, f2⟩ : ∃ q, q = bq_pk 6 (n / 256 / 256) := ⟨_, rfl⟩
  obtain ⟨q3, f3⟩ : ∃ q, q = bq_pk 5 (n / 256 / 256 / 256) := ⟨_, rfl⟩
  obtain ⟨q4, f4⟩ : ∃ q, q = bq_pk 4 (n / 256 / 256 / 256 / 256) := ⟨_, rfl⟩
  obtain ⟨q5, f5⟩ : ∃ q, q = bq_pk 3 (n / 256 / 256 / 256 / 256 / 256) := ⟨_, rfl⟩
  obtain ⟨q6, f6⟩ : ∃ q, q = bq_pk 2 (n / 256 / 256 / 256 / 256 / 256 / 256) := ⟨_, rfl⟩
  obtain ⟨q7, f7⟩ : ∃ q, q = bq_pk 1 (n / 256 / 256 / 256 / 256 / 256 / 256 / 256) := ⟨_, rfl⟩
  rw [← f1] at a0 a1
  rw [← f2] at a1 a2
  rw [← f3] at a2 a3
  rw [← f4] at a3 a4
  rw [← f5] at a4 a5
  rw [← f6] at a5 a6
  rw [← f7] at a6 a7
  rw [h8] at a7
  clear tt f1 f2 f3 f4 f5 f6 f7 h8 hx
  generalize pc8 (n % 256) = s0 at *
  generalize pc8 (n / 256 % 256) = s1 at *
  generalize pc8 (n / 256 / 256 % 256) = s2 at *
  generalize pc8 (n / 256 / 256 / 256 % 256) = s3 at *
  generalize pc8 (n / 256 / 256 / 256 / 256 % 256) = s4 at *
  generalize pc8 (n / 256 / 256 / 256 / 256 / 256 % 256) = s5 at *
  generalize pc8 (n / 256 / 256 / 256 / 256 / 256 / 256 % 256) = s6 at *
  generalize pc8 (n / 256 / 256 / 256 / 256 / 256 / 256 / 256 % 256) = s7 at *
  have l0 : x = 256 * q1 + s0 := by omega
  have l1 : q1 = 256 * q2 + s1 := by omega
  have l2 : q2 = 256 * q3 + s2 := by omega
  have l3 : q3 = 256 * q4 + s3 := by omega
  have l4 : q4 = 256 * q5 + s4 := by omega
  have l5 : q5 = 256 * q6 + s5 := by omega
  have l6 : q6 = 256 * q7 + s6 := by omega
  have l7 : q7 = s7 := by omega
  have b0 := a0.2.2; have b1 := a1.2.2; have b2 := a2.2.2; have b3 := a3.2.2; have b4 := a4.2.2; have b5 := a5.2.2; have b6 := a6.2.2; have b7 := a7.2.2
  have e1 : t1 = x + q1 := by rw [e1, a0.2.1]
  clear a0 a1 a2 a3 a4 a5 a6 a7
  have w1 : t1 / 65536 = q2 + q3 := by
    have u : t1 = 65536 * (q2 + q3) + (256 * s1 + s0 + (256 * s2 + s1)) := by omega
    omega
  have w2 : t2 = x + q1 + q2 + q3 := by omega
  have w3 : t2 / 4294967296 = q4 + q5 + q6 + q7 := by
    have u : t2 = 4294967296 * (q4 + q5 + q6 + q7) + ((16777216 * s3 + 65536 * s2 + 256 * s1 + s0) + (16777216 * s4 + 65536 * s3 + 256 * s2 + s1) + (16777216 * s5 + 65536 * s4 + 256 * s3 + s2) + (16777216 * s6 + 65536 * s5 + 256 * s4 + s3)) := by omega
    omega
  have w4 : x + q1 + q2 + q3 + (q4 + q5 + q6 + q7) = 256 * (q1 + q2 + q3 + q4 + q5 + q6 + q7) + (s0 + (s1 + (s2 + (s3 + (s4 + (s5 + (s6 + (s7 + 0)))))))) := by omega
  rw [w3, w2, w4]
  have w5 : s0 + (s1 + (s2 + (s3 + (s4 + (s5 + (s6 + (s7 + 0))))))) ≤ 64 := by omega
  generalize s0 + (s1 + (s2 + (s3 + (s4 + (s5 + (s6 + (s7 + 0))))))) = σ at w5 ⊢
  generalize q1 + q2 + q3 + q4 + q5 + q6 + q7 = Qs
  omega
/-- how many of the first k bits are set -/
def nbit (n : Nat) : Nat → Nat
  | 0 => 0
  | k + 1 => nbit n k + (if n.testBit k then 1 else 0)
theorem nbit_add (n a : Nat) : ∀ b, nbit n (a + b) = nbit n a + nbit (n / 2 ^ a) b := by
  intro b
  induction b with
  | zero => rfl
  | succ b ih =>
    show nbit n (a + b) + (if n.testBit (a + b) then 1 else 0) = nbit n a + (nbit (n / 2 ^ a) b + (if (n / 2 ^ a).testBit b then 1 else 0))
    rw [ih, Nat.testBit_div_two_pow, Nat.add_comm b a, Nat.add_assoc]
theorem nbit_mod (n m : Nat) : ∀ k, k ≤ m → nbit (n % 2 ^ m) k = nbit n k := by
  intro k
  induction k with
  | zero => intro _; rfl
  | succ k ih =>
    intro h
    show nbit (n % 2 ^ m) k + _ = nbit n k + _
    rw [ih (by omega), Nat.testBit_mod_two_pow]
    simp [show k < m by omega]
theorem pc8_n : ∀ r : Fin 256, pc8 r.1 = nbit r.1 8 := by decide +kernel
theorem bq_totn : ∀ (k n : Nat), bq_tot k n = nbit n (8 * k) := by
  intro k
  induction k with
  | zero => intro n; rfl
  | succ k ih =>
    intro n
    have h : pc8 (n % 256) = nbit (n % 256) 8 := pc8_n ⟨n % 256, Nat.mod_lt _ (by decide)⟩
    show pc8 (n % 256) + bq_tot k (n / 256) = _
    rw [ih, h, show 8 * (k + 1) = 8 + 8 * k by omega, nbit_add, show (256 : Nat) = 2 ^ 8 from rfl, nbit_mod n 8 8 (Nat.le_refl _)]
theorem bcE {p0 z3 z7 z8 z14 z17 z21 z22 z27 z28 z32 z38 z39 z45 z46 z52 z53 : Int64} {z56 z59 : Int32} (ez3 : z3 = (p0.toUInt64 >>> ((1 : Int32).toInt64.toUInt64 &&& Int64.toUInt64 63)).toInt64) (ez7 : z7 = z3 &&& 6148914691236517205) (ez8 : z8 = p0 - z7) (ez14 : z14 = z8 &&& 3689348814741910323) (ez17 : z17 = (z8.toUInt64 >>> ((2 : Int32).toInt64.toUInt64 &&& Int64.toUInt64 63)).toInt64) (ez21 : z21 = z17 &&& 3689348814741910323) (ez22 : z22 = z14 + z21) (ez27 : z27 = (z22.toUInt64 >>> ((4 : Int32).toInt64.toUInt64 &&& Int64.toUInt64 63)).toInt64) (ez28 : z28 = z22 + z27) (ez32 : z32 = z28 &&& 1085102592571150095) (ez38 : z38 = (z32.toUInt64 >>> ((8 : Int32).toInt64.toUInt64 &&& Int64.toUInt64 63)).toInt64) (ez39 : z39 = z32 + z38) (ez45 : z45 = (z39.toUInt64 >>> ((16 : Int32).toInt64.toUInt64 &&& Int64.toUInt64 63)).toInt64) (ez46 : z46 = z39 + z45) (ez52 : z52 = (z46.toUInt64 >>> ((32 : Int32).toInt64.toUInt64 &&& Int64.toUInt64 63)).toInt64) (ez53 : z53 = z46 + z52) (ez56 : z56 = z53.toInt32) (ez59 : z59 = z56 &&& 127) : z59.toInt = (nbit p0.toBitVec.toNat 64 : Int) := by
  have hn : p0.toBitVec.toNat < 256 ^ 8 := p0.toBitVec.isLt
  have n3 := bq_sh 1 ez3 (by decide +kernel)
  have n7 := bq_and ez7
  rw [n3, show (6148914691236517205 : Int64).toBitVec.toNat = bq_m 85 8 from by decide +kernel] at n7
  have l7 : (p0.toBitVec.toNat / 2 ^ 1 &&& bq_m 85 8) ≤ p0.toBitVec.toNat / 2 ^ 1 := Nat.and_le_left
  have n8 := bq_sub ez8 (by rw [n7]; omega)
  rw [n7] at n8
  have e8 : z8.toBitVec.toNat = bq_1 8 p0.toBitVec.toNat := n8
  have n14 := bq_and ez14
  have n17 := bq_sh 2 ez17 (by decide +kernel)
  have n21 := bq_and ez21
  rw [n17, show (3689348814741910323 : Int64).toBitVec.toNat = bq_m 51 8 from by decide +kernel] at n21
  rw [show (3689348814741910323 : Int64).toBitVec.toNat = bq_m 51 8 from by decide +kernel] at n14
  have l14 : (z8.toBitVec.toNat &&& bq_m 51 8) ≤ bq_m 51 8 := Nat.and_le_right
  have l21 : (z8.toBitVec.toNat / 2 ^ 2 &&& bq_m 51 8) ≤ bq_m 51 8 := Nat.and_le_right
  have v51 : bq_m 51 8 = 3689348814741910323 := by decide +kernel
  have n22 := bq_add ez22 (by rw [n14, n21]; omega)
  have e22 : z22.toBitVec.toNat = bq_2 8 (bq_1 8 p0.toBitVec.toNat) := by rw [n22, n14, n21, e8]; rfl
  have l22 : z22.toBitVec.toNat ≤ 7378697629483820646 := by rw [n22, n14, n21]; omega
  have n27 := bq_sh 4 ez27 (by decide +kernel)
  have n28 := bq_add ez28 (by rw [n27]; omega)
  have n32 := bq_and ez32
  rw [n28, n27, show (1085102592571150095 : Int64).toBitVec.toNat = bq_m 15 8 from by decide +kernel] at n32
  have e32 : z32.toBitVec.toNat = bq_3 8 (bq_2 8 (bq_1 8 p0.toBitVec.toNat)) := by rw [n32, ← e22]; rfl
  have hB := (bq_all 8 _ hn).2
  rw [← e32] at hB
  have n38 := bq_sh 8 ez38 (by decide +kernel)
  have hx := (bq_sum hB rfl rfl).1
  have n39 := bq_add ez39 (by rw [n38]; omega)
  have n45 := bq_sh 16 ez45 (by decide +kernel)
  have n46 := bq_add ez46 (by rw [n45, n39, n38]; omega)
  have n52 := bq_sh 32 ez52 (by decide +kernel)
  have n53 := bq_add ez53 (by rw [n52, n46, n45, n39, n38]; omega)
  have hbd := (bq_sum (t1 := z39.toBitVec.toNat) (t2 := z46.toBitVec.toNat) hB (by rw [n39, n38]) (by rw [n46, n45])).2
  have key := bq_sumE (n := p0.toBitVec.toNat) (x := z32.toBitVec.toNat) (t1 := z39.toBitVec.toNat) (t2 := z46.toBitVec.toNat) (by rw [e32]; exact bq_ex 8 _ hn) (by rw [n39, n38]) (by rw [n46, n45])
  rw [bq_totn] at key
  have e53 : z53.toBitVec.toNat % 128 = nbit p0.toBitVec.toNat 64 := by rw [n53, n52]; exact key
  have e53b : z53.toBitVec.toNat % 128 ≤ 64 := by rw [n53, n52]; exact hbd
  have n59 : z59.toBitVec.toNat = z53.toBitVec.toNat % 128 := by
    rw [ez59, Int32.toBitVec_and, BitVec.toNat_and, ez56, show (127 : Int32).toBitVec.toNat = 2 ^ 7 - 1 from by decide +kernel, Nat.and_two_pow_sub_one_eq_mod]
    show (z53.toBitVec.signExtend 32).toNat % 2 ^ 7 = _
    rw [BitVec.signExtend_eq_setWidth_of_le _ (by decide), BitVec.toNat_setWidth]
    omega
  have : z59.toInt = (z59.toBitVec.toNat : Int) := by
    show z59.toBitVec.toInt = _
    rw [BitVec.toInt_eq_toNat_of_lt (by omega)]
  omega
