/-! doubles of whole numbers, and their quotients -/
theorem nr_sc (a b k : Nat) (hk : 0 < k) : FP.Core.nearest (a * k) (b * k) = FP.Core.nearest a b := by
  unfold FP.Core.nearest
  rw [Nat.mul_mod_mul_right, Nat.mul_div_mul_right _ _ hk]
  have e1 : 2 * (a % b * k) < b * k ↔ 2 * (a % b) < b := by rw [← Nat.mul_assoc]; exact Nat.mul_lt_mul_right hk
  have e2 : b * k < 2 * (a % b * k) ↔ b < 2 * (a % b) := by rw [← Nat.mul_assoc]; exact Nat.mul_lt_mul_right hk
  simp only [e1, e2]
theorem nr_b {a b lo hi : Nat} (hb : 0 < b) (h1 : lo * b ≤ a) (h2 : a < hi * b) : lo ≤ FP.Core.nearest a b ∧ FP.Core.nearest a b ≤ hi := by
  have d1 : lo ≤ a / b := (Nat.le_div_iff_mul_le hb).mpr h1
  have d2 : a / b < hi := (Nat.div_lt_iff_lt_mul hb).mpr h2
  have m : a / b % 2 ≤ 1 := by omega
  unfold FP.Core.nearest
  split
  · omega
  · split <;> omega
theorem fp_at {num den l : Nat} {e : Int} (h1 : 4503599627370496 ≤ num) (h2 : num < 9007199254740992) (h3 : 4503599627370496 ≤ den) (h4 : den < 9007199254740992) (he : -20 ≤ e ∧ e ≤ 0) (hl : (den ≤ num ∧ l = 0) ∨ (num < den ∧ l = 1)) : FP.Core.encode FP.Core.b64 (FP.Core.roundRatio FP.Core.b64 false num den e) = (1022 + e - l).toNat * 4503599627370496 + FP.Core.nearest (num * 2 ^ (52 + l)) den := by
  have p52 : (2 : Nat) ^ 52 = 4503599627370496 := by decide
  have p53 : (2 : Nat) ^ 53 = 9007199254740992 := by decide
  have ln : num.log2 = 52 := (Nat.log2_eq_iff (by omega)).mpr ⟨by rw [p52]; exact h1, by rw [show 52 + 1 = 53 from rfl, p53]; exact h2⟩
  have ld : den.log2 = 52 := (Nat.log2_eq_iff (by omega)).mpr ⟨by rw [p52]; exact h3, by rw [show 52 + 1 = 53 from rfl, p53]; exact h4⟩
  have lead : FP.Core.leading num den = -(l : Int) := by
    unfold FP.Core.leading
    rw [ln, ld]
    show (if den * 2 ^ (0 : Nat) ≤ num * 2 ^ (0 : Nat) then (0 : Int) else 0 - 1) = -(l : Int)
    rw [Nat.pow_zero, Nat.mul_one, Nat.mul_one]
    rcases hl with ⟨q, rfl⟩ | ⟨q, rfl⟩
    · rw [if_pos q]; rfl
    · rw [if_neg (by omega)]; rfl
  have qm : FP.Core.b64.qmin = -1074 := by decide +kernel
  have qx : FP.Core.b64.qmax = 971 := by decide +kernel
  have tl : FP.Core.b64.tails = 4503599627370496 := by decide +kernel
  have ex : FP.Core.b64.exps = 2048 := by decide +kernel
  have pp : FP.Core.b64.p = 53 := rfl
  have l1 : l ≤ 1 := by omega
  have qu : FP.Core.quantum FP.Core.b64 num den e = e - l - 52 := by
    unfold FP.Core.quantum
    rw [lead, qm, pp]
    omega
  unfold FP.Core.roundRatio
  rw [if_neg (by omega), qu]
  unfold FP.Core.roundAt FP.Core.unitsNum FP.Core.unitsDen
  rw [show (e - (e - l - 52)).toNat = 52 + l by omega, show ((e - l - 52) - e).toNat = 0 by omega, Nat.pow_zero, Nat.mul_one]
  have nb : 4503599627370496 ≤ FP.Core.nearest (num * 2 ^ (52 + l)) den ∧ FP.Core.nearest (num * 2 ^ (52 + l)) den ≤ 9007199254740992 := by
    rcases hl with ⟨q, rfl⟩ | ⟨q, rfl⟩
    · rw [show 52 + 0 = 52 from rfl, p52]
      exact nr_b (by omega) (by omega) (by omega)
    · rw [show 52 + 1 = 53 from rfl, p53]
      exact nr_b (by omega) (by omega) (by omega)
  generalize FP.Core.nearest (num * 2 ^ (52 + l)) den = N at nb ⊢
  have t0 : (e - l - 52 - -1074).toNat + 1 = (1022 + e - l).toNat + 1 := by omega
  have t1 : (e - l - 52 + 1 - -1074).toNat + 1 = (1022 + e - l).toNat + 2 := by omega
  unfold FP.Core.settle
  rw [pp, p53]
  by_cases c : N < 9007199254740992
  · rw [if_pos c]
    unfold FP.Core.bound
    rw [if_pos (by rw [qx]; omega)]
    show (if N < FP.Core.b64.tails then FP.Core.assemble FP.Core.b64 false 0 N else FP.Core.assemble FP.Core.b64 false ((e - l - 52 - FP.Core.b64.qmin).toNat + 1) (N - FP.Core.b64.tails)) = _
    rw [tl, qm, if_neg (by omega), t0]
    unfold FP.Core.assemble
    rw [ex, tl, show Bool.toNat false = 0 from rfl]
    generalize (1022 + e - l).toNat = T
    omega
  · rw [if_neg c]
    unfold FP.Core.bound
    rw [if_pos (by rw [qx]; omega)]
    show (if FP.Core.b64.tails < FP.Core.b64.tails then FP.Core.assemble FP.Core.b64 false 0 FP.Core.b64.tails else FP.Core.assemble FP.Core.b64 false ((e - l - 52 + 1 - FP.Core.b64.qmin).toNat + 1) (FP.Core.b64.tails - FP.Core.b64.tails)) = _
    rw [tl, qm, if_neg (by omega), t1]
    unfold FP.Core.assemble
    rw [ex, tl, show Bool.toNat false = 0 from rfl]
    generalize (1022 + e - l).toNat = T
    omega
def fpI (c : Nat) : FP.Core.Datum := .fin false (c * 2 ^ (52 - c.log2)) ((c.log2 : Int) - 52)
theorem j_lt {c d a b : Nat} (h1 : d ≤ c * 2 ^ a) (h2 : c * 2 ^ b < 2 * d) (h : a < b) : False := by
  have e : (2 : Nat) ^ b = 2 ^ a * 2 ^ (b - a) := by rw [← Nat.pow_add]; congr 1; omega
  have t : 2 ≤ 2 ^ (b - a) := by
    have q : (2 : Nat) ^ 1 ≤ 2 ^ (b - a) := Nat.pow_le_pow_right (by decide) (by omega)
    exact q
  have m : c * 2 ^ a * 2 ≤ c * 2 ^ a * 2 ^ (b - a) := Nat.mul_le_mul_left _ t
  rw [e, ← Nat.mul_assoc] at h2
  omega
theorem j_uni {c d a b : Nat} (h1 : d ≤ c * 2 ^ a) (h2 : c * 2 ^ a < 2 * d) (k1 : d ≤ c * 2 ^ b) (k2 : c * 2 ^ b < 2 * d) : a = b := by
  rcases Nat.lt_trichotomy a b with w | w | w
  · exact (j_lt h1 k2 w).elim
  · exact w
  · exact (j_lt k1 h2 w).elim
theorem fp_quot {c d j : Nat} (hc : 1 ≤ c) (hcd : c ≤ d) (hd : d ≤ 4000) (hj : d ≤ c * 2 ^ j) (hj2 : c * 2 ^ j < 2 * d) : FP.Core.encode FP.Core.b64 (FP.Core.quotient FP.Core.b64 (fpI c) (fpI d)) = (1022 - j) * 4503599627370496 + FP.Core.nearest (c * 2 ^ j * 4503599627370496) d := by
  have p52 : (2 : Nat) ^ 52 = 4503599627370496 := by decide
  have p53 : (2 : Nat) ^ 53 = 9007199254740992 := by decide
  obtain ⟨a1, a2⟩ := (Nat.log2_eq_iff (n := c) (k := c.log2) (by omega)).mp rfl
  obtain ⟨b1, b2⟩ := (Nat.log2_eq_iff (n := d) (k := d.log2) (by omega)).mp rfl
  have eq : FP.Core.quotient FP.Core.b64 (fpI c) (fpI d) = if d * 2 ^ (52 - d.log2) = 0 then (if c * 2 ^ (52 - c.log2) = 0 then FP.Core.Datum.nan else FP.Core.Datum.inf (false != false)) else FP.Core.roundRatio FP.Core.b64 (false != false) (c * 2 ^ (52 - c.log2)) (d * 2 ^ (52 - d.log2)) (((c.log2 : Int) - 52) - ((d.log2 : Int) - 52)) := rfl
  rw [eq]
  generalize c.log2 = lc at *
  generalize d.log2 = ld at *
  have hld : ld < 12 := (Nat.pow_lt_pow_iff_right (a := 2) (by decide)).mp (by rw [show (2 : Nat) ^ 12 = 4096 from by decide]; omega)
  have hll : lc < ld + 1 := (Nat.pow_lt_pow_iff_right (a := 2) (by decide)).mp (by omega)
  have K0 : 0 < 2 ^ (52 - ld) := Nat.pow_pos (by decide)
  have eN : c * 2 ^ (52 - lc) = c * 2 ^ (ld - lc) * 2 ^ (52 - ld) := by
    rw [Nat.mul_assoc, ← Nat.pow_add]; congr 2; omega
  have eL : (2 : Nat) ^ ld * 2 ^ (52 - ld) = 4503599627370496 := by rw [← Nat.pow_add, show ld + (52 - ld) = 52 by omega, p52]
  have eL1 : (2 : Nat) ^ (ld + 1) * 2 ^ (52 - ld) = 9007199254740992 := by rw [← Nat.pow_add, show ld + 1 + (52 - ld) = 53 by omega, p53]
  have c1 : 2 ^ ld ≤ c * 2 ^ (ld - lc) := by
    have q : (2 : Nat) ^ ld = 2 ^ lc * 2 ^ (ld - lc) := by rw [← Nat.pow_add]; congr 1; omega
    rw [q]; exact Nat.mul_le_mul_right _ a1
  have c2 : c * 2 ^ (ld - lc) < 2 ^ (ld + 1) := by
    have q : (2 : Nat) ^ (ld + 1) = 2 ^ (lc + 1) * 2 ^ (ld - lc) := by rw [← Nat.pow_add]; congr 1; omega
    rw [q]; exact Nat.mul_lt_mul_of_pos_right a2 (Nat.pow_pos (by decide))
  have x2 : (2 : Nat) ^ (ld + 1) = 2 * 2 ^ ld := by rw [Nat.pow_succ]; omega
  rw [eN]
  generalize hC : c * 2 ^ (ld - lc) = C at *
  have n1 : 4503599627370496 ≤ C * 2 ^ (52 - ld) := by rw [← eL]; exact Nat.mul_le_mul_right _ c1
  have n2 : C * 2 ^ (52 - ld) < 9007199254740992 := by rw [← eL1]; exact Nat.mul_lt_mul_of_pos_right c2 K0
  have d1 : 4503599627370496 ≤ d * 2 ^ (52 - ld) := by rw [← eL]; exact Nat.mul_le_mul_right _ b1
  have d2 : d * 2 ^ (52 - ld) < 9007199254740992 := by rw [← eL1]; exact Nat.mul_lt_mul_of_pos_right b2 K0
  rw [if_neg (by omega), show (false != false) = false from rfl]
  have key : ∀ l : Nat, ((d ≤ C ∧ l = 0) ∨ (C < d ∧ l = 1)) → j = ld - lc + l → FP.Core.encode FP.Core.b64 (FP.Core.roundRatio FP.Core.b64 false (C * 2 ^ (52 - ld)) (d * 2 ^ (52 - ld)) (((lc : Int) - 52) - ((ld : Int) - 52))) = (1022 - j) * 4503599627370496 + FP.Core.nearest (c * 2 ^ j * 4503599627370496) d := by
    intro l hl ej
    have l1 : l ≤ 1 := by omega
    rw [fp_at (l := l) n1 n2 d1 d2 (by omega) (by
      rcases hl with ⟨q, e⟩ | ⟨q, e⟩
      · exact Or.inl ⟨Nat.mul_le_mul_right _ q, e⟩
      · exact Or.inr ⟨Nat.mul_lt_mul_of_pos_right q K0, e⟩)]
    rw [show (1022 + (((lc : Int) - 52) - ((ld : Int) - 52)) - (l : Int)).toNat = 1022 - j by omega]
    congr 1
    have eX : C * 2 ^ (52 - ld) * 2 ^ (52 + l) = c * 2 ^ j * 4503599627370496 * 2 ^ (52 - ld) := by
      rw [← hC, ej, Nat.pow_add 2 (ld - lc) l, Nat.pow_add 2 52 l, p52]
      generalize (2 : Nat) ^ (52 - ld) = K
      generalize (2 : Nat) ^ (ld - lc) = A
      generalize (2 : Nat) ^ l = B
      simp only [Nat.mul_assoc, Nat.mul_left_comm, Nat.mul_comm]
    rw [eX, nr_sc _ _ _ K0]
  by_cases w : d ≤ C
  · exact key 0 (Or.inl ⟨w, rfl⟩) (j_uni hj hj2 (by rw [Nat.add_zero, hC]; exact w) (by rw [Nat.add_zero, hC]; omega))
  · exact key 1 (Or.inr ⟨by omega, rfl⟩) (j_uni hj hj2 (by rw [Nat.pow_succ, ← Nat.mul_assoc, hC]; omega) (by rw [Nat.pow_succ, ← Nat.mul_assoc, hC]; omega))
theorem fp_dec64 : ∀ a b : Fin 64, ¬ 64 * a.1 + b.1 = 0 → FP.Core.decode FP.Core.b64 (FP.i2d (nI (64 * a.1 + b.1))).toNat = fpI (64 * a.1 + b.1) := by decide +kernel
/-- the share of dots, as both sides make it -/
def shF (c d : Nat) : Nat := (FP.ddiv (FP.i2d (nI c)) (FP.i2d (nI d))).toNat
theorem fp_dec {c : Nat} (h : 1 ≤ c) (h2 : c ≤ 4000) : FP.Core.decode FP.Core.b64 (FP.i2d (nI c)).toNat = fpI c := by
  have q := fp_dec64 ⟨c / 64, by omega⟩ ⟨c % 64, by omega⟩ (by show ¬ 64 * (c / 64) + c % 64 = 0; omega)
  have e : 64 * (c / 64) + c % 64 = c := by omega
  show FP.Core.decode FP.Core.b64 (FP.i2d (nI c)).toNat = fpI c
  have q2 : FP.Core.decode FP.Core.b64 (FP.i2d (nI (64 * (c / 64) + c % 64))).toNat = fpI (64 * (c / 64) + c % 64) := q
  rw [e] at q2
  exact q2
theorem u64_of {n : Nat} (h : n < 18446744073709551616) : (UInt64.ofNat n).toNat = n := by
  rw [UInt64.toNat_ofNat']
  exact Nat.mod_eq_of_lt h
theorem sh_v {c d j : Nat} (hc : 1 ≤ c) (hcd : c ≤ d) (hd : d ≤ 4000) (hj : d ≤ c * 2 ^ j) (hj2 : c * 2 ^ j < 2 * d) : shF c d = (1022 - j) * 4503599627370496 + FP.Core.nearest (c * 2 ^ j * 4503599627370496) d ∧ FP.Core.nearest (c * 2 ^ j * 4503599627370496) d ≤ 9007199254740992 := by
  have nb := (nr_b (a := c * 2 ^ j * 4503599627370496) (b := d) (lo := 4503599627370496) (hi := 9007199254740992) (by omega) (by omega) (by omega)).2
  refine ⟨?_, nb⟩
  unfold shF
  show (UInt64.ofNat (FP.Core.encode FP.Core.b64 (FP.Core.quotient FP.Core.b64 (FP.Core.decode FP.Core.b64 (FP.i2d (nI c)).toNat) (FP.Core.decode FP.Core.b64 (FP.i2d (nI d)).toNat)))).toNat = _
  rw [fp_dec hc (by omega), fp_dec (by omega) hd, fp_quot hc hcd hd hj hj2]
  exact u64_of (by omega)
theorem sh_z {d : Nat} (h : 1 ≤ d) (hd : d ≤ 4000) : shF 0 d = 0 := by
  have e0 : FP.Core.decode FP.Core.b64 (FP.i2d (nI 0)).toNat = .fin false 0 (-1074) := by decide +kernel
  unfold shF
  show (UInt64.ofNat (FP.Core.encode FP.Core.b64 (FP.Core.quotient FP.Core.b64 (FP.Core.decode FP.Core.b64 (FP.i2d (nI 0)).toNat) (FP.Core.decode FP.Core.b64 (FP.i2d (nI d)).toNat)))).toNat = _
  rw [fp_dec h hd, e0]
  have n : ¬ d * 2 ^ (52 - d.log2) = 0 := by
    have p : 0 < 2 ^ (52 - d.log2) := Nat.pow_pos (by decide)
    exact Nat.mul_ne_zero (by omega) (by omega)
  have q : FP.Core.quotient FP.Core.b64 (.fin false 0 (-1074)) (fpI d) = if d * 2 ^ (52 - d.log2) = 0 then (if (0 : Nat) = 0 then FP.Core.Datum.nan else FP.Core.Datum.inf (false != false)) else FP.Core.roundRatio FP.Core.b64 (false != false) 0 (d * 2 ^ (52 - d.log2)) ((-1074) - ((d.log2 : Int) - 52)) := rfl
  rw [q, if_neg n]
  unfold FP.Core.roundRatio
  rw [if_pos rfl]
  decide +kernel
/-- there is a j, so the share is small enough to be no NaN -/
theorem sh_lt {c d : Nat} (hcd : c ≤ d) (h : 1 ≤ d) (hd : d ≤ 4000) : shF c d < 4616189618054758400 := by
  by_cases hc : c = 0
  · rw [hc, sh_z h hd]; decide
  · have ex : ∃ j, d ≤ c * 2 ^ j ∧ c * 2 ^ j < 2 * d := by
      have key : ∀ n : Nat, ∀ C : Nat, 1 ≤ C → C ≤ d → d ≤ C * 2 ^ n → ∃ j, d ≤ C * 2 ^ j ∧ C * 2 ^ j < 2 * d := by
        intro n
        induction n with
        | zero => intro C a b e; exact ⟨0, e, by rw [Nat.pow_zero]; omega⟩
        | succ n ih =>
          intro C a b e
          by_cases w : d ≤ C
          · exact ⟨0, by rw [Nat.pow_zero]; omega, by rw [Nat.pow_zero]; omega⟩
          · by_cases v : d ≤ 2 * C
            · exact ⟨1, by rw [Nat.pow_one]; omega, by rw [Nat.pow_one]; omega⟩
            · obtain ⟨j, p, q⟩ := ih (C * 2) (by omega) (by omega) (by rw [Nat.mul_assoc, ← Nat.pow_succ']; exact e)
              exact ⟨j + 1, by rw [Nat.pow_succ', ← Nat.mul_assoc]; exact p, by rw [Nat.pow_succ', ← Nat.mul_assoc]; exact q⟩
      exact key 12 c (by omega) hcd (by rw [show (2 : Nat) ^ 12 = 4096 from by decide]; omega)
    obtain ⟨j, p, q⟩ := ex
    have k := sh_v (by omega) hcd hd p q
    omega
/-- the class makes the digits one by one -/
def shL (R w : Int) (i : Nat) (b r : Int) : Prop := R * 2 ^ i = 2 * (w * b) + r ∧ (0 ≤ r ∧ r < 2 * w) ∧ 0 ≤ b ∧ b < 2 ^ i
theorem shL_0 {R w : Int} (h0 : 0 ≤ R) (h1 : R < 2 * w) : shL R w 0 0 R := by
  refine ⟨?_, ⟨h0, h1⟩, Int.le_refl _, by decide⟩
  rw [Int.pow_zero, Int.mul_one, Int.mul_zero, Int.mul_zero, Int.zero_add]
theorem shL_s {R w b r b1 r1 : Int} {i i1 : Nat} (h : shL R w i b r) (hi : i1 = i + 1) (c : (r < w ∧ b1 = 2 * b ∧ r1 = 2 * r) ∨ (w ≤ r ∧ b1 = 2 * b + 1 ∧ r1 = 2 * (r - w))) : shL R w i1 b1 r1 := by
  obtain ⟨e, h2, h3, h4⟩ := h
  have p : (2 : Int) ^ i1 = 2 * 2 ^ i := by rw [hi, Int.pow_succ]; omega
  have m : R * 2 ^ i1 = 2 * (R * 2 ^ i) := by rw [p]; exact Int.mul_left_comm _ _ _
  have w2 : w * (2 * b) = 2 * (w * b) := Int.mul_left_comm _ _ _
  rcases c with ⟨a, c1, c2⟩ | ⟨a, c1, c2⟩
  · refine ⟨?_, by omega, by omega, by rw [p]; omega⟩
    rw [m, e, c1, c2, w2]; omega
  · refine ⟨?_, by omega, by omega, by rw [p]; omega⟩
    have w3 : w * (2 * b + 1) = 2 * (w * b) + w := by rw [Int.mul_add, w2, Int.mul_one]
    rw [m, e, c1, c2, w3]; omega
theorem shL_end {R w b r N : Int} (h : shL R w 53 b r) (hR : 0 ≤ R) (hw : 1 ≤ w) (c : ((w < r ∨ (r = w ∧ b % 2 = 1)) ∧ N = b + 1) ∨ ((r < w ∨ (r = w ∧ b % 2 = 0)) ∧ N = b)) : N = (FP.Core.nearest (R.toNat * 4503599627370496) w.toNat : Int) := by
  obtain ⟨e, h2, h3, -⟩ := h
  have p : (2 : Int) ^ 53 = 9007199254740992 := by decide
  rw [p] at e
  have W : ((w.toNat : Nat) : Int) = w := by omega
  have B : ((b.toNat : Nat) : Int) = b := by omega
  have wb : ((w.toNat * b.toNat : Nat) : Int) = w * b := by rw [Int.natCast_mul, W, B]
  have e2 : R.toNat * 4503599627370496 = w.toNat * b.toNat + (r / 2).toNat := by omega
  have l : (r / 2).toNat < w.toNat := by omega
  have dv : R.toNat * 4503599627370496 / w.toNat = b.toNat := by
    rw [e2, Nat.mul_add_div (by omega), Nat.div_eq_of_lt l, Nat.add_zero]
  have md_ : R.toNat * 4503599627370496 % w.toNat = (r / 2).toNat := by
    rw [e2, Nat.mul_add_mod, Nat.mod_eq_of_lt l]
  have ev : r % 2 = 0 := by omega
  unfold FP.Core.nearest
  rw [dv, md_]
  by_cases q1 : 2 * (r / 2).toNat < w.toNat
  · rw [if_pos q1]; omega
  · rw [if_neg q1]
    by_cases q2 : w.toNat < 2 * (r / 2).toNat
    · rw [if_pos q2]; omega
    · rw [if_neg q2]; omega
theorem p2_53 {k : Nat} (h : k ≤ 53) : (2 : Int) ^ k ≤ 9007199254740992 := by
  have a : 2 ^ k ≤ 2 ^ 53 := Nat.pow_le_pow_right (by decide) h
  have b : (2 : Nat) ^ 53 = 9007199254740992 := by decide
  have c : ((2 ^ k : Nat) : Int) = (2 : Int) ^ k := Int.natCast_pow 2 k
  omega
theorem l_bm {z : Int} (h1 : -9223372036854775808 ≤ z) (h2 : z < 9223372036854775808) : z.bmod (2 ^ 64) = z := by
  rw [Int.bmod_eq_of_le (by omega) (by omega)]
theorem l_mul {x y z : Int64} {k q : Int} (e : z = x * y) (hx : x.toInt = k) (hy : y.toInt = q) (h1 : -9223372036854775808 ≤ k * q) (h2 : k * q < 9223372036854775808) : z.toInt = k * q := by
  rw [e, Int64.toInt_mul, hx, hy, l_bm h1 h2]
theorem l_add {x y z : Int64} {k q : Int} (e : z = x + y) (hx : x.toInt = k) (hy : y.toInt = q) (h1 : -9223372036854775808 ≤ k + q) (h2 : k + q < 9223372036854775808) : z.toInt = k + q := by
  rw [e, Int64.toInt_add, hx, hy, l_bm h1 h2]
theorem l_and1 {x z : Int64} (e : z = x &&& 1) (h : 0 ≤ x.toInt) : z.toInt = x.toInt % 2 := by
  have k : z.toBitVec.toNat = x.toBitVec.toNat % 2 := by
    rw [e, Int64.toBitVec_and, BitVec.toNat_and]
    exact Nat.and_one_is_mod _
  have a : z.toInt = if 2 * z.toBitVec.toNat < 2 ^ 64 then (z.toBitVec.toNat : Int) else (z.toBitVec.toNat : Int) - (2 ^ 64 : Nat) := BitVec.toInt_eq_toNat_cond _
  have b : x.toInt = if 2 * x.toBitVec.toNat < 2 ^ 64 then (x.toBitVec.toNat : Int) else (x.toBitVec.toNat : Int) - (2 ^ 64 : Nat) := BitVec.toInt_eq_toNat_cond _
  have l2 := x.toBitVec.isLt
  by_cases c : 2 * x.toBitVec.toNat < 2 ^ 64
  · rw [if_pos c] at b
    rw [if_pos (by omega)] at a
    omega
  · rw [if_neg c] at b
    omega
theorem l_s52 : ∀ a b : Fin 32, ((nI (32 * a.1 + b.1)).toInt64 <<< ((52 : Int32).toInt64 &&& 63)).toInt = (32 * a.1 + b.1 : Nat) * 4503599627370496 := by decide +kernel
theorem l_sh52 {z : Int32} {x y : Int64} (ex : x = z.toInt64) (ey : y = x <<< ((52 : Int32).toInt64 &&& 63)) (h : 0 ≤ z.toInt ∧ z.toInt ≤ 1023) : y.toInt = z.toInt * 4503599627370496 := by
  obtain ⟨k, hk, e⟩ := nI_10 (x := z) (n := 1023) (by decide) h.1 h.2
  have q := l_s52 ⟨k / 32, by omega⟩ ⟨k % 32, by omega⟩
  have q2 : ((nI (32 * (k / 32) + k % 32)).toInt64 <<< ((52 : Int32).toInt64 &&& 63)).toInt = ((32 * (k / 32) + k % 32 : Nat) : Int) * 4503599627370496 := q
  rw [show 32 * (k / 32) + k % 32 = k by omega] at q2
  have zi : z.toInt = (k : Int) := by rw [e, nI_toInt (by omega)]
  rw [ey, ex, e, q2, ← zi, e]
/-- a double that is no NaN -/
def sureD (b : UInt64) : Prop := b.toNat < 4616189618054758400
theorem sure_fin {b : UInt64} (h : sureD b) : ∃ s c q, FP.Core.decode FP.Core.b64 b.toNat = .fin s c q := by
  have tl : FP.Core.b64.tails = 4503599627370496 := by decide +kernel
  have ex : FP.Core.b64.exps = 2048 := by decide +kernel
  unfold sureD at h
  unfold FP.Core.decode
  have fe : ¬ FP.Core.fieldE FP.Core.b64 b.toNat = FP.Core.b64.exps - 1 := by
    unfold FP.Core.fieldE
    rw [tl, ex]
    omega
  rw [if_neg fe]
  split
  · exact ⟨_, _, _, rfl⟩
  · exact ⟨_, _, _, rfl⟩
theorem sure_cmp {b : UInt64} (h : sureD b) (op : CmpOp) : Op.cmpValue (FP.dcmp b b) op = 0 := by
  obtain ⟨s, c, q, e⟩ := sure_fin h
  have k : FP.dcmp b b = some .eq := by
    show FP.Core.order (FP.Core.decode FP.Core.b64 b.toNat) (FP.Core.decode FP.Core.b64 b.toNat) = some .eq
    rw [e]
    show some (compare (FP.Core.signed s (FP.Core.inUnits c q (min q q))) (FP.Core.signed s (FP.Core.inUnits c q (min q q)))) = some .eq
    congr 1
    generalize FP.Core.signed s (FP.Core.inUnits c q (min q q)) = X
    show compareOfLessAndEq X X = .eq
    unfold compareOfLessAndEq
    rw [if_neg (Int.lt_irrefl _), if_pos rfl]
  rw [k]
  cases op <;> rfl
theorem sure_al {x y : UInt64} (h : sureD y) (e : alike64 x y = true) : x = y := by
  unfold alike64 at e
  rw [Bool.or_eq_true, Bool.and_eq_true, decide_eq_true_iff] at e
  rcases e with e | e
  · exact e
  · have k := e.2
    unfold isNaN64 at k
    have k2 : (0x7ff0000000000000 : UInt64) < (y &&& 0x7fffffffffffffff) := of_decide_eq_true k
    rw [UInt64.lt_iff_toNat_lt, UInt64.toNat_and] at k2
    have m : y.toNat &&& (0x7fffffffffffffff : UInt64).toNat ≤ y.toNat := Nat.and_le_left
    have v : (0x7ff0000000000000 : UInt64).toNat = 9218868437227405312 := by decide
    unfold sureD at h
    omega
theorem sure_l {b : UInt64} {z : Int64} (h : sureD b) (e : z = b.toInt64) : z.toInt = (b.toNat : Int) := by
  have a : z.toInt = if 2 * z.toBitVec.toNat < 2 ^ 64 then (z.toBitVec.toNat : Int) else (z.toBitVec.toNat : Int) - (2 ^ 64 : Nat) := BitVec.toInt_eq_toNat_cond _
  have t : z.toBitVec.toNat = b.toNat := by rw [e]; rfl
  unfold sureD at h
  rw [a, t, if_pos (by omega)]
def shR (σ : Sx) (m : Int32) (r : Int64) : Prop := (mK σ m → r.toInt = (shF (totr (mF σ m) 40) ((mW σ m).toInt * (mH σ m).toInt).toNat : Int)) ∧ (¬ mK σ m → r.toInt = -1)
theorem shr_uni {σ : Sx} {m : Int32} {r s : Int64} (h : shR σ m r) (k : shR σ m s) : r = s := by
  by_cases q : mK σ m
  · exact Int64.toInt_inj.mp ((h.1 q).trans (k.1 q).symm)
  · exact Int64.toInt_inj.mp ((h.2 q).trans (k.2 q).symm)
theorem sh_wh {w h : Int} {f : Nat → Int64} (c : okm w h f) : (totr f 40 : Int) ≤ w * h ∧ 1 ≤ w * h ∧ w * h ≤ 4000 := by
  have o1 := c.1
  have o2 := c.2.1
  have t : totr f 40 = cntD (md f) := (totr_mk f).symm
  have b := cnt_box (x0 := 0) (y0 := 0) (w := w.toNat) h.toNat (D := md f) (fun x y q => by have := md_b c.2.2 x y q; omega)
  rw [show ((h.toNat : Nat) : Int) = h by omega, show ((w.toNat : Nat) : Int) = w by omega, Int.mul_comm] at b
  have l1 : w * 1 ≤ w * h := Int.mul_le_mul_of_nonneg_left o2.1 (by omega)
  have l2 : w * h ≤ w * 40 := Int.mul_le_mul_of_nonneg_left o2.2 (by omega)
  omega
