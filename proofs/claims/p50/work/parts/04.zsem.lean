/-! What a field holds: 99 numbers, 640 words, laid as in the reference; copies of it -/
def cpv {α : Type} (n v T W : Nat) (src old new : Nat → α) : Prop := (∀ k : Nat, k < v → new (n * T + k) = src (n * W + k)) ∧ ∀ j : Nat, (j < n * T ∨ n * T + v ≤ j) → new j = old j
theorem cpv_0 {α : Type} {n T W : Nat} {src old new : Nat → α} (h : new = old) : cpv n 0 T W src old new := ⟨fun k hk => absurd hk (by omega), fun j _ => by rw [h]⟩
theorem cpv_step {α : Type} {n v v2 T W i : Nat} {src old new new2 : Nat → α} {x : α} (h : cpv n v T W src old new) (h2 : ∀ j, new2 j = if j = i then x else new j) (hi : i = n * T + v) (hx : x = src (n * W + v)) (hv : v2 = v + 1) : cpv n v2 T W src old new2 := by
  subst hv
  refine ⟨fun k hk => ?_, fun j hj => ?_⟩
  · rw [h2]
    by_cases q : n * T + k = i
    · rw [if_pos q, hx]
      obtain rfl : k = v := by omega
      rfl
    · rw [if_neg q]; exact h.1 k (by omega)
  · rw [h2, if_neg (by omega)]; exact h.2 j (by omega)
theorem cpv_src {α : Type} {n v T W i p q : Nat} {F F0 : Nat → Nat → α} (h : cpv n v T W (F0 p) (F0 q) (F q)) (hv : v < n) (hf : ¬ p = q → F p = F0 p) (hi : i = n * W + v) : F p i = F0 p (n * W + v) := by
  subst hi
  by_cases e : p = q
  · rw [e]
    refine h.2 _ ?_
    rcases Nat.lt_or_ge W T with w | w
    · left
      have : n * (W + 1) ≤ n * T := Nat.mul_le_mul_left n w
      rw [Nat.mul_add] at this
      omega
    · right
      have : n * T ≤ n * W := Nat.mul_le_mul_left n w
      omega
  · rw [hf e]
abbrev cpd {α : Type} (n T W : Nat) (src old new : Nat → α) : Prop := cpv n n T W src old new
/-! Masks: dots by their places -/
/-- the words of a mask -/
def wo (Q : Nat → Nat → Option Nat) (a : Nat) : Nat := (Q a 2).getD 0
theorem wo_of {Q : Nat → Nat → Option Nat} {a y : Nat} (h : Q a 2 = some y) : wo Q a = y := by unfold wo; rw [h]; rfl
/-- a dot -/
def md (f : Nat → Int64) (x y : Int) : Bool := if y < 0 ∨ 40 ≤ y then false else dt (f (2 * y.toNat)) (f (2 * y.toNat + 1)) x
theorem md_y {f : Nat → Int64} {x y : Int} (h : y < 0 ∨ 40 ≤ y) : md f x y = false := if_pos h
theorem md_in {f : Nat → Int64} {x y : Int} (h : 0 ≤ y) (h2 : y < 40) : md f x y = dt (f (2 * y.toNat)) (f (2 * y.toNat + 1)) x := if_neg (by omega)
theorem md_x {f : Nat → Int64} {x y : Int} (h : x < 0 ∨ 128 ≤ x) : md f x y = false := by
  unfold md
  split
  · rfl
  · rcases h with q | q
    · exact dt_lo q
    · exact dt_hi q
theorem md_rng {f : Nat → Int64} {x y : Int} (h : md f x y = true) : (0 ≤ x ∧ x < 128) ∧ (0 ≤ y ∧ y < 40) := by
  rcases Classical.em (x < 0 ∨ 128 ≤ x) with q | q
  · rw [md_x q] at h; cases h
  · rcases Classical.em (y < 0 ∨ 40 ≤ y) with w | w
    · rw [md_y w] at h; cases h
    · omega
theorem md_bit {f : Nat → Int64} {x y : Int} (h0 : 0 ≤ x) (h1 : x < 128) (h2 : 0 ≤ y) (h3 : y < 40) : md f x y = b64 (f (2 * y.toNat + x.toNat / 64)) (x.toNat % 64) := by
  rw [md_in h2 h3]
  rcases Int.lt_or_le x 64 with q | q
  · rw [dt_a h0 q, show x.toNat / 64 = 0 by omega, show x.toNat % 64 = x.toNat by omega]; rfl
  · rw [dt_b q, show x.toNat / 64 = 1 by omega, show x.toNat % 64 = x.toNat - 64 by omega]
theorem md_congr {f g : Nat → Int64} (h : ∀ k, k < 80 → f k = g k) (x y : Int) : md f x y = md g x y := by
  unfold md
  split
  · rfl
  · rw [h _ (by omega), h _ (by omega)]
theorem md_ext {f g : Nat → Int64} (h : ∀ x y : Int, 0 ≤ x → x < 128 → 0 ≤ y → y < 40 → md f x y = md g x y) : ∀ k, k < 80 → f k = g k := by
  intro k hk
  apply b64_ext
  intro i hi
  have q := h ((64 * (k % 2) + i : Nat) : Int) ((k / 2 : Nat) : Int) (by omega) (by omega) (by omega) (by omega)
  rw [md_bit (by omega) (by omega) (by omega) (by omega), md_bit (by omega) (by omega) (by omega) (by omega)] at q
  have e1 : 2 * (((k / 2 : Nat) : Int)).toNat + (((64 * (k % 2) + i : Nat) : Int)).toNat / 64 = k := by omega
  have e2 : (((64 * (k % 2) + i : Nat) : Int)).toNat % 64 = i := by omega
  rw [e1, e2] at q
  exact q
/-- no dot beyond -/
def mcl (w h : Int) (f : Nat → Int64) : Prop := ∀ x y, md f x y = true → x < w ∧ y < h
/-- words out of dots -/
def bw (p : Nat → Bool) : Nat → BitVec 64
  | 0 => 0#64
  | n + 1 => bw p n ||| (if p n then BitVec.twoPow 64 n else 0#64)
theorem bw_get (p : Nat → Bool) (n i : Nat) (hi : i < 64) : (bw p n).getLsbD i = (decide (i < n) && p i) := by
  induction n with
  | zero => simp [bw]
  | succ n ih =>
    show (bw p n ||| (if p n then BitVec.twoPow 64 n else 0#64)).getLsbD i = _
    rw [BitVec.getLsbD_or, ih]
    rcases Nat.lt_trichotomy i n with q | q | q
    · have e : (if p n then BitVec.twoPow 64 n else 0#64).getLsbD i = false := by
        split
        · rw [BitVec.getLsbD_twoPow]; simp; omega
        · simp
      rw [e]; simp [q, show i < n + 1 by omega]
    · subst q
      have e : (if p i then BitVec.twoPow 64 i else 0#64).getLsbD i = p i := by
        cases w : p i with
        | true => rw [if_pos rfl, BitVec.getLsbD_twoPow]; simp [hi]
        | false => simp
      rw [e]; simp
    · have e : (if p n then BitVec.twoPow 64 n else 0#64).getLsbD i = false := by
        split
        · rw [BitVec.getLsbD_twoPow]; simp; omega
        · simp
      rw [e]; simp [show ¬ i < n by omega, show ¬ i < n + 1 by omega]
def mkw (D : Int → Int → Bool) (k : Nat) : Int64 := Int64.ofBitVec (bw (fun i => D ((64 * (k % 2) + i : Nat) : Int) ((k / 2 : Nat) : Int)) 64)
theorem mkw_md {D : Int → Int → Bool} {x y : Int} (h0 : 0 ≤ x) (h1 : x < 128) (h2 : 0 ≤ y) (h3 : y < 40) : md (mkw D) x y = D x y := by
  rw [md_bit h0 h1 h2 h3]
  have hi : x.toNat % 64 < 64 := Nat.mod_lt _ (by decide)
  have e : b64 (mkw D (2 * y.toNat + x.toNat / 64)) (x.toNat % 64) = (bw (fun i => D ((64 * ((2 * y.toNat + x.toNat / 64) % 2) + i : Nat) : Int) (((2 * y.toNat + x.toNat / 64) / 2 : Nat) : Int)) 64).getLsbD (x.toNat % 64) := rfl
  rw [e, bw_get _ _ _ hi]
  simp only [hi, decide_true, Bool.true_and]
  congr 1 <;> omega
theorem mkw_of {D : Int → Int → Bool} {f : Nat → Int64} (h : ∀ x y : Int, 0 ≤ x → x < 128 → 0 ≤ y → y < 40 → md f x y = D x y) : ∀ k, k < 80 → f k = mkw D k := md_ext (fun x y a b c d => by rw [h x y a b c d, mkw_md a b c d])
/-- the words have just these dots -/
def isM (f : Nat → Int64) (D : Int → Int → Bool) : Prop := ∀ x y : Int, 0 ≤ x → x < 128 → 0 ≤ y → y < 40 → md f x y = D x y
theorem md_upd2 {f f1 f2 : Nat → Int64} {a b : Int64} {r : Nat} (h1 : ∀ j, f1 j = if j = 2 * r then a else f j) (h2 : ∀ j, f2 j = if j = 2 * r + 1 then b else f1 j) (hr : r < 40) (x y : Int) : md f2 x y = if y = (r : Int) then dt a b x else md f x y := by
  by_cases q : y = (r : Int)
  · rw [if_pos q, md_in (by omega) (by omega), q, Int.toNat_natCast, h2, h2, if_neg (by omega), if_pos rfl, h1, if_pos rfl]
  · rw [if_neg q]
    unfold md
    split
    · rfl
    · rw [h2, if_neg (by omega), h1, if_neg (by omega), h2, if_neg (by omega), h1, if_neg (by omega)]
theorem b64_one {z : Int64} {c : Int32} {k : Nat} (e : z = (1 : Int64) <<< (c.toInt64 &&& 63)) (h : c.toInt = (k : Int)) (hk : k < 64) (i : Nat) : b64 z i = decide (i = k) := by
  rw [b64_shl e h hk]
  have h1 : ∀ j : Nat, b64 1 j = decide (j = 0) := fun j => by
    unfold b64
    rw [show (1 : Int64).toBitVec = 1#64 from rfl, BitVec.getLsbD_one]
    simp
  rw [h1]
  apply Bool.eq_iff_iff.mpr
  simp only [Bool.and_eq_true, Bool.not_eq_true', decide_eq_true_iff, decide_eq_false_iff_not]
  omega
theorem and63 {x z : Int32} (e : z = x &&& 63) (h : 0 ≤ x.toInt) : z.toInt = x.toInt % 64 := by
  have hx : x.toInt = (x.toBitVec.toNat : Int) := by
    have a : x.toInt = x.toBitVec.toInt := rfl
    rw [a, BitVec.toInt_eq_toNat_cond] at h ⊢
    split
    · rfl
    · rename_i q; rw [if_neg q] at h; have := x.toBitVec.isLt; omega
  have hz : z.toBitVec.toNat = x.toBitVec.toNat % 64 := by
    rw [e, Int32.toBitVec_and, BitVec.toNat_and]
    exact Nat.and_two_pow_sub_one_eq_mod _ 6
  have a : z.toInt = z.toBitVec.toInt := rfl
  rw [a, BitVec.toInt_eq_toNat_cond, if_pos (by omega), hz, hx]
  omega
/-- one dot is turned -/
theorem md_tog {f f1 : Nat → Int64} {v s : Int64} {x0 y0 : Int} {i : Nat} {c : Int32} (h1 : ∀ j, f1 j = if j = i then v else f j) (hv : v = f i ^^^ s) (hs : s = (1 : Int64) <<< (c.toInt64 &&& 63)) (hc : c.toInt = x0 % 64) (hi : (i : Int) = 2 * y0 + x0 / 64) (a0 : 0 ≤ x0) (a1 : x0 < 128) (a2 : 0 ≤ y0) (a3 : y0 < 40) (x y : Int) : md f1 x y = (md f x y ^^ decide (x = x0 ∧ y = y0)) := by
  rcases Classical.em ((0 ≤ x ∧ x < 128) ∧ (0 ≤ y ∧ y < 40)) with ⟨⟨b0, b1⟩, b2, b3⟩ | q
  · rw [md_bit b0 b1 b2 b3, md_bit b0 b1 b2 b3, h1]
    by_cases w : 2 * y.toNat + x.toNat / 64 = i
    · rw [if_pos w, b64_xor hv, b64_one hs (k := (x0 % 64).toNat) (by omega) (by omega), w]
      congr 1
      exact decide_eq_decide.mpr (by omega)
    · rw [if_neg w, decide_eq_false (by omega), Bool.xor_false]
  · have e : md f x y = false := by
      cases w : md f x y with
      | false => rfl
      | true => exact absurd (md_rng w) q
    have e1 : md f1 x y = false := by
      cases w : md f1 x y with
      | false => rfl
      | true => exact absurd (md_rng w) q
    rw [e, e1, decide_eq_false (by omega)]; rfl
/-- one dot is set -/
theorem md_set {f f1 : Nat → Int64} {v s : Int64} {x0 y0 : Int} {i : Nat} {c : Int32} (h1 : ∀ j, f1 j = if j = i then v else f j) (hv : v = f i ||| s) (hs : s = (1 : Int64) <<< (c.toInt64 &&& 63)) (hc : c.toInt = x0 % 64) (hi : (i : Int) = 2 * y0 + x0 / 64) (a0 : 0 ≤ x0) (a1 : x0 < 128) (a2 : 0 ≤ y0) (a3 : y0 < 40) (x y : Int) : md f1 x y = (md f x y || decide (x = x0 ∧ y = y0)) := by
  rcases Classical.em ((0 ≤ x ∧ x < 128) ∧ (0 ≤ y ∧ y < 40)) with ⟨⟨b0, b1⟩, b2, b3⟩ | q
  · rw [md_bit b0 b1 b2 b3, md_bit b0 b1 b2 b3, h1]
    by_cases w : 2 * y.toNat + x.toNat / 64 = i
    · rw [if_pos w, b64_or hv, b64_one hs (k := (x0 % 64).toNat) (by omega) (by omega), w]
      congr 1
      exact decide_eq_decide.mpr (by omega)
    · rw [if_neg w, decide_eq_false (by omega), Bool.or_false]
  · have e : md f x y = false := by
      cases w : md f x y with
      | false => rfl
      | true => exact absurd (md_rng w) q
    have e1 : md f1 x y = false := by
      cases w : md f1 x y with
      | false => rfl
      | true => exact absurd (md_rng w) q
    rw [e, e1, decide_eq_false (by omega)]; rfl
theorem lc1 {x z : Int64} {c : Int32} (e : z = x &&& 1) (ec : c = lg_cmp z 1) : c.toInt = 0 ↔ b64 x 0 = true := by
  have hz : b64 z 0 = b64 x 0 := by
    rw [b64_and e]
    have : b64 1 0 = true := by decide +kernel
    rw [this, Bool.and_true]
  have hz2 : z = 1 ↔ b64 z 0 = true := by
    constructor
    · intro q; rw [q]; decide +kernel
    · intro q
      apply b64_ext
      intro i hi
      have h1 : ∀ j : Nat, b64 1 j = decide (j = 0) := fun j => by
        unfold b64
        rw [show (1 : Int64).toBitVec = 1#64 from rfl, BitVec.getLsbD_one]
        simp
      rw [h1]
      by_cases w : i = 0
      · rw [w, q]; rfl
      · rw [b64_and e, h1]; simp [w]
  have hc := tq_lcmp (k := z.toInt) (q := 1) ec rfl (by decide +kernel)
  rw [← hz, ← hz2]
  constructor
  · intro q; exact Int64.toInt_inj.mp (by rw [show (1 : Int64).toInt = 1 from by decide +kernel]; omega)
  · intro q
    have : z.toInt = 1 := by rw [q]; decide +kernel
    omega
theorem b64_sar {x z : Int64} {c : Int32} {k : Nat} (e : z = x >>> (c.toInt64 &&& 63)) (h : c.toInt = (k : Int)) (hk : k < 64) : b64 z 0 = b64 x k := by
  unfold b64
  rw [e, Int64.toBitVec_shiftRight, BitVec.sshiftRight_eq', BitVec.getLsbD_sshiftRight, smod63 h hk]
  simp [hk]
def bi (b : Bool) : Int := if b then 1 else 0
theorem bi_t {k : Int} {b : Bool} (h : k = bi b) (n : ¬ k = 0) : b = true := by
  cases b with
  | true => rfl
  | false => exact absurd (h.trans rfl) n
theorem bi_f {k : Int} {b : Bool} (h : k = bi b) (n : k = 0) : b = false := by
  cases b with
  | true => exact absurd (n.symm.trans h) (by decide)
  | false => rfl
theorem bi_1 {r : Int32} {b : Bool} (e : r.toInt = 1) (h : b = true) : r.toInt = bi b := by rw [h, e]; rfl
theorem bi_0 {r : Int32} {b : Bool} (e : r.toInt = 0) (h : b = false) : r.toInt = bi b := by rw [h, e]; rfl
def hs (w h : Int) (f : Nat → Int64) (x y : Int) : Bool := decide (0 ≤ x ∧ x < w ∧ 0 ≤ y ∧ y < h) && md f x y
theorem hs_of {w h : Int} {f : Nat → Int64} (c : mcl w h f) (x y : Int) : hs w h f x y = md f x y := by
  unfold hs
  cases q : md f x y with
  | false => rw [Bool.and_false]
  | true =>
    have a := md_rng q
    have b := c x y q
    rw [decide_eq_true (by omega)]; rfl
theorem hs_t {w h : Int} {f : Nat → Int64} {x y : Int} : hs w h f x y = true ↔ (0 ≤ x ∧ x < w ∧ 0 ≤ y ∧ y < h) ∧ md f x y = true := by
  unfold hs; rw [Bool.and_eq_true, decide_eq_true_iff]
theorem hs_n {w h : Int} {f : Nat → Int64} {x y : Int} (q : ¬ (0 ≤ x ∧ x < w ∧ 0 ≤ y ∧ y < h)) : hs w h f x y = false := by
  unfold hs; rw [decide_eq_false q]; rfl
/-! numbers of dots -/
def nb (x : Int64) : Nat := nbit x.toBitVec.toNat 64
theorem nbit_le (n : Nat) : ∀ k, nbit n k ≤ k := by
  intro k
  induction k with
  | zero => exact Nat.le_refl _
  | succ k ih =>
    show nbit n k + _ ≤ k + 1
    split <;> omega
theorem nbit_z {n : Nat} : ∀ k, nbit n k = 0 ↔ ∀ i, i < k → n.testBit i = false := by
  intro k
  induction k with
  | zero => exact ⟨fun _ i hi => absurd hi (by omega), fun _ => rfl⟩
  | succ k ih =>
    show nbit n k + (if n.testBit k then 1 else 0) = 0 ↔ _
    constructor
    · intro h i hi
      rcases Nat.lt_or_ge i k with q | q
      · exact ih.mp (by omega) i q
      · obtain rfl : i = k := by omega
        cases w : n.testBit i with
        | false => rfl
        | true => rw [w] at h; simp at h
    · intro h
      rw [ih.mpr (fun i hi => h i (by omega)), h k (by omega)]; rfl
theorem nb_0 {x : Int64} : nb x = 0 ↔ x = 0 := by
  unfold nb
  rw [nbit_z]
  constructor
  · intro h
    apply b64_ext
    intro i hi
    rw [b64_0]; exact h i hi
  · intro h i _
    rw [h]
    show (0 : Int64).toBitVec.toNat.testBit i = false
    simp
theorem nb_le (x : Int64) : nb x ≤ 64 := nbit_le _ _
def totr (f : Nat → Int64) : Nat → Nat
  | 0 => 0
  | r + 1 => totr f r + (nb (f (2 * r)) + nb (f (2 * r + 1)))
theorem totr_le (f : Nat → Int64) (r : Nat) : totr f r ≤ 128 * r := by
  induction r with
  | zero => exact Nat.le_refl _
  | succ r ih =>
    have a := nb_le (f (2 * r))
    have b := nb_le (f (2 * r + 1))
    show totr f r + _ ≤ _
    omega
def rowE (f : Nat → Int64) (r : Nat) : Prop := f (2 * r) = 0 ∧ f (2 * r + 1) = 0
theorem dt_z (x : Int) : dt 0 0 x = false := by
  unfold dt
  split
  · rfl
  · split <;> exact b64_0 _
theorem dt_ex {a b : Int64} : (∃ x, dt a b x = true) ↔ ¬ (a = 0 ∧ b = 0) := by
  constructor
  · rintro ⟨x, h⟩ ⟨q1, q2⟩
    rw [q1, q2, dt_z] at h; cases h
  · intro h
    by_cases q : a = 0
    · obtain ⟨t, h1, h2, -⟩ := low_ex (x := b) (fun w => h ⟨q, w⟩)
      exact ⟨(t : Int) + 64, by rw [dt_b (by omega), show ((t : Int) + 64).toNat - 64 = t by omega]; exact h2⟩
    · obtain ⟨t, h1, h2, -⟩ := low_ex q
      exact ⟨(t : Int), by rw [dt_a (by omega) (by omega)]; exact h2⟩
theorem or_0 {a b z : Int64} (e : z = a ||| b) : z = 0 ↔ a = 0 ∧ b = 0 := by
  constructor
  · intro h
    constructor
    · apply b64_ext
      intro i _
      have q := b64_or e i
      rw [h, b64_0] at q
      rw [b64_0]
      cases w : b64 a i with
      | false => rfl
      | true => rw [w] at q; cases q
    · apply b64_ext
      intro i _
      have q := b64_or e i
      rw [h, b64_0] at q
      rw [b64_0]
      cases w : b64 b i with
      | false => rfl
      | true => rw [w, Bool.or_true] at q; cases q
  · rintro ⟨h1, h2⟩
    apply b64_ext
    intro i _
    rw [b64_or e, h1, h2, b64_0]; rfl
theorem dt_or {a b a2 b2 u v : Int64} (e1 : u = a ||| a2) (e2 : v = b ||| b2) (x : Int) : dt u v x = (dt a b x || dt a2 b2 x) := by
  unfold dt
  split
  · rfl
  · split
    · exact b64_or e1 _
    · exact b64_or e2 _
theorem dt_and {a b a2 b2 u v : Int64} (e1 : u = a &&& a2) (e2 : v = b &&& b2) (x : Int) : dt u v x = (dt a b x && dt a2 b2 x) := by
  unfold dt
  split
  · rfl
  · split
    · exact b64_and e1 _
    · exact b64_and e2 _
theorem lowX {a b : Int64} {r : Int32} (h : (¬ a = 0 → ∀ t, lowB a t → r.toInt = (t : Int)) ∧ (a = 0 → ∀ t, lowB b t → r.toInt = 64 + (t : Int))) (ne : ∃ x, dt a b x = true) : dt a b r.toInt = true ∧ ∀ x, dt a b x = true → r.toInt ≤ x := by
  by_cases q : a = 0
  · have q2 : ¬ b = 0 := fun w => dt_ex.mp ne ⟨q, w⟩
    obtain ⟨t, ht⟩ := low_ex q2
    have e := h.2 q t ht
    refine ⟨by rw [e, dt_b (by omega), show (64 + (t : Int)).toNat - 64 = t by omega]; exact ht.2.1, fun x hx => ?_⟩
    rcases Int.lt_or_le x 64 with w | w
    · rcases Int.lt_or_le x 0 with u | u
      · rw [dt_lo u] at hx; cases hx
      · rw [dt_a u w, q, b64_0] at hx; cases hx
    · rw [dt_b w] at hx
      apply Classical.byContradiction
      intro n
      rw [ht.2.2 (x.toNat - 64) (by omega)] at hx; cases hx
  · obtain ⟨t, ht⟩ := low_ex q
    have e := h.1 q t ht
    have ht1 := ht.1
    refine ⟨by rw [e, dt_a (by omega) (by omega)]; exact ht.2.1, fun x hx => ?_⟩
    rcases Int.lt_or_le x 64 with w | w
    · rcases Int.lt_or_le x 0 with u | u
      · rw [dt_lo u] at hx; cases hx
      · rw [dt_a u w] at hx
        apply Classical.byContradiction
        intro n
        rw [ht.2.2 x.toNat (by omega)] at hx; cases hx
    · omega
theorem highX {a b : Int64} {r : Int32} (h : (¬ b = 0 → ∀ t, highB b t → r.toInt = 64 + (t : Int)) ∧ (b = 0 → ∀ t, highB a t → r.toInt = (t : Int))) (ne : ∃ x, dt a b x = true) : dt a b r.toInt = true ∧ ∀ x, dt a b x = true → x ≤ r.toInt := by
  by_cases q : b = 0
  · have q2 : ¬ a = 0 := fun w => dt_ex.mp ne ⟨w, q⟩
    obtain ⟨t, ht⟩ := high_ex q2
    have e := h.2 q t ht
    have ht1 := ht.1
    refine ⟨by rw [e, dt_a (by omega) (by omega)]; exact ht.2.1, fun x hx => ?_⟩
    rcases Int.lt_or_le x 64 with w | w
    · rcases Int.lt_or_le x 0 with u | u
      · rw [dt_lo u] at hx; cases hx
      · rw [dt_a u w] at hx
        apply Classical.byContradiction
        intro n
        rw [ht.2.2 x.toNat (by omega)] at hx; cases hx
    · rw [dt_b w, q, b64_0] at hx; cases hx
  · obtain ⟨t, ht⟩ := high_ex q
    have e := h.1 q t ht
    refine ⟨by rw [e, dt_b (by omega), show (64 + (t : Int)).toNat - 64 = t by omega]; exact ht.2.1, fun x hx => ?_⟩
    rcases Int.lt_or_le x 64 with w | w
    · omega
    · rw [dt_b w] at hx
      apply Classical.byContradiction
      intro n
      rw [ht.2.2 (x.toNat - 64) (by omega)] at hx; cases hx
/-- what a mask's dots reach -/
def msr (f : Nat → Int64) (tot l t r b : Int) : Prop := tot = (totr f 40 : Int) ∧ (¬ tot = 0 → (∃ y, md f l y = true) ∧ (∃ x, md f x t = true) ∧ (∃ y, md f r y = true) ∧ (∃ x, md f x b = true) ∧ ∀ x y, md f x y = true → (l ≤ x ∧ x ≤ r) ∧ (t ≤ y ∧ y ≤ b)) ∧ (tot = 0 → ∀ x y, md f x y = false)
/-- the rows ahead of y are measured -/
def mzI (f : Nat → Int64) (y tot : Int) (low rest : Int64) (top bot : Int) : Prop := tot = (totr f y.toNat : Int) ∧ (∀ x : Int, dt low rest x = true ↔ ∃ r : Nat, r < y.toNat ∧ dt (f (2 * r)) (f (2 * r + 1)) x = true) ∧ ((top = -1 ∧ ∀ r : Nat, r < y.toNat → rowE f r) ∨ (0 ≤ top ∧ top ≤ bot ∧ bot < y ∧ ¬ rowE f top.toNat ∧ ¬ rowE f bot.toNat ∧ (∀ r : Nat, (r : Int) < top → rowE f r) ∧ ∀ r : Nat, bot < (r : Int) → r < y.toNat → rowE f r))
theorem mz_0 {f : Nat → Int64} {b : Int} : mzI f (0 : Int32).toInt (0 : Int32).toInt 0 0 (-1 : Int32).toInt b := by
  refine ⟨rfl, fun x => ?_, Or.inl ⟨by decide +kernel, fun r hr => absurd hr (by rw [show (0 : Int32).toInt.toNat = 0 from by decide +kernel]; omega)⟩⟩
  rw [dt_z]
  constructor
  · intro h; cases h
  · rintro ⟨r, hr, -⟩
    rw [show (0 : Int32).toInt.toNat = 0 from by decide +kernel] at hr; omega
theorem mz_skip {f : Nat → Int64} {y y2 tot top bot : Int} {low rest : Int64} (h : mzI f y tot low rest top bot) (hy : 0 ≤ y) (hy2 : y2 = y + 1) (e : rowE f y.toNat) : mzI f y2 tot low rest top bot := by
  have en : y2.toNat = y.toNat + 1 := by omega
  obtain ⟨h1, h2, h3⟩ := h
  refine ⟨?_, fun x => ?_, ?_⟩
  · rw [en]
    show tot = ((totr f y.toNat + (nb (f (2 * y.toNat)) + nb (f (2 * y.toNat + 1))) : Nat) : Int)
    rw [nb_0.mpr e.1, nb_0.mpr e.2]; exact h1
  · rw [h2 x, en]
    constructor
    · rintro ⟨r, a, b⟩; exact ⟨r, by omega, b⟩
    · rintro ⟨r, a, b⟩
      rcases Nat.lt_or_ge r y.toNat with q | q
      · exact ⟨r, q, b⟩
      · obtain rfl : r = y.toNat := by omega
        rw [e.1, e.2, dt_z] at b; cases b
  · rcases h3 with ⟨a, b⟩ | ⟨a, b, c, d, g, i, j⟩
    · refine Or.inl ⟨a, fun r hr => ?_⟩
      rcases Nat.lt_or_ge r y.toNat with q | q
      · exact b r q
      · obtain rfl : r = y.toNat := by omega
        exact e
    · refine Or.inr ⟨a, b, by omega, d, g, i, fun r h1 h2 => ?_⟩
      rcases Nat.lt_or_ge r y.toNat with q | q
      · exact j r h1 q
      · obtain rfl : r = y.toNat := by omega
        exact e
theorem mz_add {f : Nat → Int64} {y y2 tot tot2 top bot top2 bot2 : Int} {low rest low2 rest2 : Int64} (h : mzI f y tot low rest top bot) (hy : 0 ≤ y) (hy2 : y2 = y + 1) (ne : ¬ rowE f y.toNat) (ht : tot2 = tot + ((nb (f (2 * y.toNat)) : Int) + (nb (f (2 * y.toNat + 1)) : Int))) (e1 : low2 = low ||| f (2 * y.toNat)) (e2 : rest2 = rest ||| f (2 * y.toNat + 1)) (htop : top2 = if top < 0 then y else top) (hbot : bot2 = y) : mzI f y2 tot2 low2 rest2 top2 bot2 := by
  have en : y2.toNat = y.toNat + 1 := by omega
  obtain ⟨h1, h2, h3⟩ := h
  refine ⟨?_, fun x => ?_, Or.inr ?_⟩
  · rw [en]
    show tot2 = ((totr f y.toNat + (nb (f (2 * y.toNat)) + nb (f (2 * y.toNat + 1))) : Nat) : Int)
    omega
  · rw [dt_or e1 e2, Bool.or_eq_true, h2 x, en]
    constructor
    · rintro (⟨r, a, b⟩ | b)
      · exact ⟨r, by omega, b⟩
      · exact ⟨y.toNat, by omega, b⟩
    · rintro ⟨r, a, b⟩
      rcases Nat.lt_or_ge r y.toNat with q | q
      · exact Or.inl ⟨r, q, b⟩
      · obtain rfl : r = y.toNat := by omega
        exact Or.inr b
  · rcases h3 with ⟨a, b⟩ | ⟨a, b, c, d, g, i, j⟩
    · rw [if_pos (by omega)] at htop
      subst htop; subst hbot
      exact ⟨hy, Int.le_refl _, by omega, ne, ne, fun r hr => b r (by omega), fun r h1 h2 => by omega⟩
    · rw [if_neg (by omega)] at htop
      subst htop; subst hbot
      exact ⟨a, by omega, by omega, d, ne, i, fun r h1 h2 => by omega⟩
theorem totr_z {f : Nat → Int64} : ∀ n, totr f n = 0 ↔ ∀ r, r < n → rowE f r := by
  intro n
  induction n with
  | zero => exact ⟨fun _ r hr => absurd hr (by omega), fun _ => rfl⟩
  | succ n ih =>
    show totr f n + (nb (f (2 * n)) + nb (f (2 * n + 1))) = 0 ↔ _
    constructor
    · intro h r hr
      rcases Nat.lt_or_ge r n with q | q
      · exact ih.mp (by omega) r q
      · obtain rfl : r = n := by omega
        exact ⟨nb_0.mp (by omega), nb_0.mp (by omega)⟩
    · intro h
      have a := ih.mpr (fun r hr => h r (by omega))
      have b := nb_0.mpr (h n (by omega)).1
      have c := nb_0.mpr (h n (by omega)).2
      omega
theorem totr_ext {f : Nat → Int64} {n : Nat} : ∀ m, (∀ r, n ≤ r → r < n + m → rowE f r) → totr f (n + m) = totr f n := by
  intro m
  induction m with
  | zero => intro _; rfl
  | succ m ih =>
    intro h
    show totr f (n + m) + (nb (f (2 * (n + m))) + nb (f (2 * (n + m) + 1))) = totr f n
    have q := h (n + m) (by omega) (by omega)
    rw [ih (fun r a b => h r a (by omega)), nb_0.mpr q.1, nb_0.mpr q.2]; rfl
theorem rowE_md {f : Nat → Int64} {r : Nat} (hr : r < 40) : rowE f r ↔ ∀ x, md f x (r : Int) = false := by
  constructor
  · intro h x
    rw [md_in (by omega) (by omega), Int.toNat_natCast, h.1, h.2, dt_z]
  · intro h
    apply Classical.byContradiction
    intro n
    obtain ⟨x, hx⟩ := dt_ex.mpr n
    have q := h x
    rw [md_in (by omega) (by omega), Int.toNat_natCast, hx] at q; cases q
theorem mz_end {f : Nat → Int64} {y tot top bot l r w h : Int} {low rest : Int64} (hz : mzI f y tot low rest top bot) (hy : h ≤ y) (hy2 : y ≤ 40) (hy0 : 0 ≤ y) (c : mcl w h f) (hl : (∃ x, dt low rest x = true) → dt low rest l = true ∧ ∀ x, dt low rest x = true → l ≤ x) (hr : (∃ x, dt low rest x = true) → dt low rest r = true ∧ ∀ x, dt low rest x = true → x ≤ r) : msr f tot l top r bot := by
  obtain ⟨h1, h2, h3⟩ := hz
  have hE : ∀ n : Nat, y.toNat ≤ n → n < 40 → rowE f n := fun n a b => (rowE_md b).mpr (fun x => by
    cases q : md f x (n : Int) with
    | false => rfl
    | true => have := (c x n q).2; omega)
  have ht : totr f 40 = totr f y.toNat := by
    have q := totr_ext (f := f) (n := y.toNat) (40 - y.toNat) (fun r a b => hE r a (by omega))
    rw [show y.toNat + (40 - y.toNat) = 40 by omega] at q; exact q
  have hA : ∀ x y', md f x y' = true → 0 ≤ y' ∧ y'.toNat < y.toNat ∧ dt (f (2 * y'.toNat)) (f (2 * y'.toNat + 1)) x = true := fun x y' q => by
    have a := md_rng q
    have b := c x y' q
    rw [md_in (by omega) (by omega)] at q
    exact ⟨by omega, by omega, q⟩
  have hB : ∀ x (n : Nat), n < y.toNat → dt (f (2 * n)) (f (2 * n + 1)) x = true → md f x (n : Int) = true := fun x n a b => by
    rw [md_in (by omega) (by omega), Int.toNat_natCast]; exact b
  refine ⟨by rw [ht]; exact h1, fun q => ?_, fun q x y' => ?_⟩
  · have ne : ¬ ∀ n, n < y.toNat → rowE f n := fun w => q (by rw [h1, (totr_z _).mpr w]; rfl)
    rcases h3 with ⟨a, b⟩ | ⟨a, b, c3, d, g, i, j⟩
    · exact absurd b ne
    · obtain ⟨xt, ht⟩ := dt_ex.mpr d
      obtain ⟨xb, hb⟩ := dt_ex.mpr g
      have nx : ∃ x, dt low rest x = true := ⟨xt, (h2 xt).mpr ⟨top.toNat, by omega, ht⟩⟩
      obtain ⟨l1, l2⟩ := hl nx
      obtain ⟨r1, r2⟩ := hr nx
      obtain ⟨nl, l3, l4⟩ := (h2 l).mp l1
      obtain ⟨nr, r3, r4⟩ := (h2 r).mp r1
      refine ⟨⟨_, hB l nl l3 l4⟩, ⟨xt, ?_⟩, ⟨_, hB r nr r3 r4⟩, ⟨xb, ?_⟩, fun x y' hm => ?_⟩
      · have q := hB xt top.toNat (by omega) ht
        rw [show ((top.toNat : Nat) : Int) = top by omega] at q; exact q
      · have q := hB xb bot.toNat (by omega) hb
        rw [show ((bot.toNat : Nat) : Int) = bot by omega] at q; exact q
      · obtain ⟨u0, u1, u2⟩ := hA x y' hm
        have hx : dt low rest x = true := (h2 x).mpr ⟨y'.toNat, u1, u2⟩
        have nE : ¬ rowE f y'.toNat := dt_ex.mp ⟨x, u2⟩
        refine ⟨⟨l2 x hx, r2 x hx⟩, ?_, ?_⟩
        · apply Classical.byContradiction
          intro w
          exact nE (i y'.toNat (by omega))
        · apply Classical.byContradiction
          intro w
          exact nE (j y'.toNat (by omega) u1)
  · cases w : md f x y' with
    | false => rfl
    | true =>
      obtain ⟨u0, u1, u2⟩ := hA x y' w
      have z := (totr_z (f := f) y.toNat).mp (by omega)
      exact absurd (z y'.toNat u1) (dt_ex.mp ⟨x, u2⟩)
theorem mz_ne {f : Nat → Int64} {y tot top bot : Int} {low rest : Int64} (h : mzI f y tot low rest top bot) (ne : ∃ x, dt low rest x = true) : ¬ tot = 0 := by
  intro q
  obtain ⟨x, hx⟩ := ne
  obtain ⟨r, h1, h2⟩ := (h.2.1 x).mp hx
  have z := (totr_z (f := f) y.toNat).mp (by have := h.1; omega)
  exact absurd (z r h1) (dt_ex.mp ⟨x, h2⟩)
theorem cpy80 {f g : Nat → Int64} {k : Nat} (h : k < 80) : va_cpy f g (0 : Int32).toNatClampNeg (0 : Int32).toNatClampNeg (80 : Int32).toNatClampNeg k = f k := by
  unfold va_cpy
  rw [show (0 : Int32).toNatClampNeg = 0 from by decide +kernel, show (80 : Int32).toNatClampNeg = 80 from by decide +kernel, if_pos ⟨by omega, by omega⟩]
  congr 1; omega
/-! masks made out of others -/
def okm (w h : Int) (f : Nat → Int64) : Prop := (1 ≤ w ∧ w ≤ 100) ∧ (1 ≤ h ∧ h ≤ 40) ∧ mcl w h f
def mkd (Q : Nat → Nat → Option Nat) (I : Nat → Nat → Int32) (J : Nat → Nat → Int64) (a : Nat) (w h : Int32) (D : Int → Int → Bool) : Prop := I a 0 = w ∧ I a 1 = h ∧ isM (J (wo Q a)) D ∧ msr (J (wo Q a)) (I a 3).toInt (I a 4).toInt (I a 5).toInt (I a 6).toInt (I a 7).toInt
def rws (f : Nat → Int64) (D : Int → Int → Bool) (k : Int) : Prop := ∀ x y : Int, md f x y = (decide (0 ≤ y ∧ y < k) && D x y)
theorem md_z {f : Nat → Int64} (h : ∀ k, k < 80 → f k = 0) (x y : Int) : md f x y = false := by
  unfold md
  split
  · rfl
  · rw [h _ (by omega), h _ (by omega), dt_z]
theorem rws_0 {f : Nat → Int64} {D : Int → Int → Bool} {k : Int} (h : ∀ k, k < 80 → f k = 0) (hD : ∀ x y : Int, 0 ≤ y → y < k → D x y = false) : rws f D k := fun x y => by
  rw [md_z h]
  by_cases q : 0 ≤ y ∧ y < k
  · rw [hD x y q.1 q.2, Bool.and_false]
  · rw [decide_eq_false q]; rfl
theorem rws_step {f f1 f2 : Nat → Int64} {D : Int → Int → Bool} {k k2 : Int} {a b : Int64} {r : Nat} (h : rws f D k) (h1 : ∀ j, f1 j = if j = 2 * r then a else f j) (h2 : ∀ j, f2 j = if j = 2 * r + 1 then b else f1 j) (hr : r < 40) (hk : k = (r : Int)) (hk2 : k2 = k + 1) (hd : ∀ x, dt a b x = D x (r : Int)) : rws f2 D k2 := fun x y => by
  rw [md_upd2 h1 h2 hr]
  by_cases q : y = (r : Int)
  · rw [if_pos q, hd, q, decide_eq_true (by omega)]; rfl
  · rw [if_neg q, h x y]
    congr 1
    exact decide_eq_decide.mpr (by omega)
theorem mk_fin {Q : Nat → Nat → Option Nat} {I1 Ia : Nat → Nat → Int32} {J1 : Nat → Nat → Int64} {a : Nat} {w h : Int32} {D : Int → Int → Bool} {k : Int} (h0 : I1 a 0 = Ia a 0) (h1 : I1 a 1 = Ia a 1) (e0 : Ia a 0 = w) (e1 : Ia a 1 = h) (hr : rws (J1 (wo Q a)) D k) (hz : ∀ x y, k ≤ y → D x y = false) (hD : ∀ x y, D x y = true → x < w.toInt ∧ y < h.toInt) (hm : mcl (Ia a 0).toInt (Ia a 1).toInt (J1 (wo Q a)) → msr (J1 (wo Q a)) (I1 a 3).toInt (I1 a 4).toInt (I1 a 5).toInt (I1 a 6).toInt (I1 a 7).toInt) : mkd Q I1 J1 a w h D := by
  have e : ∀ x y : Int, 0 ≤ y → md (J1 (wo Q a)) x y = D x y := fun x y q => by
    rw [hr x y]
    rcases Int.lt_or_le y k with u | u
    · rw [decide_eq_true ⟨q, u⟩]; rfl
    · rw [hz x y u, Bool.and_false]
  refine ⟨h0.trans e0, h1.trans e1, fun x y _ _ q _ => e x y q, hm (fun x y q => ?_)⟩
  rw [e0, e1]
  have b := md_rng q
  rw [e x y b.2.1] at q
  exact hD x y q
theorem dt_of {u v : Int64} {P : Int → Bool} (hu : ∀ i : Nat, i < 64 → b64 u i = P (i : Int)) (hv : ∀ i : Nat, i < 64 → b64 v i = P ((i : Int) + 64)) (x : Int) : dt u v x = (decide (0 ≤ x ∧ x < 128) && P x) := by
  rcases Int.lt_or_le x 0 with a | a
  · rw [dt_lo a, decide_eq_false (by omega)]; rfl
  · rcases Int.lt_or_le x 128 with b | b
    · rw [decide_eq_true ⟨a, b⟩, Bool.true_and]
      rcases Int.lt_or_le x 64 with c | c
      · rw [dt_a a c, hu _ (by omega), show ((x.toNat : Nat) : Int) = x by omega]
      · rw [dt_b c, hv _ (by omega), show ((x.toNat - 64 : Nat) : Int) + 64 = x by omega]
    · rw [dt_hi b, decide_eq_false (by omega)]; rfl
theorem b64_dt {a b : Int64} {i : Nat} (h : i < 64) : b64 a i = dt a b (i : Int) := by rw [dt_a (by omega) (by omega)]; rfl
theorem b64_dh {a b : Int64} {i : Nat} : b64 b i = dt a b ((i : Int) + 64) := by rw [dt_b (by omega)]; congr 1
/-- one place to the right, to the left -/
theorem bl1 {a b s : Int64} (e : s = a <<< ((1 : Int32).toInt64 &&& 63)) {i : Nat} (h : i < 64) : b64 s i = dt a b ((i : Int) - 1) := by
  rw [b64_shl e (k := 1) (by decide +kernel) (by decide)]
  rcases Nat.lt_or_ge i 1 with q | q
  · rw [dt_lo (by omega)]; simp [q]
  · rw [dt_a (by omega) (by omega)]; simp only [h, decide_true, Bool.true_and, show ¬ i < 1 by omega, decide_false, Bool.not_false]; congr 1; omega
theorem br1 {a b s t : Int64} (e : s = (a.toUInt64 >>> ((1 : Int32).toInt64.toUInt64 &&& Int64.toUInt64 63)).toInt64) (e2 : t = b <<< ((63 : Int32).toInt64 &&& 63)) {i : Nat} (h : i < 64) : (b64 s i || b64 t i) = dt a b ((i : Int) + 1) := by
  rw [b64_shr e (k := 1) (by decide +kernel) (by decide), b64_shl e2 (k := 63) (by decide +kernel) (by decide)]
  rcases Nat.lt_or_ge i 63 with q | q
  · rw [dt_a (by omega) (by omega)]; simp only [q, decide_true, Bool.not_true, Bool.and_false, Bool.false_and, Bool.or_false]; congr 1
  · obtain rfl : i = 63 := by omega
    rw [dt_b (by omega), b64_ge (x := a) (by omega)]; simp
theorem hl1 {a b s t : Int64} (e : s = b <<< ((1 : Int32).toInt64 &&& 63)) (e2 : t = (a.toUInt64 >>> ((63 : Int32).toInt64.toUInt64 &&& Int64.toUInt64 63)).toInt64) {i : Nat} (h : i < 64) : (b64 s i || b64 t i) = dt a b ((i : Int) + 63) := by
  rw [b64_shl e (k := 1) (by decide +kernel) (by decide), b64_shr e2 (k := 63) (by decide +kernel) (by decide)]
  rcases Nat.lt_or_ge i 1 with q | q
  · obtain rfl : i = 0 := by omega
    rw [dt_a (by omega) (by omega)]; simp
  · rw [dt_b (by omega), b64_ge (x := a) (by omega)]; simp only [h, decide_true, Bool.true_and, show ¬ i < 1 by omega, decide_false, Bool.not_false, Bool.or_false]; congr 1
theorem hr1 {a b s : Int64} (e : s = (b.toUInt64 >>> ((1 : Int32).toInt64.toUInt64 &&& Int64.toUInt64 63)).toInt64) {i : Nat} : b64 s i = dt a b ((i : Int) + 65) := by
  rw [b64_shr e (k := 1) (by decide +kernel) (by decide), dt_b (by omega)]; congr 1
/-- a mask with its neighbours -/
def gr3 (f : Nat → Int64) (x y : Int) : Bool := md f x y || md f (x - 1) y || md f (x + 1) y
def growD (w h : Int) (f : Nat → Int64) (x y : Int) : Bool := decide (0 ≤ x ∧ x < w ∧ 0 ≤ y ∧ y < h) && (gr3 f x y || md f x (y - 1) || md f x (y + 1))
def thinD (f : Nat → Int64) (x y : Int) : Bool := md f x y && md f (x - 1) y && md f (x + 1) y && md f x (y - 1) && md f x (y + 1)
theorem growD_in {w h : Int} {f : Nat → Int64} (x y : Int) (q : growD w h f x y = true) : x < w ∧ y < h := by
  unfold growD at q
  rw [Bool.and_eq_true, decide_eq_true_iff] at q
  omega
theorem growD_hi {w h k : Int} {f : Nat → Int64} (hk : h ≤ k) (x y : Int) (q : k ≤ y) : growD w h f x y = false := by
  unfold growD
  rw [decide_eq_false (by omega)]; rfl
theorem gr_lo {a b s1 o1 s2 o2 s3 z : Int64} (e44 : s1 = a <<< ((1 : Int32).toInt64 &&& 63)) (e45 : o1 = a ||| s1) (e48 : s2 = (a.toUInt64 >>> ((1 : Int32).toInt64.toUInt64 &&& Int64.toUInt64 63)).toInt64) (e49 : o2 = o1 ||| s2) (e54 : s3 = b <<< ((63 : Int32).toInt64 &&& 63)) (e55 : z = o2 ||| s3) {i : Nat} (hi : i < 64) : b64 z i = (dt a b (i : Int) || dt a b ((i : Int) - 1) || dt a b ((i : Int) + 1)) := by
  rw [b64_or e55, b64_or e49, Bool.or_assoc, br1 e48 e54 hi, b64_or e45, bl1 (b := b) e44 hi, b64_dt (b := b) hi]
theorem gr_hi {a b s1 o1 s2 o2 s3 z : Int64} (e63 : s1 = b <<< ((1 : Int32).toInt64 &&& 63)) (e64 : o1 = b ||| s1) (e68 : s2 = (a.toUInt64 >>> ((63 : Int32).toInt64.toUInt64 &&& Int64.toUInt64 63)).toInt64) (e69 : o2 = o1 ||| s2) (e73 : s3 = (b.toUInt64 >>> ((1 : Int32).toInt64.toUInt64 &&& Int64.toUInt64 63)).toInt64) (e74 : z = o2 ||| s3) {i : Nat} (hi : i < 64) : b64 z i = (dt a b ((i : Int) + 64) || dt a b ((i : Int) + 64 - 1) || dt a b ((i : Int) + 64 + 1)) := by
  rw [show (i : Int) + 64 - 1 = (i : Int) + 63 by omega, show (i : Int) + 64 + 1 = (i : Int) + 65 by omega, b64_or e74, b64_or e69, b64_or e64, Bool.or_assoc (b64 b i), hl1 e63 e68 hi, hr1 (a := a) e73, b64_dh (a := a)]
theorem md_row {f : Nat → Int64} {a b : Int64} {r : Nat} (hr : r < 40) (ha : a = f (2 * r)) (hb : b = f (2 * r + 1)) (x : Int) : md f x (r : Int) = dt a b x := by
  rw [md_in (by omega) (by omega), Int.toNat_natCast, ha, hb]
theorem gr3_row {f : Nat → Int64} {a b : Int64} {r : Nat} (hr : r < 40) (ha : a = f (2 * r)) (hb : b = f (2 * r + 1)) (x : Int) : gr3 f x (r : Int) = (dt a b x || dt a b (x - 1) || dt a b (x + 1)) := by
  unfold gr3
  rw [md_row hr ha hb, md_row hr ha hb, md_row hr ha hb]
/-- a row grown: the words as they are laid -/
theorem gr_row {w h : Int} {f : Nat → Int64} {r : Nat} {l7 r9 u v z1 z2 : Int64} (hl : ∀ i : Nat, i < 64 → b64 l7 i = (gr3 f (i : Int) (r : Int) || md f (i : Int) ((r : Int) - 1) || md f (i : Int) ((r : Int) + 1))) (hr : ∀ i : Nat, i < 64 → b64 r9 i = (gr3 f ((i : Int) + 64) (r : Int) || md f ((i : Int) + 64) ((r : Int) - 1) || md f ((i : Int) + 64) ((r : Int) + 1))) (hu : ∀ i : Nat, i < 64 → b64 u i = decide ((i : Int) < w)) (hv : ∀ i : Nat, i < 64 → b64 v i = decide ((i : Int) + 64 < w)) (e1 : z1 = l7 &&& u) (e2 : z2 = r9 &&& v) (hw : w ≤ 128) (hh : (r : Int) < h) (x : Int) : dt z1 z2 x = growD w h f x (r : Int) := by
  rw [dt_of (P := fun x => (gr3 f x (r : Int) || md f x ((r : Int) - 1) || md f x ((r : Int) + 1)) && decide (x < w)) (fun i hi => by rw [b64_and e1, hl i hi, hu i hi]) (fun i hi => by rw [b64_and e2, hr i hi, hv i hi])]
  unfold growD
  rcases Classical.em (0 ≤ x ∧ x < w) with q | q
  · rw [decide_eq_true (show 0 ≤ x ∧ x < 128 by omega), decide_eq_true (show 0 ≤ x ∧ x < w ∧ 0 ≤ (r : Int) ∧ (r : Int) < h by omega)]
    simp only [decide_eq_true q.2, Bool.and_true]
  · rw [decide_eq_false (show ¬ (0 ≤ x ∧ x < w ∧ 0 ≤ (r : Int) ∧ (r : Int) < h) by omega), Bool.false_and]
    rcases Classical.em (0 ≤ x) with p | p
    · simp only [decide_eq_false (show ¬ x < w by omega), Bool.and_false]
    · rw [decide_eq_false (show ¬ (0 ≤ x ∧ x < 128) by omega), Bool.false_and]
theorem thinD_in {w h : Int} {f : Nat → Int64} (c : mcl w h f) (x y : Int) (q : thinD f x y = true) : x < w ∧ y < h := by
  unfold thinD at q
  simp only [Bool.and_eq_true] at q
  exact c x y q.1.1.1.1
theorem thinD_hi {w h k : Int} {f : Nat → Int64} (c : mcl w h f) (hk : h ≤ k + 1) (x y : Int) (q : k ≤ y) : thinD f x y = false := by
  cases w : thinD f x y with
  | false => rfl
  | true =>
    unfold thinD at w
    simp only [Bool.and_eq_true] at w
    have := c x (y + 1) w.2
    omega
theorem thinD_0 {f : Nat → Int64} (x y : Int) (h : y ≤ 0) : thinD f x y = false := by
  unfold thinD
  rw [md_y (x := x) (y := y - 1) (by omega)]; simp
theorem th_row {f : Nat → Int64} {r : Nat} {a b pa pb na nb_ s51 o52 s55 s60 o61 o62 o71 z80 s94 s98 o99 o100 s104 o105 o114 z123 : Int64} (hr : 1 ≤ r ∧ r + 1 < 40) (ha : a = f (2 * r)) (hb : b = f (2 * r + 1)) (hpa : pa = f (2 * (r - 1))) (hpb : pb = f (2 * (r - 1) + 1)) (hna : na = f (2 * (r + 1))) (hnb : nb_ = f (2 * (r + 1) + 1))
    (e51 : s51 = a <<< ((1 : Int32).toInt64 &&& 63)) (e52 : o52 = a &&& s51) (e55 : s55 = (a.toUInt64 >>> ((1 : Int32).toInt64.toUInt64 &&& Int64.toUInt64 63)).toInt64) (e60 : s60 = b <<< ((63 : Int32).toInt64 &&& 63)) (e61 : o61 = s55 ||| s60) (e62 : o62 = o52 &&& o61) (e71 : o71 = o62 &&& pa) (e80 : z80 = o71 &&& na)
    (e94 : s94 = b <<< ((1 : Int32).toInt64 &&& 63)) (e98 : s98 = (a.toUInt64 >>> ((63 : Int32).toInt64.toUInt64 &&& Int64.toUInt64 63)).toInt64) (e99 : o99 = s94 ||| s98) (e100 : o100 = b &&& o99) (e104 : s104 = (b.toUInt64 >>> ((1 : Int32).toInt64.toUInt64 &&& Int64.toUInt64 63)).toInt64) (e105 : o105 = o100 &&& s104) (e114 : o114 = o105 &&& pb) (e123 : z123 = o114 &&& nb_) (x : Int) : dt z80 z123 x = thinD f x (r : Int) := by
  have m0 : ∀ x, md f x (r : Int) = dt a b x := md_row (by omega) ha hb
  have m1 : ∀ x, md f x ((r : Int) - 1) = dt pa pb x := fun x => by
    have q := md_row (f := f) (r := r - 1) (by omega) hpa hpb x
    rw [show (((r - 1 : Nat)) : Int) = (r : Int) - 1 by omega] at q; exact q
  have m2 : ∀ x, md f x ((r : Int) + 1) = dt na nb_ x := fun x => md_row (f := f) (r := r + 1) (by omega) hna hnb x
  rw [dt_of (P := fun x => dt a b x && dt a b (x - 1) && dt a b (x + 1) && dt pa pb x && dt na nb_ x) (fun i hi => by
    rw [b64_and e80, b64_and e71, b64_and e62, b64_or e61, br1 e55 e60 hi, b64_and e52, bl1 (b := b) e51 hi, b64_dt (a := a) (b := b) hi, b64_dt (a := pa) (b := pb) hi, b64_dt (a := na) (b := nb_) hi]) (fun i hi => by
    rw [b64_and e123, b64_and e114, b64_and e105, b64_and e100, b64_or e99, hl1 e94 e98 hi, hr1 (a := a) e104, b64_dh (a := a) (b := b), b64_dh (a := pa) (b := pb), b64_dh (a := na) (b := nb_), show (i : Int) + 64 - 1 = (i : Int) + 63 by omega, show (i : Int) + 64 + 1 = (i : Int) + 65 by omega])]
  unfold thinD
  rw [m0, m0, m0, m1, m2]
  rcases Classical.em (0 ≤ x ∧ x < 128) with q | q
  · rw [decide_eq_true q, Bool.true_and]
  · rw [decide_eq_false q, Bool.false_and]
    rcases Classical.em (x < 0) with p | p
    · rw [dt_lo (a := a) p]; rfl
    · rw [dt_hi (a := a) (x := x) (by omega)]; rfl
/-! joined, cropped, quartered, flipped -/
def jop (how : Int) (a b : Bool) : Bool := if how = 0 then a || b else if how = 1 then a && b else if how = 2 then a && !b else a ^^ b
theorem jop_ff (how : Int) : jop how false false = false := by unfold jop; split <;> try rfl
                                                               split <;> try rfl
                                                               split <;> rfl
def joinD (w h : Int) (f g : Nat → Int64) (dx dy how : Int) (x y : Int) : Bool := decide (0 ≤ x ∧ x < w ∧ 0 ≤ y ∧ y < h) && jop how (md f x y) (md g (x - dx) (y - dy))
theorem joinD_in {w h : Int} {f g : Nat → Int64} {dx dy how : Int} (x y : Int) (q : joinD w h f g dx dy how x y = true) : x < w ∧ y < h := by
  unfold joinD at q
  rw [Bool.and_eq_true, decide_eq_true_iff] at q
  omega
theorem joinD_hi {w h k : Int} {f g : Nat → Int64} {dx dy how : Int} (hk : h ≤ k) (x y : Int) (q : k ≤ y) : joinD w h f g dx dy how x y = false := by
  unfold joinD
  rw [decide_eq_false (by omega)]; rfl
theorem b64_not {x z : Int64} (e : z = x ^^^ -1) {i : Nat} (h : i < 64) : b64 z i = !b64 x i := by
  rw [b64_xor e, b64_m1 h, Bool.xor_true]
/-- a row joined -/
theorem jn_row {w h : Int} {f g : Nat → Int64} {dx dy how : Int} {r : Nat} {a b l7 r9 z1 z2 : Int64} (c : mcl w h f) (hr : r < 40) (hw : w ≤ 128) (hh : (r : Int) < h) (ha : a = f (2 * r)) (hb : b = f (2 * r + 1)) (hl : ∀ i : Nat, i < 64 → b64 l7 i = (md g ((i : Int) - dx) ((r : Int) - dy) && decide ((i : Int) < w))) (hv : ∀ i : Nat, i < 64 → b64 r9 i = (md g ((i : Int) + 64 - dx) ((r : Int) - dy) && decide ((i : Int) + 64 < w))) (e1 : ∀ i : Nat, i < 64 → b64 z1 i = jop how (b64 a i) (b64 l7 i)) (e2 : ∀ i : Nat, i < 64 → b64 z2 i = jop how (b64 b i) (b64 r9 i)) (x : Int) : dt z1 z2 x = joinD w h f g dx dy how x (r : Int) := by
  have m0 : ∀ x, md f x (r : Int) = dt a b x := md_row hr ha hb
  rw [dt_of (P := fun x => jop how (md f x (r : Int)) (md g (x - dx) ((r : Int) - dy) && decide (x < w))) (fun i hi => by rw [e1 i hi, hl i hi, m0, b64_dt (b := b) hi]) (fun i hi => by rw [e2 i hi, hv i hi, m0, b64_dh (a := a)])]
  unfold joinD
  rcases Classical.em (0 ≤ x ∧ x < w) with q | q
  · rw [decide_eq_true (show 0 ≤ x ∧ x < 128 by omega), decide_eq_true (show 0 ≤ x ∧ x < w ∧ 0 ≤ (r : Int) ∧ (r : Int) < h by omega)]
    simp only [decide_eq_true q.2, Bool.and_true, Bool.true_and]
  · rw [decide_eq_false (show ¬ (0 ≤ x ∧ x < w ∧ 0 ≤ (r : Int) ∧ (r : Int) < h) by omega), Bool.false_and]
    rcases Classical.em (0 ≤ x) with p | p
    · have e : md f x (r : Int) = false := by
        cases u : md f x (r : Int) with
        | false => rfl
        | true => have := (c _ _ u).1; omega
      simp only [decide_eq_false (show ¬ x < w by omega), Bool.and_false, e, jop_ff]
    · rw [decide_eq_false (show ¬ (0 ≤ x ∧ x < 128) by omega), Bool.false_and]
def cropD (l t r b : Int) (f : Nat → Int64) (x y : Int) : Bool := decide (0 ≤ x ∧ x ≤ r - l ∧ 0 ≤ y ∧ y ≤ b - t) && md f (x + l) (y + t)
theorem cropD_in {l t r b : Int} {f : Nat → Int64} {w h : Int} (hw : w = r - l + 1) (hh : h = b - t + 1) (x y : Int) (q : cropD l t r b f x y = true) : x < w ∧ y < h := by
  unfold cropD at q
  rw [Bool.and_eq_true, decide_eq_true_iff] at q
  omega
theorem cropD_hi {l t r b k : Int} {f : Nat → Int64} (hk : b - t + 1 ≤ k) (x y : Int) (q : k ≤ y) : cropD l t r b f x y = false := by
  unfold cropD
  rw [decide_eq_false (by omega)]; rfl
theorem cr_row {l t r b : Int} {f : Nat → Int64} {n k : Nat} {a c z1 z2 : Int64} (hn : n < 40) (hk : (n : Int) = (k : Int) + t) (hb : (k : Int) ≤ b - t) (ha : a = f (2 * n)) (hc : c = f (2 * n + 1)) (hx : ∀ x y, md f x y = true → x ≤ r) (e1 : ∀ i : Nat, i < 64 → b64 z1 i = dt a c ((i : Int) - -l)) (e2 : ∀ i : Nat, i < 64 → b64 z2 i = dt a c ((i : Int) + 64 - -l)) (hr : r - l < 128) (x : Int) : dt z1 z2 x = cropD l t r b f x (k : Int) := by
  have m0 : ∀ x, md f x (n : Int) = dt a c x := md_row hn ha hc
  rw [dt_of (P := fun x => md f (x + l) ((k : Int) + t)) (fun i hi => by rw [e1 i hi, ← hk, m0, Int.sub_neg]) (fun i hi => by rw [e2 i hi, ← hk, m0, Int.sub_neg])]
  unfold cropD
  rcases Classical.em (0 ≤ x ∧ x ≤ r - l) with q | q
  · rw [decide_eq_true (show 0 ≤ x ∧ x < 128 by omega), decide_eq_true (show 0 ≤ x ∧ x ≤ r - l ∧ 0 ≤ (k : Int) ∧ (k : Int) ≤ b - t by omega)]
  · rw [decide_eq_false (show ¬ (0 ≤ x ∧ x ≤ r - l ∧ 0 ≤ (k : Int) ∧ (k : Int) ≤ b - t) by omega), Bool.false_and]
    rcases Classical.em (0 ≤ x) with p | p
    · have e : md f (x + l) ((k : Int) + t) = false := by
        cases u : md f (x + l) ((k : Int) + t) with
        | false => rfl
        | true => have := hx _ _ u; omega
      rw [e, Bool.and_false]
    · rw [decide_eq_false (show ¬ (0 ≤ x ∧ x < 128) by omega), Bool.false_and]
def quarD (h : Int) (f : Nat → Int64) (x y : Int) : Bool := md f y (h - 1 - x)
theorem quarD_in {w h : Int} {f : Nat → Int64} (c : mcl w h f) (x y : Int) (q : quarD h f x y = true) : (0 ≤ x ∧ x < h) ∧ (0 ≤ y ∧ y < w) := by
  unfold quarD at q
  have a := md_rng q
  have b := c _ _ q
  omega
/-- the dots (y, h - 1 - x) ahead of row y0, place x0, are laid -/
def qrI (h : Int) (f g : Nat → Int64) (y0 x0 : Int) : Prop := ∀ x y : Int, md g x y = (quarD h f x y && decide (h - 1 - x < y0 ∨ (h - 1 - x = y0 ∧ y < x0)))
theorem qr_0 {w h : Int} {f g : Nat → Int64} (c : mcl w h f) (hz : ∀ k, k < 80 → g k = 0) : qrI h f g 0 0 := fun x y => by
  rw [md_z hz]
  cases q : quarD h f x y with
  | false => rfl
  | true =>
    have a := quarD_in c x y q
    rw [decide_eq_false (by omega)]; rfl
theorem qr_nl {w h y0 y1 x0 : Int} {f g : Nat → Int64} (c : mcl w h f) (hi : qrI h f g y0 x0) (hx : w ≤ x0) (hy : y1 = y0 + 1) : qrI h f g y1 0 := fun x y => by
  rw [hi x y]
  cases q : quarD h f x y with
  | false => rfl
  | true =>
    have a := quarD_in c x y q
    congr 1
    exact decide_eq_decide.mpr (by omega)
theorem qr_skip {h y0 x0 x1 : Int} {f g : Nat → Int64} (hi : qrI h f g y0 x0) (hx : x1 = x0 + 1) (hn : md f x0 y0 = false) : qrI h f g y0 x1 := fun x y => by
  rw [hi x y]
  by_cases e : h - 1 - x = y0 ∧ y = x0
  · have : quarD h f x y = false := by unfold quarD; rw [e.1, e.2]; exact hn
    rw [this, Bool.false_and, Bool.false_and]
  · congr 1
    exact decide_eq_decide.mpr (by omega)
theorem qr_put {h y0 x0 x1 a b : Int} {f g g1 : Nat → Int64} {P : Prop} [Decidable P] (hi : qrI h f g y0 x0) (hx : x1 = x0 + 1) (hn : md f x0 y0 = true) (ht : ∀ x y : Int, md g1 x y = (md g x y ^^ decide (P ∧ x = a ∧ y = b))) (hP : P) (ha : a = h - 1 - y0) (hb : b = x0) : qrI h f g1 y0 x1 := fun x y => by
  rw [ht, hi x y]
  by_cases e : x = a ∧ y = b
  · have q : quarD h f x y = true := by unfold quarD; rw [e.1, e.2, ha, hb, show h - 1 - (h - 1 - y0) = y0 by omega]; exact hn
    rw [q, decide_eq_false (by omega), decide_eq_true ⟨hP, e⟩, decide_eq_true (by omega)]; rfl
  · rw [decide_eq_false (show ¬ (P ∧ x = a ∧ y = b) from fun w => e w.2), Bool.xor_false]
    congr 1
    exact decide_eq_decide.mpr (by omega)
theorem qr_fin {w h y0 : Int} {f g : Nat → Int64} (c : mcl w h f) (hi : qrI h f g y0 0) (hy : h ≤ y0) (x y : Int) : md g x y = quarD h f x y := by
  rw [hi x y]
  cases q : quarD h f x y with
  | false => rfl
  | true =>
    have a := quarD_in c x y q
    rw [decide_eq_true (by omega)]; rfl
def flx (w fl x : Int) : Int := if fl % 2 = 1 then w - 1 - x else x
def fly (h fl y : Int) : Int := if 2 ≤ fl then h - 1 - y else y
def flipD (w h fl : Int) (f : Nat → Int64) (x y : Int) : Bool := decide (0 ≤ x ∧ x < w ∧ 0 ≤ y ∧ y < h) && md f (flx w fl x) (fly h fl y)
theorem flipD_in {w h fl : Int} {f : Nat → Int64} (x y : Int) (q : flipD w h fl f x y = true) : x < w ∧ y < h := by
  unfold flipD at q
  rw [Bool.and_eq_true, decide_eq_true_iff] at q
  omega
theorem flipD_hi {w h fl k : Int} {f : Nat → Int64} (hk : h ≤ k) (x y : Int) (q : k ≤ y) : flipD w h fl f x y = false := by
  unfold flipD
  rw [decide_eq_false (by omega)]; rfl
theorem flipD_0 {w h : Int} {f : Nat → Int64} (c : mcl w h f) (x y : Int) (hx : 0 ≤ x) (hy : 0 ≤ y) : md f x y = flipD w h 0 f x y := by
  unfold flipD flx fly
  rw [if_neg (by decide), if_neg (by decide)]
  cases q : md f x y with
  | false => rw [Bool.and_false]
  | true =>
    have a := c _ _ q
    rw [decide_eq_true (by omega)]; rfl
theorem and2 {x z : Int32} (e : z = x &&& 2) (h : 0 ≤ x.toInt ∧ x.toInt ≤ 3) : z.toInt = 0 ↔ x.toInt < 2 := by
  obtain ⟨k, hk, rfl⟩ := nI_10 (n := 3) (by decide) h.1 h.2
  have key : ∀ k : Fin 4, (nI k.1 &&& 2).toInt = 0 ↔ (nI k.1).toInt < 2 := by decide +kernel
  rw [e]; exact key ⟨k, by omega⟩
theorem and1 {x z : Int32} (e : z = x &&& 1) (h : 0 ≤ x.toInt ∧ x.toInt ≤ 3) : z.toInt = x.toInt % 2 := by
  obtain ⟨k, hk, rfl⟩ := nI_10 (n := 3) (by decide) h.1 h.2
  have key : ∀ k : Fin 4, (nI k.1 &&& 1).toInt = (nI k.1).toInt % 2 := by decide +kernel
  rw [e]; exact key ⟨k, by omega⟩
/-! a word turned round -/
def swp (s i : Nat) : Nat := if i / s % 2 = 0 then i + s else i - s
theorem rv_st {x M t1 t2 t3 t4 z : Int64} {c : Int32} {s : Nat} (e1 : t1 = x &&& M) (e2 : t2 = t1 <<< (c.toInt64 &&& 63)) (e3 : t3 = (x.toUInt64 >>> (c.toInt64.toUInt64 &&& Int64.toUInt64 63)).toInt64) (e4 : t4 = t3 &&& M) (e5 : z = t2 ||| t4) (hc : c.toInt = (s : Int)) (hs : s < 64) (hs0 : 0 < s) (hM : ∀ i : Fin 64, b64 M i.1 = decide (i.1 / s % 2 = 0)) (hp : ∀ i : Fin 64, (i.1 / s % 2 = 0 → i.1 + s < 64) ∧ (i.1 / s % 2 = 1 → s ≤ i.1 ∧ (i.1 - s) / s % 2 = 0)) {i : Nat} (hi : i < 64) : b64 z i = b64 x (swp s i) := by
  rw [b64_or e5, b64_shl e2 hc hs, b64_and e4, b64_shr e3 hc hs, hM ⟨i, hi⟩]
  unfold swp
  have p : (i / s % 2 = 0 → i + s < 64) ∧ (i / s % 2 = 1 → s ≤ i ∧ (i - s) / s % 2 = 0) := hp ⟨i, hi⟩
  rcases (show i / s % 2 = 0 ∨ i / s % 2 = 1 by omega) with q | q
  · rw [if_pos q]
    have a := p.1 q
    have nb : (decide (i < 64) && !decide (i < s) && b64 t1 (i - s)) = false := by
      rcases Nat.lt_or_ge i s with w | w
      · simp [w]
      · have hl := hM ⟨i - s, by omega⟩
        have e : ¬ (i - s) / s % 2 = 0 := by
          intro z
          have : i / s = (i - s) / s + 1 := by
            have := Nat.add_div_right (i - s) hs0
            rw [Nat.sub_add_cancel w] at this; exact this
          omega
        rw [b64_and e1, hl, decide_eq_false e]; simp
    rw [nb, Bool.false_or, decide_eq_true q, Bool.and_true]
  · rw [if_neg (by omega)]
    obtain ⟨a, b⟩ := p.2 q
    rw [decide_eq_false (show ¬ i / s % 2 = 0 by omega), Bool.and_false, Bool.or_false, b64_and e1, hM ⟨i - s, by omega⟩, decide_eq_true b]
    simp [hi, show ¬ i < s by omega]
theorem rv_end {x t2 t3 z : Int64} (e2 : t2 = x <<< ((32 : Int32).toInt64 &&& 63)) (e3 : t3 = (x.toUInt64 >>> ((32 : Int32).toInt64.toUInt64 &&& Int64.toUInt64 63)).toInt64) (e5 : z = t2 ||| t3) {i : Nat} (hi : i < 64) : b64 z i = b64 x (swp 32 i) := by
  rw [b64_or e5, b64_shl e2 (k := 32) (by decide +kernel) (by decide), b64_shr e3 (k := 32) (by decide +kernel) (by decide)]
  unfold swp
  rcases Nat.lt_or_ge i 32 with q | q
  · rw [if_pos (by omega)]; simp [q]
  · rw [if_neg (by omega), b64_ge (x := x) (i := i + 32) (by omega)]; simp [hi, show ¬ i < 32 by omega]
theorem swp_all : ∀ i : Fin 64, swp 1 (swp 2 (swp 4 (swp 8 (swp 16 (swp 32 i.1))))) = 63 - i.1 := by decide +kernel
theorem swp_lt : ∀ i : Fin 64, swp 32 i.1 < 64 ∧ swp 16 i.1 < 64 ∧ swp 8 i.1 < 64 ∧ swp 4 i.1 < 64 ∧ swp 2 i.1 < 64 := by decide +kernel
theorem rv_all {x y1 y2 y3 y4 y5 z : Int64} (h1 : ∀ i, i < 64 → b64 y1 i = b64 x (swp 1 i)) (h2 : ∀ i, i < 64 → b64 y2 i = b64 y1 (swp 2 i)) (h3 : ∀ i, i < 64 → b64 y3 i = b64 y2 (swp 4 i)) (h4 : ∀ i, i < 64 → b64 y4 i = b64 y3 (swp 8 i)) (h5 : ∀ i, i < 64 → b64 y5 i = b64 y4 (swp 16 i)) (h6 : ∀ i, i < 64 → b64 z i = b64 y5 (swp 32 i)) (i : Nat) (hi : i < 64) : b64 z i = b64 x (63 - i) := by
  have a := (swp_lt ⟨i, hi⟩).1
  have b := (swp_lt ⟨_, a⟩).2.1
  have c := (swp_lt ⟨_, b⟩).2.2.1
  have d := (swp_lt ⟨_, c⟩).2.2.2.1
  have e := (swp_lt ⟨_, d⟩).2.2.2.2
  rw [h6 i hi, h5 _ a, h4 _ b, h3 _ c, h2 _ d, h1 _ e]
  exact congrArg _ (swp_all ⟨i, hi⟩)
theorem dt_rev {a b ra rb : Int64} (h1 : ∀ i, i < 64 → b64 ra i = b64 a (63 - i)) (h2 : ∀ i, i < 64 → b64 rb i = b64 b (63 - i)) (x : Int) : dt rb ra x = dt a b (127 - x) := by
  rcases Int.lt_or_le x 0 with p | p
  · rw [dt_lo p, dt_hi (by omega)]
  · rcases Int.lt_or_le x 64 with q | q
    · rw [dt_a p q, dt_b (by omega), h2 _ (by omega)]; congr 1; omega
    · rcases Int.lt_or_le x 128 with u | u
      · rw [dt_b q, dt_a (by omega) (by omega), h1 _ (by omega)]; congr 1; omega
      · rw [dt_hi u, dt_lo (by omega)]
theorem fl_row0 {w h fl : Int} {f : Nat → Int64} {r n : Nat} {a b : Int64} (c : mcl w h f) (hn : n < 40) (hr : (r : Int) < h) (ha : a = f (2 * n)) (hb : b = f (2 * n + 1)) (hy : (n : Int) = fly h fl (r : Int)) (hf : fl % 2 = 0) (x : Int) : dt a b x = flipD w h fl f x (r : Int) := by
  unfold flipD flx
  rw [if_neg (by omega), ← hy, md_row hn ha hb]
  cases q : dt a b x with
  | false => rw [Bool.and_false]
  | true =>
    have e := md_row (f := f) hn ha hb x
    rw [q] at e
    have m := md_rng e
    have m2 := c _ _ e
    rw [decide_eq_true (by omega)]; rfl
theorem fl_row1 {w h fl s : Int} {f : Nat → Int64} {r n : Nat} {a b ra rb z1 z2 : Int64} (hw : w ≤ 128) (hn : n < 40) (hr : (r : Int) < h) (ha : a = f (2 * n)) (hb : b = f (2 * n + 1)) (hy : (n : Int) = fly h fl (r : Int)) (hf : fl % 2 = 1) (h1 : ∀ i, i < 64 → b64 ra i = b64 a (63 - i)) (h2 : ∀ i, i < 64 → b64 rb i = b64 b (63 - i)) (hs : s = w - 128) (e1 : ∀ i : Nat, i < 64 → b64 z1 i = dt rb ra ((i : Int) - s)) (e2 : ∀ i : Nat, i < 64 → b64 z2 i = dt rb ra ((i : Int) + 64 - s)) (x : Int) : dt z1 z2 x = flipD w h fl f x (r : Int) := by
  unfold flipD flx
  rw [if_pos hf, ← hy, md_row hn ha hb, dt_of (P := fun x => dt a b (w - 1 - x)) (fun i hi => by rw [e1 i hi, dt_rev h1 h2]; congr 1; omega) (fun i hi => by rw [e2 i hi, dt_rev h1 h2]; congr 1; omega)]
  rcases Classical.em (0 ≤ x ∧ x < w) with q | q
  · rw [decide_eq_true (show 0 ≤ x ∧ x < 128 by omega), decide_eq_true (show 0 ≤ x ∧ x < w ∧ 0 ≤ (r : Int) ∧ (r : Int) < h by omega)]
  · rw [decide_eq_false (show ¬ (0 ≤ x ∧ x < w ∧ 0 ≤ (r : Int) ∧ (r : Int) < h) by omega), Bool.false_and]
    rcases Classical.em (0 ≤ x) with p | p
    · rw [dt_lo (show w - 1 - x < 0 by omega), Bool.and_false]
    · rw [decide_eq_false (show ¬ (0 ≤ x ∧ x < 128) by omega), Bool.false_and]
theorem msr_congr {f g : Nat → Int64} (h : ∀ k, k < 80 → f k = g k) {a b c d e : Int} (q : msr f a b c d e) : msr g a b c d e := by
  have m : ∀ x y, md f x y = md g x y := md_congr h
  have t : ∀ n, n ≤ 40 → totr f n = totr g n := by
    intro n
    induction n with
    | zero => intro _; rfl
    | succ n ih =>
      intro hn
      show totr f n + (nb (f (2 * n)) + nb (f (2 * n + 1))) = totr g n + (nb (g (2 * n)) + nb (g (2 * n + 1)))
      rw [ih (by omega), h _ (by omega), h _ (by omega)]
  unfold msr at q ⊢
  rw [t 40 (Nat.le_refl _)] at q
  simp only [m] at q
  exact q
/-- a copy of a mask -/
theorem mk_cpy {Q : Nat → Nat → Option Nat} {I I1 : Nat → Nat → Int32} {J J1 : Nat → Nat → Int64} {a b : Nat} {D : Int → Int → Bool} (hi : ∀ k, k < 8 → ¬ k = 2 → I1 a k = I b k) (hj : ∀ k, k < 80 → J1 (wo Q a) k = J (wo Q b) k) (hD : ∀ x y : Int, 0 ≤ x → 0 ≤ y → md (J (wo Q b)) x y = D x y) (hm : msr (J (wo Q b)) (I b 3).toInt (I b 4).toInt (I b 5).toInt (I b 6).toInt (I b 7).toInt) : mkd Q I1 J1 a (I b 0) (I b 1) D := by
  refine ⟨hi 0 (by decide) (by decide), hi 1 (by decide) (by decide), fun x y h0 _ h2 _ => by rw [md_congr hj, hD x y h0 h2], ?_⟩
  rw [hi 3 (by decide) (by decide), hi 4 (by decide) (by decide), hi 5 (by decide) (by decide), hi 6 (by decide) (by decide), hi 7 (by decide) (by decide)]
  exact msr_congr (fun k hk => (hj k hk).symm) hm
theorem wo_g {L : List Nat} {K G : Nat → Nat} {Q : Nat → Nat → Option Nat} {a : Nat} (hQ : Sv L K G Q) (hL : a ∈ L) (hK : K a = 3) : wo Q a ∈ L ∧ K (wo Q a) = 12 ∧ G (wo Q a) = G a := by
  obtain ⟨u, e, l, k, g⟩ := oQ_3_2 (Sv_at hQ hL hK)
  rw [wo_of e]; exact ⟨l, k, g⟩
theorem rws_of {f : Nat → Int64} {D : Int → Int → Bool} (h : ∀ x y, md f x y = D x y) : rws f D 40 := fun x y => by
  rw [← h]
  cases q : md f x y with
  | false => rw [Bool.and_false]
  | true =>
    have a := md_rng q
    rw [decide_eq_true (by omega)]; rfl
theorem rws_oz {f : Nat → Int64} {D : Int → Int → Bool} (h : ∀ x y, md f x y = D x y) (x y : Int) (q : 40 ≤ y) : D x y = false := by rw [← h]; exact md_y (by omega)
/-! Fields: what they hold, in the class -/
abbrev Fx := (Nat → Int32) × (Nat → Int64)
def mo (d : Nat → Int64) (m : Nat) : Nat → Int64 := fun k => d (80 * m + k)
def fm (Q : Nat → Nat → Option Nat) (F i : Nat) : Nat := (Q ((Q F 0).getD 0) i).getD 0
def fb (Q : Nat → Nat → Option Nat) (F i : Nat) : Nat := (Q ((Q F 1).getD 0) i).getD 0
def sm (Q : Nat → Nat → Option Nat) (S i : Nat) : Nat := (Q ((Q S 1).getD 0) i).getD 0
theorem fm_of {Q : Nat → Nat → Option Nat} {F i y a : Nat} (e1 : Q F 0 = some y) (e2 : Q y i = some a) : fm Q F i = a := by unfold fm; rw [e1]; show (Q y i).getD 0 = a; rw [e2]; rfl
theorem fb_of {Q : Nat → Nat → Option Nat} {F i y a : Nat} (e1 : Q F 1 = some y) (e2 : Q y i = some a) : fb Q F i = a := by unfold fb; rw [e1]; show (Q y i).getD 0 = a; rw [e2]; rfl
theorem sm_of {Q : Nat → Nat → Option Nat} {F i y a : Nat} (e1 : Q F 1 = some y) (e2 : Q y i = some a) : sm Q F i = a := fb_of e1 e2
section FM
variable {L : List Nat} {K G : Nat → Nat} {Q : Nat → Nat → Option Nat} {F S i j : Nat}
theorem fm_g (hQ : Sv L K G Q) (hL : F ∈ L) (hK : K F = 1) (hi : i < 8) : fm Q F i ∈ L ∧ K (fm Q F i) = 3 ∧ G (fm Q F i) = 100 * G F + i := by
  obtain ⟨y, e, l, k, g⟩ := oQ_1_0 (Sv_at hQ hL hK)
  obtain ⟨a, e2, l2, k2, g2⟩ := (Sv_at hQ l k).1 i hi
  rw [fm_of e e2]; exact ⟨l2, k2, by rw [g2, g]⟩
theorem fb_g (hQ : Sv L K G Q) (hL : F ∈ L) (hK : K F = 1) (hi : i < 10) : fb Q F i ∈ L ∧ K (fb Q F i) = 0 ∧ G (fb Q F i) = G F := by
  obtain ⟨y, e, l, k, g⟩ := oQ_1_1 (Sv_at hQ hL hK)
  obtain ⟨a, e2, l2, k2, g2⟩ := (Sv_at hQ l k).1 i hi
  rw [fb_of e e2]; exact ⟨l2, k2, by rw [g2, g]⟩
theorem fb_inj (hQ : Sv L K G Q) (hL : F ∈ L) (hK : K F = 1) (hi : i < 10) (hj : j < 10) (h : fb Q F i = fb Q F j) : i = j := by
  obtain ⟨y, e, l, k, g⟩ := oQ_1_1 (Sv_at hQ hL hK)
  obtain ⟨a, e2, -⟩ := (Sv_at hQ l k).1 i hi
  obtain ⟨b, e3, -⟩ := (Sv_at hQ l k).1 j hj
  rw [fb_of e e2, fb_of e e3] at h
  exact (Sv_at hQ l k).2 i j hi hj (by rw [e2, e3, h])
theorem sm_g (hQ : Sv L K G Q) (hL : S ∈ L) (hK : K S = 5) (hi : i < 10) : sm Q S i ∈ L ∧ K (sm Q S i) = 3 ∧ G (sm Q S i) = 200 + i := by
  obtain ⟨y, e, l, k, g⟩ := oQ_5_1 (Sv_at hQ hL hK)
  obtain ⟨a, e2, l2, k2, g2⟩ := (Sv_at hQ l k).1 i hi
  rw [sm_of e e2]; exact ⟨l2, k2, by rw [g2, g]⟩
end FM
/-- a mask that holds these words, measured -/
def cxM (Q : Nat → Nat → Option Nat) (I : Nat → Nat → Int32) (J : Nat → Nat → Int64) (a : Nat) (w h : Int32) (f : Nat → Int64) : Prop := I a 0 = w ∧ I a 1 = h ∧ (∀ k, k < 80 → J (wo Q a) k = f k) ∧ msr f (I a 3).toInt (I a 4).toInt (I a 5).toInt (I a 6).toInt (I a 7).toInt
theorem cxM_mk {Q : Nat → Nat → Option Nat} {I : Nat → Nat → Int32} {J : Nat → Nat → Int64} {a : Nat} {w h : Int32} {D : Int → Int → Bool} (q : mkd Q I J a w h D) : cxM Q I J a w h (mkw D) := ⟨q.1, q.2.1, mkw_of q.2.2.1, msr_congr (mkw_of q.2.2.1) q.2.2.2⟩
theorem mcl_congr {f g : Nat → Int64} (h : ∀ k, k < 80 → f k = g k) {w e : Int} (q : mcl w e f) : mcl w e g := fun x y z => q x y (by rw [md_congr h]; exact z)
theorem cxM_ok {Q : Nat → Nat → Option Nat} {I : Nat → Nat → Int32} {J : Nat → Nat → Int64} {a : Nat} {w h : Int32} {f : Nat → Int64} (q : cxM Q I J a w h f) (ok : okm w.toInt h.toInt f) : okm (I a 0).toInt (I a 1).toInt (J (wo Q a)) ∧ msr (J (wo Q a)) (I a 3).toInt (I a 4).toInt (I a 5).toInt (I a 6).toInt (I a 7).toInt := by
  rw [q.1, q.2.1]
  exact ⟨⟨ok.1, ok.2.1, mcl_congr (fun k hk => (q.2.2.1 k hk).symm) ok.2.2⟩, msr_congr (fun k hk => (q.2.2.1 k hk).symm) q.2.2.2⟩
def cxF (Q : Nat → Nat → Option Nat) (I : Nat → Nat → Int32) (J : Nat → Nat → Int64) (F : Nat) (c : Fx) : Prop := I F 2 = c.1 0 ∧ I F 3 = c.1 1 ∧ I F 4 = c.1 2 ∧ (∀ i : Nat, i < (c.1 0).toInt.toNat → cxM Q I J (fm Q F i) (c.1 (3 + i)) (c.1 (11 + i)) (mo c.2 i)) ∧ ∀ i : Nat, i < (c.1 1).toInt.toNat → ∀ k : Nat, k < 8 → I (fb Q F i) k = c.1 (19 + 8 * i + k)
/-- a body: its mask is there, all is within bounds -/
def bdok (c : Nat → Int32) (b : Nat) : Prop := (0 ≤ (c (19 + 8 * b)).toInt ∧ (c (19 + 8 * b)).toInt < (c 0).toInt) ∧ (-999 ≤ (c (19 + 8 * b + 1)).toInt ∧ (c (19 + 8 * b + 1)).toInt ≤ 999) ∧ (-999 ≤ (c (19 + 8 * b + 2)).toInt ∧ (c (19 + 8 * b + 2)).toInt ≤ 999) ∧ (0 ≤ (c (19 + 8 * b + 3)).toInt ∧ (c (19 + 8 * b + 3)).toInt ≤ 3) ∧ (0 ≤ (c (19 + 8 * b + 4)).toInt ∧ (c (19 + 8 * b + 4)).toInt ≤ 15) ∧ (0 ≤ (c (19 + 8 * b + 5)).toInt ∧ (c (19 + 8 * b + 5)).toInt ≤ 15) ∧ (-20 ≤ (c (19 + 8 * b + 6)).toInt ∧ (c (19 + 8 * b + 6)).toInt ≤ 20) ∧ (-20 ≤ (c (19 + 8 * b + 7)).toInt ∧ (c (19 + 8 * b + 7)).toInt ≤ 20)
def okF (c : Fx) : Prop := (0 ≤ (c.1 0).toInt ∧ (c.1 0).toInt ≤ 8) ∧ (0 ≤ (c.1 1).toInt ∧ (c.1 1).toInt ≤ 10) ∧ (∀ i : Nat, i < (c.1 0).toInt.toNat → okm (c.1 (3 + i)).toInt (c.1 (11 + i)).toInt (mo c.2 i)) ∧ ∀ b : Nat, b < (c.1 1).toInt.toNat → bdok c.1 b
/-- a body as it lies: its mask's number, size, dots -/
def bw_ (c : Fx) (b : Nat) : Int32 := c.1 (3 + (c.1 (19 + 8 * b)).toInt.toNat)
def bh_ (c : Fx) (b : Nat) : Int32 := c.1 (11 + (c.1 (19 + 8 * b)).toInt.toNat)
def shp (c : Fx) (b : Nat) : Int → Int → Bool := flipD (bw_ c b).toInt (bh_ c b).toInt (c.1 (19 + 8 * b + 3)).toInt (mo c.2 (c.1 (19 + 8 * b)).toInt.toNat)
def cxS (Q : Nat → Nat → Option Nat) (I : Nat → Nat → Int32) (J : Nat → Nat → Int64) (S : Nat) (c : Fx) : Prop := ∀ i : Nat, i < (c.1 1).toInt.toNat → cxM Q I J (sm Q S i) (bw_ c i) (bh_ c i) (mkw (shp c i))
section CF
variable {L L1 : List Nat} {K K1 G G1 : Nat → Nat} {Q Q1 : Nat → Nat → Option Nat} {I I1 : Nat → Nat → Int32} {J J1 : Nat → Nat → Int64} {F S : Nat} {c : Fx}
theorem ext_q (hE : extW L K G Q L1 K1 G1 Q1) {y κ : Nat} (hL : y ∈ L) (hK : K y = κ) (h1 : ¬ κ = 16) (h2 : ¬ κ = 17) : Q1 y = Q y := (hE y hL).2.2.2 (by rw [hK]; exact h1) (by rw [hK]; exact h2)
theorem ext_wo (hQ : Sv L K G Q) (hE : extW L K G Q L1 K1 G1 Q1) {a : Nat} (hL : a ∈ L) (hK : K a = 3) : wo Q1 a = wo Q a := by unfold wo; rw [ext_q hE hL hK (by decide) (by decide)]
theorem ext_fm (hQ : Sv L K G Q) (hE : extW L K G Q L1 K1 G1 Q1) (hL : F ∈ L) (hK : K F = 1) (i : Nat) : fm Q1 F i = fm Q F i := by
  obtain ⟨y, e, l, k, g⟩ := oQ_1_0 (Sv_at hQ hL hK)
  unfold fm
  rw [ext_q hE hL hK (by decide) (by decide), e]
  show (Q1 y i).getD 0 = (Q y i).getD 0
  rw [ext_q hE l k (by decide) (by decide)]
theorem ext_fb (hQ : Sv L K G Q) (hE : extW L K G Q L1 K1 G1 Q1) (hL : F ∈ L) (hK : K F = 1) (i : Nat) : fb Q1 F i = fb Q F i := by
  obtain ⟨y, e, l, k, g⟩ := oQ_1_1 (Sv_at hQ hL hK)
  unfold fb
  rw [ext_q hE hL hK (by decide) (by decide), e]
  show (Q1 y i).getD 0 = (Q y i).getD 0
  rw [ext_q hE l k (by decide) (by decide)]
theorem ext_sm (hQ : Sv L K G Q) (hE : extW L K G Q L1 K1 G1 Q1) (hL : S ∈ L) (hK : K S = 5) (i : Nat) : sm Q1 S i = sm Q S i := by
  obtain ⟨y, e, l, k, g⟩ := oQ_5_1 (Sv_at hQ hL hK)
  unfold sm
  rw [ext_q hE hL hK (by decide) (by decide), e]
  show (Q1 y i).getD 0 = (Q y i).getD 0
  rw [ext_q hE l k (by decide) (by decide)]
theorem cxM_fr (hQ : Sv L K G Q) (hE : extW L K G Q L1 K1 G1 Q1) {a : Nat} {w h : Int32} {f : Nat → Int64} (hL : a ∈ L) (hK : K a = 3) (fI : I1 a = I a) (fJ : J1 (wo Q a) = J (wo Q a)) (q : cxM Q I J a w h f) : cxM Q1 I1 J1 a w h f := by
  unfold cxM at q ⊢
  rw [ext_wo hQ hE hL hK, fI, fJ]; exact q
theorem cxF_fr (hQ : Sv L K G Q) (hE : extW L K G Q L1 K1 G1 Q1) (hL : F ∈ L) (hK : K F = 1) (ok : okF c) (fI : ∀ b, b ∈ L → (G b = G F ∨ G b / 100 = G F) → (K b = 0 ∨ K b = 1 ∨ K b = 3) → I1 b = I b) (fJ : ∀ b, b ∈ L → K b = 12 → G b / 100 = G F → J1 b = J b) (h : cxF Q I J F c) : cxF Q1 I1 J1 F c := by
  have e := fI F hL (Or.inl rfl) (Or.inr (Or.inl hK))
  refine ⟨by rw [e]; exact h.1, by rw [e]; exact h.2.1, by rw [e]; exact h.2.2.1, fun i hi => ?_, fun i hi k hk => ?_⟩
  · have g := fm_g (i := i) hQ hL hK (by have := ok.1; omega)
    have w := wo_g hQ g.1 g.2.1
    rw [ext_fm hQ hE hL hK]
    exact cxM_fr hQ hE g.1 g.2.1 (fI _ g.1 (by have := g.2.2; have := ok.1; omega) (Or.inr (Or.inr g.2.1))) (fJ _ w.1 w.2.1 (by have := w.2.2; have := g.2.2; have := ok.1; omega)) (h.2.2.2.1 i hi)
  · have g := fb_g (i := i) hQ hL hK (by have := ok.2.1; omega)
    rw [ext_fb hQ hE hL hK, fI _ g.1 (Or.inl g.2.2) (Or.inl g.2.1)]; exact h.2.2.2.2 i hi k hk
theorem cxS_fr (hQ : Sv L K G Q) (hE : extW L K G Q L1 K1 G1 Q1) (hL : S ∈ L) (hK : K S = 5) (ok : okF c) (fI : ∀ b, b ∈ L → G b / 100 = 2 → K b = 3 → I1 b = I b) (fJ : ∀ b, b ∈ L → K b = 12 → G b / 100 = 2 → J1 b = J b) (h : cxS Q I J S c) : cxS Q1 I1 J1 S c := fun i hi => by
  have g := sm_g (i := i) hQ hL hK (by have := ok.2.1; omega)
  have w := wo_g hQ g.1 g.2.1
  rw [ext_sm hQ hE hL hK]
  exact cxM_fr hQ hE g.1 g.2.1 (fI _ g.1 (by have := g.2.2; have := ok.2.1; omega) g.2.1) (fJ _ w.1 w.2.1 (by have := w.2.2; have := g.2.2; have := ok.2.1; omega)) (h i hi)
/-- a mask as another one was -/
def cpM (Q : Nat → Nat → Option Nat) (I : Nat → Nat → Int32) (J : Nat → Nat → Int64) (I1 : Nat → Nat → Int32) (J1 : Nat → Nat → Int64) (a b : Nat) : Prop := (∀ k, k < 8 → ¬ k = 2 → I1 a k = I b k) ∧ ∀ k, k < 80 → J1 (wo Q a) k = J (wo Q b) k
theorem cxM_cp {a b : Nat} {w h : Int32} {f : Nat → Int64} (q : cpM Q I J I1 J1 a b) (c : cxM Q I J b w h f) : cxM Q I1 J1 a w h f := by
  obtain ⟨q1, q2⟩ := q
  refine ⟨(q1 0 (by decide) (by decide)).trans c.1, (q1 1 (by decide) (by decide)).trans c.2.1, fun k hk => (q2 k hk).trans (c.2.2.1 k hk), ?_⟩
  rw [q1 3 (by decide) (by decide), q1 4 (by decide) (by decide), q1 5 (by decide) (by decide), q1 6 (by decide) (by decide), q1 7 (by decide) (by decide)]
  exact c.2.2.2
theorem bcm_step {p0 p1 i : Nat} {Ia Ib : Nat → Nat → Int32} {Ja Jb : Nat → Nat → Int64} (hQ : Sv L K G Q) (hL0 : p0 ∈ L) (hK0 : K p0 = 1) (hL1 : p1 ∈ L) (hK1 : K p1 = 1) (hne : ¬ G p0 = G p1 ∧ G p0 < 100 ∧ 1 ≤ G p1) (hi : i < 8) (h : ∀ j, j < i → cpM Q I J Ia Ja (fm Q p0 j) (fm Q p1 j)) (fr : ∀ b, ¬ ((G b = G p0 ∨ G b / 100 = G p0) ∧ ¬ K b = 6) → Ia b = I b) (dj : ∀ b, ¬ (K b = 12 ∧ (G b / 100 = G p0)) → Ja b = J b) (f1 : ∀ b, ¬ b = fm Q p0 i → Ib b = Ia b) (f2 : ¬ fm Q p1 i = fm Q p0 i → ∀ k, k < 8 → ¬ k = 2 → Ib (fm Q p0 i) k = Ia (fm Q p1 i) k) (j1 : ∀ k, k < 80 → Jb (wo Q (fm Q p0 i)) k = Ja (wo Q (fm Q p1 i)) k) (j2 : ∀ b, ¬ (K b = 12 ∧ (G b = G (fm Q p0 i))) → Jb b = Ja b) : ∀ j, j < i + 1 → cpM Q I J Ib Jb (fm Q p0 j) (fm Q p1 j) := fun j hj => by
  have g0 := fm_g (i := i) hQ hL0 hK0 hi
  have g1 := fm_g (i := i) hQ hL1 hK1 hi
  have w1 := wo_g hQ g1.1 g1.2.1
  rcases Nat.lt_or_ge j i with q | q
  · have gj := fm_g (i := j) hQ hL0 hK0 (by omega)
    have wj := wo_g hQ gj.1 gj.2.1
    have hh := h j q
    refine ⟨fun k hk h2 => ?_, fun k hk => ?_⟩
    · rw [f1 _ (fun z => by have := gj.2.2; rw [z] at this; omega)]; exact hh.1 k hk h2
    · rw [j2 _ (fun z => by have := z.2; omega)]; exact hh.2 k hk
  · obtain rfl : j = i := by omega
    have ne : ¬ fm Q p1 j = fm Q p0 j := fun z => by have := g1.2.2; rw [z] at this; omega
    refine ⟨fun k hk h2 => ?_, fun k hk => ?_⟩
    · rw [f2 ne k hk h2, fr _ (fun z => by have := z.1; omega)]
    · rw [j1 k hk, dj _ (fun z => by have := z.2; omega)]
theorem bcb_step {p0 p1 i : Nat} {Ia Ib : Nat → Nat → Int32} (hQ : Sv L K G Q) (hL0 : p0 ∈ L) (hK0 : K p0 = 1) (hL1 : p1 ∈ L) (hK1 : K p1 = 1) (hne : ¬ G p0 = G p1 ∧ G p0 < 100 ∧ 1 ≤ G p1) (hi : i < 10) (h : ∀ j, j < i → ∀ k, k < 8 → Ia (fb Q p0 j) k = I (fb Q p1 j) k) (fr : ∀ b, ¬ ((G b = G p0 ∨ G b / 100 = G p0) ∧ ¬ K b = 6) → Ia b = I b) (f1 : ∀ b, ¬ b = fb Q p0 i → Ib b = Ia b) (f2 : ¬ fb Q p1 i = fb Q p0 i → ∀ k, k < 8 → Ib (fb Q p0 i) k = Ia (fb Q p1 i) k) (hg : ¬ G p1 / 100 = G p0) : ∀ j, j < i + 1 → ∀ k, k < 8 → Ib (fb Q p0 j) k = I (fb Q p1 j) k := fun j hj k hk => by
  have g0 := fb_g (i := i) hQ hL0 hK0 hi
  have g1 := fb_g (i := i) hQ hL1 hK1 hi
  rcases Nat.lt_or_ge j i with q | q
  · rw [f1 _ (fun z => by have := fb_inj hQ hL0 hK0 (by omega) hi z; omega)]; exact h j q k hk
  · obtain rfl : j = i := by omega
    rw [f2 (fun z => by have := g1.2.2; rw [z] at this; omega) k hk, fr _ (fun z => by have := z.1; omega)]
theorem cxF_cp {p0 p1 m n : Nat} (ok : okF c) (h : cxF Q I J p1 c) (e2 : I1 p0 2 = I p1 2) (e3 : I1 p0 3 = I p1 3) (e4 : I1 p0 4 = I p1 4) (hm : ∀ j, j < m → cpM Q I J I1 J1 (fm Q p0 j) (fm Q p1 j)) (hm2 : (I p1 2).toInt ≤ (m : Int)) (hb : ∀ j, j < n → ∀ k, k < 8 → I1 (fb Q p0 j) k = I (fb Q p1 j) k) (hb2 : (I p1 3).toInt ≤ (n : Int)) : cxF Q I1 J1 p0 c := by
  have a := h.1
  have b := h.2.1
  rw [a] at hm2
  rw [b] at hb2
  refine ⟨e2.trans h.1, e3.trans h.2.1, e4.trans h.2.2.1, fun i hi => cxM_cp (hm i (by omega)) (h.2.2.2.1 i hi), fun i hi k hk => ?_⟩
  rw [hb i (by omega) k hk]; exact h.2.2.2.2 i hi k hk
end CF
abbrev neF (a b : Nat) : Prop := (¬ a = b ∧ a < 100 ∧ 1 ≤ b) ∧ b < 100 ∧ 1 ≤ a
def nf (Q : Nat → Nat → Option Nat) (S : Nat) : Nat := (Q S 0).getD 0
theorem nf_of {Q : Nat → Nat → Option Nat} {S y : Nat} (e : Q S 0 = some y) : nf Q S = y := by unfold nf; rw [e]; rfl
theorem flipD_congr {w h fl : Int} {f g : Nat → Int64} (e : ∀ k, k < 80 → f k = g k) : flipD w h fl f = flipD w h fl g := by
  funext x y
  unfold flipD
  rw [md_congr e]
theorem rd_step {L : List Nat} {K G : Nat → Nat} {Q : Nat → Nat → Option Nat} {I I2 I3 : Nat → Nat → Int32} {J J2 J3 : Nat → Nat → Int64} {S F i : Nat} {c : Fx} {zm zf : Int32} (hQ : Sv L K G Q) (hL : S ∈ L) (hK : K S = 5) (hLF : F ∈ L) (hKF : K F = 1) (hGF : G F = 1) (hi : i < 10) (ok : okF c) (h : cxF Q I J F c) (hN : i < (c.1 1).toInt.toNat) (hj : ∀ j, j < i → cxM Q I2 J2 (sm Q S j) (bw_ c j) (bh_ c j) (mkw (shp c j))) (fr : ∀ b, ¬ (K b = 3 ∧ G b / 100 = 2) → I2 b = I b) (dj : ∀ b, ¬ (K b = 12 ∧ (G b / 100 = 2)) → J2 b = J b) (em : zm = I2 (fb Q F i) 0) (ef : zf = I2 (fb Q F i) 3) (f1 : ∀ b, ¬ b = sm Q S i → I3 b = I2 b) (j1 : okm (I2 (fm Q F zm.toInt.toNat) 0).toInt (I2 (fm Q F zm.toInt.toNat) 1).toInt (J2 (wo Q (fm Q F zm.toInt.toNat))) → msr (J2 (wo Q (fm Q F zm.toInt.toNat))) (I2 (fm Q F zm.toInt.toNat) 3).toInt (I2 (fm Q F zm.toInt.toNat) 4).toInt (I2 (fm Q F zm.toInt.toNat) 5).toInt (I2 (fm Q F zm.toInt.toNat) 6).toInt (I2 (fm Q F zm.toInt.toNat) 7).toInt → mkd Q I3 J3 (sm Q S i) (I2 (fm Q F zm.toInt.toNat) 0) (I2 (fm Q F zm.toInt.toNat) 1) (flipD (I2 (fm Q F zm.toInt.toNat) 0).toInt (I2 (fm Q F zm.toInt.toNat) 1).toInt zf.toInt (J2 (wo Q (fm Q F zm.toInt.toNat))))) (j2 : ∀ b, ¬ (K b = 12 ∧ (G b = G (sm Q S i))) → J3 b = J2 b) : ∀ j, j < i + 1 → cxM Q I3 J3 (sm Q S j) (bw_ c j) (bh_ c j) (mkw (shp c j)) := fun j hj2 => by
  have gi := sm_g (i := i) hQ hL hK hi
  rcases Nat.lt_or_ge j i with q | q
  · have g := sm_g (i := j) hQ hL hK (by omega)
    have w := wo_g hQ g.1 g.2.1
    exact cxM_fr hQ extW_refl g.1 g.2.1 (f1 _ (fun z => by have := g.2.2; rw [z] at this; omega)) (j2 _ (fun z => by have := z.2; omega)) (hj j q)
  · obtain rfl : j = i := by omega
    have gb := fb_g (i := j) hQ hLF hKF hi
    have eb : I2 (fb Q F j) = I (fb Q F j) := fr _ (fun z => by have := gb.2.1; omega)
    have em2 : zm = c.1 (19 + 8 * j) := by rw [em, eb]; exact h.2.2.2.2 j hN 0 (by decide)
    have ef2 : zf = c.1 (19 + 8 * j + 3) := by rw [ef, eb]; exact h.2.2.2.2 j hN 3 (by decide)
    have bk := (ok.2.2.2 j hN).1
    rw [← em2] at bk
    have hm : zm.toInt.toNat < (c.1 0).toInt.toNat := by omega
    have gm := fm_g (i := zm.toInt.toNat) hQ hLF hKF (by have := ok.1; omega)
    have wm := wo_g hQ gm.1 gm.2.1
    have eI : I2 (fm Q F zm.toInt.toNat) = I (fm Q F zm.toInt.toNat) := fr _ (fun z => by have := z.2; have := gm.2.2; have := ok.1; omega)
    have eJ : J2 (wo Q (fm Q F zm.toInt.toNat)) = J (wo Q (fm Q F zm.toInt.toNat)) := dj _ (fun z => by have := z.2; have := gm.2.2; have := wm.2.2; have := ok.1; omega)
    have cm := h.2.2.2.1 _ hm
    have o2 := cxM_ok cm (ok.2.2.1 _ hm)
    rw [eI, eJ] at j1
    have r := cxM_mk (j1 o2.1 o2.2)
    rw [cm.1, cm.2.1, flipD_congr cm.2.2.1, ef2] at r
    rw [em2] at r
    exact r
/-! All that the class holds: now, what can be undone, shelves -/
abbrev Sx := Fx × Nat × (Nat → Fx) × (Nat → Option Fx)
def an (Q : Nat → Nat → Option Nat) (x : Nat) : Nat := (Q x 2).getD 0
def pa (Q : Nat → Nat → Option Nat) (x : Nat) : Nat := (Q x 8).getD 0
def sa (Q : Nat → Nat → Option Nat) (x : Nat) : Nat := (Q x 11).getD 0
def se (Q : Nat → Nat → Option Nat) (x : Nat) : Nat := (Q x 5).getD 0
theorem gd_of {o : Option Nat} {y : Nat} (e : o = some y) : o.getD 0 = y := by rw [e]; rfl
def cxH (Q : Nat → Nat → Option Nat) (I : Nat → Nat → Int32) (J : Nat → Nat → Int64) (x : Nat) (σ : Sx) : Prop := (okF σ.1 ∧ cxF Q I J (an Q x) σ.1) ∧ ((I x 10).toInt = (σ.2.1 : Int) ∧ σ.2.1 ≤ 10) ∧ (∀ j, j < σ.2.1 → okF (σ.2.2.1 j) ∧ ∃ F, Q (pa Q x) (((I x 9).toInt.toNat + j) % 10) = some F ∧ cxF Q I J F (σ.2.2.1 j)) ∧ (∀ s, s < 2 → (Q (sa Q x) s = none ∧ σ.2.2.2 s = none) ∨ ∃ F c, Q (sa Q x) s = some F ∧ σ.2.2.2 s = some c ∧ okF c ∧ cxF Q I J F c) ∧ nf Q (se Q x) = an Q x
def cxA (Q : Nat → Nat → Option Nat) (I : Nat → Nat → Int32) (J : Nat → Nat → Int64) (x : Nat) (σ : Sx) : Prop := cxH Q I J x σ ∧ cxS Q I J (se Q x) σ.1
abbrev rg (r : Nat) : Prop := r = 1 ∨ r = 6 ∨ r = 7 ∨ (20 ≤ r ∧ r < 30)
section CH
variable {L L1 : List Nat} {K K1 G G1 : Nat → Nat} {Q Q1 : Nat → Nat → Option Nat} {I I1 : Nat → Nat → Int32} {J J1 : Nat → Nat → Int64} {x : Nat} {σ : Sx}
theorem x_g (hQ : Sv L K G Q) (hL : x ∈ L) (hK : K x = 6) : (an Q x ∈ L ∧ K (an Q x) = 1 ∧ G (an Q x) = 1) ∧ (pa Q x ∈ L ∧ K (pa Q x) = 16) ∧ (sa Q x ∈ L ∧ K (sa Q x) = 17) ∧ (se Q x ∈ L ∧ K (se Q x) = 5 ∧ G (se Q x) = 1) := by
  obtain ⟨y2, e2, l2, k2, g2⟩ := oQ_6_2 (Sv_at hQ hL hK)
  obtain ⟨y8, e8, l8, k8⟩ := oQ_6_8 (Sv_at hQ hL hK)
  obtain ⟨y11, e11, l11, k11⟩ := oQ_6_11 (Sv_at hQ hL hK)
  obtain ⟨y5, e5, l5, k5, g5⟩ := oQ_6_5 (Sv_at hQ hL hK)
  unfold an pa sa se
  rw [gd_of e2, gd_of e8, gd_of e11, gd_of e5]
  exact ⟨⟨l2, k2, g2⟩, ⟨l8, k8⟩, ⟨l11, k11⟩, ⟨l5, k5, g5⟩⟩
theorem p_g (hQ : Sv L K G Q) (hL : x ∈ L) (hK : K x = 6) {i F : Nat} (hi : i < 10) (e : Q (pa Q x) i = some F) : F ∈ L ∧ K F = 1 ∧ G F = 20 + i := by
  have g := x_g hQ hL hK
  rcases (Sv_at hQ g.2.1.1 g.2.1.2) i hi with z | ⟨w, z, a, b, c⟩
  · rw [z] at e; cases e
  · obtain rfl : F = w := Option.some.inj (e.symm.trans z)
    exact ⟨a, b, c⟩
theorem s_g (hQ : Sv L K G Q) (hL : x ∈ L) (hK : K x = 6) {i F : Nat} (hi : i < 2) (e : Q (sa Q x) i = some F) : F ∈ L ∧ K F = 1 ∧ G F = 6 + i := by
  have g := x_g hQ hL hK
  rcases (Sv_at hQ g.2.2.1.1 g.2.2.1.2) i hi with z | ⟨w, z, a, b, c⟩
  · rw [z] at e; cases e
  · obtain rfl : F = w := Option.some.inj (e.symm.trans z)
    exact ⟨a, b, c⟩
theorem ext_x (hQ : Sv L K G Q) (hE : extW L K G Q L1 K1 G1 Q1) (hL : x ∈ L) (hK : K x = 6) : an Q1 x = an Q x ∧ pa Q1 x = pa Q x ∧ sa Q1 x = sa Q x ∧ se Q1 x = se Q x ∧ nf Q1 (se Q x) = nf Q (se Q x) := by
  have e := ext_q hE hL hK (by decide) (by decide)
  have g := x_g hQ hL hK
  have e5 := ext_q hE g.2.2.2.1 g.2.2.2.2.1 (by decide) (by decide)
  unfold an pa sa se nf
  rw [e]
  unfold se at e5
  rw [e5]
  exact ⟨rfl, rfl, rfl, rfl, rfl⟩
/-- what changes is of no field in use -/
theorem cxH_fr {P : Nat → Prop} (hQ : Sv L K G Q) (hE : extW L K G Q L1 K1 G1 Q1) (hL : x ∈ L) (hK : K x = 6) (q16 : ∀ j, j < σ.2.1 → Q1 (pa Q x) (((I x 9).toInt.toNat + j) % 10) = Q (pa Q x) (((I x 9).toInt.toNat + j) % 10)) (q17 : Q1 (sa Q x) = Q (sa Q x)) (h9 : I1 x 9 = I x 9) (h10 : I1 x 10 = I x 10) (P1 : P 1) (P6 : P 6) (P7 : P 7) (Pp : ∀ j, j < σ.2.1 → P (20 + ((I x 9).toInt.toNat + j) % 10)) (fI : ∀ b, b ∈ L → (K b = 0 ∨ K b = 1 ∨ K b = 3) → (P (G b) ∨ P (G b / 100)) → I1 b = I b) (fJ : ∀ b, b ∈ L → K b = 12 → P (G b / 100) → J1 b = J b) (h : cxH Q I J x σ) : cxH Q1 I1 J1 x σ := by
  obtain ⟨⟨a1, a2⟩, b, c, d, e⟩ := h
  obtain ⟨x1, x2, x3, x4, x5⟩ := ext_x hQ hE hL hK
  have g := x_g hQ hL hK
  have key : ∀ F c, F ∈ L → K F = 1 → P (G F) → okF c → cxF Q I J F c → cxF Q1 I1 J1 F c := fun F c hF kF pF ok h => cxF_fr hQ hE hF kF ok (fun b hb hg hk => fI b hb hk (hg.elim (fun z => Or.inl (by rw [z]; exact pF)) (fun z => Or.inr (by rw [z]; exact pF)))) (fun b hb hk hg => fJ b hb hk (by rw [hg]; exact pF)) h
  refine ⟨⟨a1, ?_⟩, ⟨by rw [h10]; exact b.1, b.2⟩, fun j hj => ?_, fun s hs => ?_, by rw [x4, x5, x1]; exact e⟩
  · rw [x1]; exact key _ _ g.1.1 g.1.2.1 (by rw [g.1.2.2]; exact P1) a1 a2
  · obtain ⟨c1, F, c2, c3⟩ := c j hj
    have pg := p_g hQ hL hK (Nat.mod_lt _ (by decide)) c2
    exact ⟨c1, F, by rw [h9, x2, q16 j hj]; exact c2, key _ _ pg.1 pg.2.1 (by rw [pg.2.2]; exact Pp j hj) c1 c3⟩
  · rw [x3, q17]
    rcases d s hs with z | ⟨F, c, z1, z2, z3, z4⟩
    · exact Or.inl z
    · have sg := s_g hQ hL hK hs z1
      refine Or.inr ⟨F, c, z1, z2, z3, key _ _ sg.1 sg.2.1 ?_ z3 z4⟩
      rw [sg.2.2]
      rcases (show s = 0 ∨ s = 1 by omega) with rfl | rfl
      · exact P6
      · exact P7
theorem cxA_fr {P : Nat → Prop} (hQ : Sv L K G Q) (hE : extW L K G Q L1 K1 G1 Q1) (hL : x ∈ L) (hK : K x = 6) (q16 : ∀ j, j < σ.2.1 → Q1 (pa Q x) (((I x 9).toInt.toNat + j) % 10) = Q (pa Q x) (((I x 9).toInt.toNat + j) % 10)) (q17 : Q1 (sa Q x) = Q (sa Q x)) (h9 : I1 x 9 = I x 9) (h10 : I1 x 10 = I x 10) (P1 : P 1) (P6 : P 6) (P7 : P 7) (P2 : P 2) (Pp : ∀ j, j < σ.2.1 → P (20 + ((I x 9).toInt.toNat + j) % 10)) (fI : ∀ b, b ∈ L → (K b = 0 ∨ K b = 1 ∨ K b = 3) → (P (G b) ∨ P (G b / 100)) → I1 b = I b) (fJ : ∀ b, b ∈ L → K b = 12 → P (G b / 100) → J1 b = J b) (h : cxA Q I J x σ) : cxA Q1 I1 J1 x σ := by
  have g := x_g hQ hL hK
  refine ⟨cxH_fr (P := P) hQ hE hL hK q16 q17 h9 h10 P1 P6 P7 Pp fI fJ h.1, ?_⟩
  rw [(ext_x hQ hE hL hK).2.2.2.1]
  exact cxS_fr hQ hE g.2.2.2.1 g.2.2.2.2.1 h.1.1.1 (fun b hb hg hk => fI b hb (Or.inr (Or.inr hk)) (Or.inr (by rw [hg]; exact P2))) (fun b hb hk hg => fJ b hb hk (by rw [hg]; exact P2)) h.2
/-- a new field comes -/
theorem cxA_new (hQ : Sv L K G Q) (hE : extW L K G Q L1 K1 G1 Q1) (hL : x ∈ L) (hK : K x = 6) (hI : ∀ b, b ∈ L → I1 b = I b ∧ Q1 b = Q b ∧ J1 b = J b) (h : cxA Q I J x σ) : cxA Q1 I1 J1 x σ := by
  have g := x_g hQ hL hK
  exact cxA_fr (P := fun _ => True) hQ hE hL hK (fun j _ => by rw [(hI _ g.2.1.1).2.1]) (hI _ g.2.2.1.1).2.1 (by rw [(hI x hL).1]) (by rw [(hI x hL).1]) trivial trivial trivial trivial (fun _ _ => trivial) (fun b hb _ _ => (hI b hb).1) (fun b hb _ _ => (hI b hb).2.2) h
/-- a field in the ring's free place -/
theorem cxA_ast16 {i q : Nat} (hQ : Sv L K G Q) (hL : x ∈ L) (hK : K x = 6) (hn : σ.2.1 ≤ 9) (hi : i = ((I x 9).toInt.toNat + σ.2.1) % 10) (e : Q1 = va_up Q (pa Q x) (va_up (Q (pa Q x)) i (some q))) (h : cxA Q I J x σ) : cxA Q1 I J x σ := by
  have g := x_g hQ hL hK
  have hE : extW L K G Q L K G Q1 := by rw [e]; exact extW_ast extW_refl (Or.inl g.2.1.2)
  refine cxA_fr (P := fun _ => True) hQ hE hL hK (fun j hj => ?_) ?_ rfl rfl trivial trivial trivial trivial (fun _ _ => trivial) (fun _ _ _ _ => rfl) (fun _ _ _ _ => rfl) h
  · rw [e, va_up_self, va_up_ne _ _ (by omega)]
  · rw [e, va_up_ne _ _ (ne_k g.2.2.1.2 g.2.1.2 (by decide))]
/-- the ring goes on: the first of ten is given up -/
def shf (σ : Sx) : Sx := if σ.2.1 = 10 then (σ.1, 9, fun j => σ.2.2.1 (j + 1), σ.2.2.2) else σ
theorem shf_le (h : σ.2.1 ≤ 10) : (shf σ).2.1 ≤ 9 := by
  unfold shf
  split
  · show (9 : Nat) ≤ 9; decide
  · omega
theorem cxA_ring (hQ : Sv L K G Q) (hL : x ∈ L) (hK : K x = 6) (hn : (I x 10).toInt = 10) (h0 : 0 ≤ (I x 9).toInt) (e9 : (I1 x 9).toInt = ((I x 9).toInt + 1) % 10) (e10 : (I1 x 10).toInt = 9) (fr : ∀ b, ¬ b = x → I1 b = I b) (h : cxA Q I J x σ) : cxA Q I1 J x (shf σ) := by
  have g := x_g hQ hL hK
  have n10 : σ.2.1 = 10 := by have := h.1.2.1.1; omega
  have fI : ∀ b, b ∈ L → (K b = 0 ∨ K b = 1 ∨ K b = 3) → I1 b = I b := fun b _ hk => fr b (fun z => by rw [z, hK] at hk; omega)
  have key : ∀ F c, F ∈ L → K F = 1 → okF c → cxF Q I J F c → cxF Q I1 J F c := fun F c hF kF ok h => cxF_fr hQ extW_refl hF kF ok (fun b hb _ hk => fI b hb hk) (fun _ _ _ _ => rfl) h
  obtain ⟨⟨⟨a1, a2⟩, b, c, d, e⟩, hs⟩ := h
  unfold shf
  rw [if_pos n10]
  refine ⟨⟨⟨a1, key _ _ g.1.1 g.1.2.1 a1 a2⟩, ⟨e10, by show (9 : Nat) ≤ 10; decide⟩, fun j hj => ?_, fun s hs => ?_, e⟩, ?_⟩
  · have hj : j < 9 := hj
    obtain ⟨c1, F, c2, c3⟩ := c (j + 1) (by omega)
    have pg := p_g hQ hL hK (Nat.mod_lt _ (by decide)) c2
    refine ⟨c1, F, ?_, key _ _ pg.1 pg.2.1 c1 c3⟩
    rw [← c2]; congr 1; omega
  · rcases d s hs with z | ⟨F, c, z1, z2, z3, z4⟩
    · exact Or.inl z
    · have sg := s_g hQ hL hK hs z1
      exact Or.inr ⟨F, c, z1, z2, z3, key _ _ sg.1 sg.2.1 z3 z4⟩
  · exact cxS_fr hQ extW_refl g.2.2.2.1 g.2.2.2.2.1 a1 (fun b hb _ hk => fI b hb (Or.inr (Or.inr hk))) (fun _ _ _ _ => rfl) hs
/-- the field in the ring's free place becomes as the one now -/
theorem cxA_bec {F i : Nat} (hQ : Sv L K G Q) (hL : x ∈ L) (hK : K x = 6) (hn : σ.2.1 ≤ 9) (hi : i = ((I x 9).toInt.toNat + σ.2.1) % 10) (hG : G F = 20 + i) (h9 : I1 x 9 = I x 9) (h10 : I1 x 10 = I x 10) (fI : ∀ b, ¬ ((G b = G F ∨ G b / 100 = G F) ∧ ¬ K b = 6) → I1 b = I b) (fJ : ∀ b, ¬ (K b = 12 ∧ (G b / 100 = G F)) → J1 b = J b) (h : cxA Q I J x σ) : cxA Q I1 J1 x σ := by
  refine cxA_fr (P := fun r => (rg r ∨ r = 2) ∧ ¬ r = 20 + i) hQ extW_refl hL hK (fun _ _ => rfl) rfl h9 h10 (by omega) (by omega) (by omega) (by omega) (fun j hj => by omega) (fun b hb hk hp => fI b (fun z => ?_)) (fun b hb hk hp => fJ b (fun z => ?_)) h
  · have z1 := z.1
    rw [hG] at z1
    have hp2 : ((rg (G b) ∨ G b = 2) ∧ ¬ G b = 20 + i) ∨ ((rg (G b / 100) ∨ G b / 100 = 2) ∧ ¬ G b / 100 = 20 + i) := hp
    omega
  · have z1 := z.2
    rw [hG] at z1
    exact hp.2 z1
/-- one more can be undone -/
def mor (σ : Sx) : Sx := (σ.1, σ.2.1 + 1, fun j => if j = σ.2.1 then σ.1 else σ.2.2.1 j, σ.2.2.2)
def rem (σ : Sx) : Sx := mor (shf σ)
theorem cxA_more {F : Nat} {u : Int32} (hQ : Sv L K G Q) (hL : x ∈ L) (hK : K x = 6) (hn : σ.2.1 ≤ 9) (eF : Q (pa Q x) (((I x 9).toInt.toNat + σ.2.1) % 10) = some F) (hF : cxF Q I J F σ.1) (e1 : I1 = va_up I x (upd (I x) 10 u)) (hu : u.toInt = (I x 10).toInt + 1) (h : cxA Q I J x σ) : cxA Q I1 J x (mor σ) := by
  have g := x_g hQ hL hK
  have fr : ∀ b, ¬ b = x → I1 b = I b := fun b hb => by rw [e1, va_up_ne _ _ hb]
  have e9 : I1 x 9 = I x 9 := by rw [e1, rz_fr _ _ _ _ (by decide)]
  have fI : ∀ b, b ∈ L → (K b = 0 ∨ K b = 1 ∨ K b = 3) → I1 b = I b := fun b _ hk => fr b (fun z => by rw [z, hK] at hk; omega)
  have key : ∀ F c, F ∈ L → K F = 1 → okF c → cxF Q I J F c → cxF Q I1 J F c := fun F c hF kF ok h => cxF_fr hQ extW_refl hF kF ok (fun b hb _ hk => fI b hb hk) (fun _ _ _ _ => rfl) h
  obtain ⟨⟨⟨a1, a2⟩, b, c, d, e⟩, hs⟩ := h
  refine ⟨⟨⟨a1, key _ _ g.1.1 g.1.2.1 a1 a2⟩, ⟨?_, by show σ.2.1 + 1 ≤ 10; omega⟩, fun j hj => ?_, fun s hs => ?_, e⟩, ?_⟩
  · rw [e1, rz_at, hu, b.1]; show (σ.2.1 : Int) + 1 = ((σ.2.1 + 1 : Nat) : Int); omega
  · have hj : j < σ.2.1 + 1 := hj
    rw [e9]
    show okF (if j = σ.2.1 then σ.1 else σ.2.2.1 j) ∧ ∃ F, _ ∧ cxF Q I1 J F (if j = σ.2.1 then σ.1 else σ.2.2.1 j)
    by_cases q : j = σ.2.1
    · rw [if_pos q, q]
      have pg := p_g hQ hL hK (Nat.mod_lt _ (by decide)) eF
      exact ⟨a1, F, eF, key _ _ pg.1 pg.2.1 a1 hF⟩
    · rw [if_neg q]
      obtain ⟨c1, F2, c2, c3⟩ := c j (by omega)
      have pg := p_g hQ hL hK (Nat.mod_lt _ (by decide)) c2
      exact ⟨c1, F2, c2, key _ _ pg.1 pg.2.1 c1 c3⟩
  · rcases d s hs with z | ⟨F, c, z1, z2, z3, z4⟩
    · exact Or.inl z
    · have sg := s_g hQ hL hK hs z1
      exact Or.inr ⟨F, c, z1, z2, z3, key _ _ sg.1 sg.2.1 z3 z4⟩
  · exact cxS_fr hQ extW_refl g.2.2.2.1 g.2.2.2.2.1 a1 (fun b hb _ hk => fI b hb (Or.inr (Or.inr hk))) (fun _ _ _ _ => rfl) hs
/-- the field now becomes another one -/
theorem cxH_now {c2 : Fx} (hQ : Sv L K G Q) (hL : x ∈ L) (hK : K x = 6) (ok : okF c2) (hc : cxF Q I1 J1 (an Q x) c2) (h9 : I1 x 9 = I x 9) (h10 : I1 x 10 = I x 10) (fI : ∀ b, b ∈ L → (K b = 0 ∨ K b = 1 ∨ K b = 3) → ((rg (G b) ∧ ¬ G b = 1) ∨ (rg (G b / 100) ∧ ¬ G b / 100 = 1)) → I1 b = I b) (fJ : ∀ b, b ∈ L → K b = 12 → (rg (G b / 100) ∧ ¬ G b / 100 = 1) → J1 b = J b) (h : cxH Q I J x σ) : cxH Q I1 J1 x (c2, σ.2) := by
  obtain ⟨⟨a1, a2⟩, b, c, d, e⟩ := h
  have key : ∀ F c, F ∈ L → K F = 1 → (rg (G F) ∧ ¬ G F = 1) → okF c → cxF Q I J F c → cxF Q I1 J1 F c := fun F c hF kF pF ok h => cxF_fr hQ extW_refl hF kF ok (fun b hb hg hk => fI b hb hk (hg.elim (fun z => Or.inl (by rw [z]; exact pF)) (fun z => Or.inr (by rw [z]; exact pF)))) (fun b hb hk hg => fJ b hb hk (by rw [hg]; exact pF)) h
  refine ⟨⟨ok, hc⟩, ⟨by rw [h10]; exact b.1, b.2⟩, fun j hj => ?_, fun s hs => ?_, e⟩
  · obtain ⟨c1, F, c2, c3⟩ := c j hj
    have pg := p_g hQ hL hK (Nat.mod_lt _ (by decide)) c2
    have lt := Nat.mod_lt ((I x 9).toInt.toNat + j) (show 10 > 0 by decide)
    exact ⟨c1, F, by rw [h9]; exact c2, key _ _ pg.1 pg.2.1 (by rw [pg.2.2]; omega) c1 c3⟩
  · rcases d s hs with z | ⟨F, c, z1, z2, z3, z4⟩
    · exact Or.inl z
    · have sg := s_g hQ hL hK hs z1
      exact Or.inr ⟨F, c, z1, z2, z3, key _ _ sg.1 sg.2.1 (by rw [sg.2.2]; omega) z3 z4⟩
end CH
/-! Acts on bodies -/
def setB (c : Fx) (b k : Nat) (v : Int32) : Fx := (upd c.1 (19 + 8 * b + k) v, c.2)
def vok (M : Int) (k : Nat) (v : Int) : Prop := (k = 0 → 0 ≤ v ∧ v < M) ∧ (k = 1 ∨ k = 2 → -999 ≤ v ∧ v ≤ 999) ∧ (k = 3 → 0 ≤ v ∧ v ≤ 3) ∧ (k = 4 ∨ k = 5 → 0 ≤ v ∧ v ≤ 15) ∧ (k = 6 ∨ k = 7 → -20 ≤ v ∧ v ≤ 20)
theorem bdok_iff {c : Nat → Int32} {b : Nat} : bdok c b ↔ ∀ k, k < 8 → vok (c 0).toInt k (c (19 + 8 * b + k)).toInt := by
  constructor
  · intro h k hk
    obtain ⟨h0, h1, h2, h3, h4, h5, h6, h7⟩ := h
    unfold vok
    rcases (show k = 0 ∨ k = 1 ∨ k = 2 ∨ k = 3 ∨ k = 4 ∨ k = 5 ∨ k = 6 ∨ k = 7 by omega) with rfl | rfl | rfl | rfl | rfl | rfl | rfl | rfl
    · exact ⟨fun _ => h0, fun z => by omega, fun z => by omega, fun z => by omega, fun z => by omega⟩
    · exact ⟨fun z => by omega, fun _ => h1, fun z => by omega, fun z => by omega, fun z => by omega⟩
    · exact ⟨fun z => by omega, fun _ => h2, fun z => by omega, fun z => by omega, fun z => by omega⟩
    · exact ⟨fun z => by omega, fun z => by omega, fun _ => h3, fun z => by omega, fun z => by omega⟩
    · exact ⟨fun z => by omega, fun z => by omega, fun z => by omega, fun _ => h4, fun z => by omega⟩
    · exact ⟨fun z => by omega, fun z => by omega, fun z => by omega, fun _ => h5, fun z => by omega⟩
    · exact ⟨fun z => by omega, fun z => by omega, fun z => by omega, fun z => by omega, fun _ => h6⟩
    · exact ⟨fun z => by omega, fun z => by omega, fun z => by omega, fun z => by omega, fun _ => h7⟩
  · intro h
    exact ⟨(h 0 (by decide)).1 rfl, (h 1 (by decide)).2.1 (Or.inl rfl), (h 2 (by decide)).2.1 (Or.inr rfl), (h 3 (by decide)).2.2.1 rfl, (h 4 (by decide)).2.2.2.1 (Or.inl rfl), (h 5 (by decide)).2.2.2.1 (Or.inr rfl), (h 6 (by decide)).2.2.2.2 (Or.inl rfl), (h 7 (by decide)).2.2.2.2 (Or.inr rfl)⟩
theorem setB_lo {c : Fx} {b k : Nat} {v : Int32} {i : Nat} (h : i < 19) : (setB c b k v).1 i = c.1 i := by
  show upd c.1 (19 + 8 * b + k) v i = c.1 i
  unfold upd; rw [if_neg (by omega)]
theorem setB_at {c : Fx} {b k : Nat} {v : Int32} {j l : Nat} (hk : k < 8) (hl : l < 8) : (setB c b k v).1 (19 + 8 * j + l) = if j = b ∧ l = k then v else c.1 (19 + 8 * j + l) := by
  show upd c.1 (19 + 8 * b + k) v (19 + 8 * j + l) = _
  unfold upd
  by_cases q : j = b ∧ l = k
  · rw [if_pos q, if_pos (by omega)]
  · rw [if_neg q, if_neg (by omega)]
theorem okF_body {c : Fx} {b k : Nat} {v : Int32} (ok : okF c) (hk : k < 8) (hv : vok (c.1 0).toInt k v.toInt) : okF (setB c b k v) := by
  obtain ⟨o1, o2, o3, o4⟩ := ok
  have e0 : (setB c b k v).1 0 = c.1 0 := setB_lo (by decide)
  have e1 : (setB c b k v).1 1 = c.1 1 := setB_lo (by decide)
  refine ⟨by rw [e0]; exact o1, by rw [e1]; exact o2, fun i hi => ?_, fun j hj => bdok_iff.mpr (fun l hl => ?_)⟩
  · rw [e0] at hi
    rw [setB_lo (by omega), setB_lo (by omega)]; exact o3 i hi
  · rw [e1] at hj
    rw [e0, setB_at hk hl]
    by_cases q : j = b ∧ l = k
    · rw [if_pos q, q.2]; exact hv
    · rw [if_neg q]; exact bdok_iff.mp (o4 j hj) l hl
section AB
variable {L : List Nat} {K G : Nat → Nat} {Q : Nat → Nat → Option Nat} {I I1 I2 : Nat → Nat → Int32} {J J1 : Nat → Nat → Int64} {x F i k : Nat} {σ : Sx} {c : Fx} {v : Int32}
theorem cxF_body (hQ : Sv L K G Q) (hL : F ∈ L) (hK : K F = 1) (ok : okF c) (hi : i < 10) (hk : k < 8) (e : I1 = va_up I (fb Q F i) (upd (I (fb Q F i)) k v)) (h : cxF Q I J F c) : cxF Q I1 J F (setB c i k v) := by
  have g := fb_g hQ hL hK hi
  have fr : ∀ b, ¬ K b = 0 → I1 b = I b := fun b hb => by rw [e, va_up_ne _ _ (fun z => hb (by rw [z]; exact g.2.1))]
  have e0 : (setB c i k v).1 0 = c.1 0 := setB_lo (by decide)
  have e1 : (setB c i k v).1 1 = c.1 1 := setB_lo (by decide)
  have eF := fr F (by rw [hK]; decide)
  refine ⟨by rw [eF, e0]; exact h.1, by rw [eF, e1]; exact h.2.1, by rw [eF, setB_lo (by decide)]; exact h.2.2.1, fun j hj => ?_, fun j hj l hl => ?_⟩
  · rw [e0] at hj
    rw [setB_lo (by have := ok.1; omega), setB_lo (by have := ok.1; omega)]
    have gm := fm_g (i := j) hQ hL hK (by have := ok.1; omega)
    exact cxM_fr hQ extW_refl gm.1 gm.2.1 (fr _ (by rw [gm.2.1]; decide)) rfl (h.2.2.2.1 j hj)
  · rw [e1] at hj
    rw [setB_at hk hl, e]
    by_cases q : j = i
    · rw [q, va_up_self]
      unfold upd
      by_cases w : l = k
      · rw [if_pos w, if_pos ⟨rfl, w⟩]
      · rw [if_neg w, if_neg (fun z => w z.2)]; exact h.2.2.2.2 i (by rw [← q]; exact hj) l hl
    · rw [va_up_ne _ _ (fun z => q (fb_inj hQ hL hK (by have := ok.2.1; omega) hi z)), if_neg (fun z => q z.1)]
      exact h.2.2.2.2 j hj l hl
theorem cxH_body (hQ : Sv L K G Q) (hL : x ∈ L) (hK : K x = 6) (hi : i < 10) (hk : k < 8) (hv : vok (σ.1.1 0).toInt k v.toInt) (e : I1 = va_up I (fb Q (an Q x) i) (upd (I (fb Q (an Q x) i)) k v)) (h : cxH Q I J x σ) : cxH Q I1 J x (setB σ.1 i k v, σ.2) := by
  have g := x_g hQ hL hK
  have gb := fb_g hQ g.1.1 g.1.2.1 hi
  have fr : ∀ b, ¬ b = fb Q (an Q x) i → I1 b = I b := fun b hb => by rw [e, va_up_ne _ _ hb]
  have nx : ¬ x = fb Q (an Q x) i := fun z => by have := gb.2.1; rw [← z, hK] at this; exact absurd this (by decide)
  refine cxH_now hQ hL hK (okF_body h.1.1 hk hv) (cxF_body hQ g.1.1 g.1.2.1 h.1.1 hi hk e h.1.2) (by rw [fr x nx]) (by rw [fr x nx]) (fun b hb _ hp => fr b (fun z => ?_)) (fun _ _ _ _ => rfl) h
  have gg := gb.2.2
  rw [g.1.2.2, ← z] at gg
  omega
theorem cxS_body (hQ : Sv L K G Q) (hL : x ∈ L) (hK : K x = 6) (ok : okF c) (hi : i < 10) (hk : k < 8) (h0 : ¬ k = 0) (h3 : ¬ k = 3) (e : I1 = va_up I (fb Q (an Q x) i) (upd (I (fb Q (an Q x) i)) k v)) (h : cxS Q I J (se Q x) c) : cxS Q I1 J (se Q x) (setB c i k v) := fun j hj => by
  have g := x_g hQ hL hK
  have gb := fb_g hQ g.1.1 g.1.2.1 hi
  have e1 : (setB c i k v).1 1 = c.1 1 := setB_lo (by decide)
  rw [e1] at hj
  have ea : (setB c i k v).1 (19 + 8 * j) = c.1 (19 + 8 * j) := (setB_at (l := 0) hk (by decide)).trans (if_neg (fun z => h0 z.2.symm))
  have eb : (setB c i k v).1 (19 + 8 * j + 3) = c.1 (19 + 8 * j + 3) := (setB_at (l := 3) hk (by decide)).trans (if_neg (fun z => h3 z.2.symm))
  have hm := (ok.2.2.2 j hj).1
  have o1 := ok.1
  have ew : bw_ (setB c i k v) j = bw_ c j := by unfold bw_; rw [ea]; exact setB_lo (by omega)
  have eh : bh_ (setB c i k v) j = bh_ c j := by unfold bh_; rw [ea]; exact setB_lo (by omega)
  have es : shp (setB c i k v) j = shp c j := by
    unfold shp
    rw [ew, eh, ea, eb]; rfl
  have gs := sm_g (i := j) hQ g.2.2.2.1 g.2.2.2.2.1 (by have := ok.2.1; omega)
  rw [ew, eh, es]
  exact cxM_fr hQ extW_refl gs.1 gs.2.1 (by rw [e, va_up_ne _ _ (ne_k gs.2.1 gb.2.1 (by decide))]) rfl (h j hj)
theorem cxA_body (hQ : Sv L K G Q) (hL : x ∈ L) (hK : K x = 6) (hi : i < 10) (hk : k < 8) (h0 : ¬ k = 0) (h3 : ¬ k = 3) (hv : vok (σ.1.1 0).toInt k v.toInt) (e : I1 = va_up I (fb Q (an Q x) i) (upd (I (fb Q (an Q x) i)) k v)) (h : cxA Q I J x σ) : cxA Q I1 J x (setB σ.1 i k v, σ.2) := ⟨cxH_body hQ hL hK hi hk hv e h.1, cxS_body hQ hL hK h.1.1.1 hi hk h0 h3 e h.2⟩
theorem cxA_redraw (hQ : Sv L K G Q) (hL : x ∈ L) (hK : K x = 6) (hS : ∀ c, okF c → cxF Q I J (nf Q (se Q x)) c → cxS Q I1 J1 (se Q x) c) (fI : ∀ b, ¬ ((K b = 3) ∧ G b / 100 = 2) → I1 b = I b) (fJ : ∀ b, ¬ (K b = 12 ∧ (G b / 100 = 2)) → J1 b = J b) (h : cxH Q I J x σ) : cxA Q I1 J1 x σ := by
  refine ⟨cxH_fr (P := rg) hQ extW_refl hL hK (fun _ _ => rfl) rfl (by rw [fI x (fun z => by rw [hK] at z; omega)]) (by rw [fI x (fun z => by rw [hK] at z; omega)]) (by omega) (by omega) (by omega) (fun j _ => by have := Nat.mod_lt ((I x 9).toInt.toNat + j) (show 10 > 0 by decide); omega) (fun b hb hk hp => fI b (fun z => by omega)) (fun b hb hk hp => fJ b (fun z => by omega)) h, hS _ h.1.1 (by rw [h.2.2.2.2]; exact h.1.2)⟩
end AB
theorem rem_1 (σ : Sx) : (rem σ).1 = σ.1 := by
  unfold rem mor shf
  split <;> rfl
def twC (σ : Sx) (b u v : Int32) (lo hi : Int) : Prop := (0 ≤ b.toInt ∧ b.toInt < (σ.1.1 1).toInt) ∧ (lo ≤ u.toInt ∧ u.toInt ≤ hi) ∧ (lo ≤ v.toInt ∧ v.toInt ≤ hi)
/-- two numbers of a body: its place, its layers, its speed -/
noncomputable def twA (σ : Sx) (b : Int32) (k : Nat) (u v : Int32) (lo hi : Int) : Int × Sx := haveI : ∀ p : Prop, Decidable p := Classical.propDecidable; if twC σ b u v lo hi then (if σ.1.1 (19 + 8 * b.toInt.toNat + k) = u ∧ σ.1.1 (19 + 8 * b.toInt.toNat + (k + 1)) = v then (-2, σ) else (1, (setB (setB σ.1 b.toInt.toNat k u) b.toInt.toNat (k + 1) v, (rem σ).2))) else (-1, σ)
theorem tw_n {σ : Sx} {b u v : Int32} {k : Nat} {lo hi : Int} (h : ¬ twC σ b u v lo hi) : twA σ b k u v lo hi = (-1, σ) := by unfold twA; rw [if_neg h]
theorem tw_e {σ : Sx} {b u v : Int32} {k : Nat} {lo hi : Int} (h : twC σ b u v lo hi) (e : σ.1.1 (19 + 8 * b.toInt.toNat + k) = u ∧ σ.1.1 (19 + 8 * b.toInt.toNat + (k + 1)) = v) : twA σ b k u v lo hi = (-2, σ) := by unfold twA; rw [if_pos h, if_pos e]
theorem tw_y {σ : Sx} {b u v : Int32} {k : Nat} {lo hi : Int} (h : twC σ b u v lo hi) (e : ¬ (σ.1.1 (19 + 8 * b.toInt.toNat + k) = u ∧ σ.1.1 (19 + 8 * b.toInt.toNat + (k + 1)) = v)) : twA σ b k u v lo hi = (1, (setB (setB σ.1 b.toInt.toNat k u) b.toInt.toNat (k + 1) v, (rem σ).2)) := by unfold twA; rw [if_pos h, if_neg e]
theorem tw_fin {L : List Nat} {K G : Nat → Nat} {Q : Nat → Nat → Option Nat} {Ia I1 I2 : Nat → Nat → Int32} {J : Nat → Nat → Int64} {x k : Nat} {σ : Sx} {b u v : Int32} (hQ : Sv L K G Q) (hL : x ∈ L) (hK : K x = 6) (A : cxA Q Ia J x (rem σ)) (hb : 0 ≤ b.toInt ∧ b.toInt < (σ.1.1 1).toInt) (hk : k = 1 ∨ k = 4 ∨ k = 6) (hu : vok (σ.1.1 0).toInt k u.toInt) (hv : vok (σ.1.1 0).toInt (k + 1) v.toInt) (e1 : I1 = va_up Ia (fb Q (an Q x) b.toInt.toNat) (upd (Ia (fb Q (an Q x) b.toInt.toNat)) k u)) (e2 : I2 = va_up I1 (fb Q (an Q x) b.toInt.toNat) (upd (I1 (fb Q (an Q x) b.toInt.toNat)) (k + 1) v)) : cxA Q I2 J x (setB (setB σ.1 b.toInt.toNat k u) b.toInt.toNat (k + 1) v, (rem σ).2) := by
  have o := A.1.1.1.2.1
  rw [rem_1] at o
  have B := cxA_body (σ := rem σ) hQ hL hK (by omega) (by omega) (by omega) (by omega) (by rw [rem_1]; exact hu) e1 A
  rw [rem_1] at B
  have C := cxA_body hQ hL hK (by omega) (by omega) (by omega) (by omega) (by show vok ((setB σ.1 b.toInt.toNat k u).1 0).toInt _ _; rw [setB_lo (by decide)]; exact hv) e2 B
  exact C
noncomputable def flA (σ : Sx) (b f : Int32) : Int × Sx := haveI : ∀ p : Prop, Decidable p := Classical.propDecidable; if (0 ≤ b.toInt ∧ b.toInt < (σ.1.1 1).toInt) ∧ (0 ≤ f.toInt ∧ f.toInt ≤ 3) then (if σ.1.1 (19 + 8 * b.toInt.toNat + 3) = f then (-2, σ) else ((σ.1.1 (19 + 8 * b.toInt.toNat + 3)).toInt, (setB σ.1 b.toInt.toNat 3 f, (rem σ).2))) else (-1, σ)
theorem fl_n {σ : Sx} {b f : Int32} (h : ¬ ((0 ≤ b.toInt ∧ b.toInt < (σ.1.1 1).toInt) ∧ (0 ≤ f.toInt ∧ f.toInt ≤ 3))) : flA σ b f = (-1, σ) := by unfold flA; rw [if_neg h]
theorem fl_e {σ : Sx} {b f : Int32} (h : (0 ≤ b.toInt ∧ b.toInt < (σ.1.1 1).toInt) ∧ (0 ≤ f.toInt ∧ f.toInt ≤ 3)) (e : σ.1.1 (19 + 8 * b.toInt.toNat + 3) = f) : flA σ b f = (-2, σ) := by unfold flA; rw [if_pos h, if_pos e]
theorem fl_y {σ : Sx} {b f : Int32} (h : (0 ≤ b.toInt ∧ b.toInt < (σ.1.1 1).toInt) ∧ (0 ≤ f.toInt ∧ f.toInt ≤ 3)) (e : ¬ σ.1.1 (19 + 8 * b.toInt.toNat + 3) = f) : flA σ b f = ((σ.1.1 (19 + 8 * b.toInt.toNat + 3)).toInt, (setB σ.1 b.toInt.toNat 3 f, (rem σ).2)) := by unfold flA; rw [if_pos h, if_neg e]
/-! Acts on masks -/
def setM (c : Fx) (m : Nat) (w h : Int32) (f : Nat → Int64) : Fx := (upd (upd c.1 (3 + m) w) (11 + m) h, fun k => if 80 * m ≤ k ∧ k < 80 * m + 80 then f (k - 80 * m) else c.2 k)
def sk_ (Q : Nat → Nat → Option Nat) (x : Nat) : Nat := (Q x 6).getD 0
theorem setM_lo {c : Fx} {m : Nat} {w h : Int32} {f : Nat → Int64} {i : Nat} (hi : i < 3 ∨ 19 ≤ i) (hm : m < 8) : (setM c m w h f).1 i = c.1 i := by
  show upd (upd c.1 (3 + m) w) (11 + m) h i = c.1 i
  unfold upd; rw [if_neg (by omega), if_neg (by omega)]
theorem setM_w {c : Fx} {m : Nat} {w h : Int32} {f : Nat → Int64} {i : Nat} (hi : i < 8) : (setM c m w h f).1 (3 + i) = if i = m then w else c.1 (3 + i) := by
  show upd (upd c.1 (3 + m) w) (11 + m) h (3 + i) = _
  unfold upd
  by_cases q : i = m
  · rw [if_pos q, if_neg (by omega), if_pos (by omega)]
  · rw [if_neg q]
    by_cases z : 3 + i = 11 + m
    · omega
    · rw [if_neg z, if_neg (by omega)]
theorem setM_h {c : Fx} {m : Nat} {w h : Int32} {f : Nat → Int64} {i : Nat} (hm : m < 8) : (setM c m w h f).1 (11 + i) = if i = m then h else c.1 (11 + i) := by
  show upd (upd c.1 (3 + m) w) (11 + m) h (11 + i) = _
  unfold upd
  by_cases q : i = m
  · rw [if_pos q, if_pos (by omega)]
  · rw [if_neg q, if_neg (by omega), if_neg (by omega)]
theorem setM_mo {c : Fx} {m : Nat} {w h : Int32} {f : Nat → Int64} {i k : Nat} (hk : k < 80) : mo (setM c m w h f).2 i k = if i = m then f k else mo c.2 i k := by
  show (if 80 * m ≤ 80 * i + k ∧ 80 * i + k < 80 * m + 80 then f (80 * i + k - 80 * m) else c.2 (80 * i + k)) = _
  by_cases q : i = m
  · rw [if_pos q, if_pos (by omega)]; congr 1; omega
  · rw [if_neg q, if_neg (by omega)]; rfl
theorem cxM_congr {Q : Nat → Nat → Option Nat} {I : Nat → Nat → Int32} {J : Nat → Nat → Int64} {a : Nat} {w h : Int32} {f g : Nat → Int64} (e : ∀ k, k < 80 → f k = g k) (q : cxM Q I J a w h f) : cxM Q I J a w h g := ⟨q.1, q.2.1, fun k hk => (q.2.2.1 k hk).trans (e k hk), msr_congr e q.2.2.2⟩
theorem okm_congr {w h : Int} {f g : Nat → Int64} (e : ∀ k, k < 80 → f k = g k) (q : okm w h f) : okm w h g := ⟨q.1, q.2.1, mcl_congr e q.2.2⟩
theorem okm_mk {w h : Int} {D : Int → Int → Bool} (hw : 1 ≤ w ∧ w ≤ 100) (hh : 1 ≤ h ∧ h ≤ 40) (hD : ∀ x y, D x y = true → x < w ∧ y < h) : okm w h (mkw D) := ⟨hw, hh, fun x y q => by
  have r := md_rng q
  rw [mkw_md r.1.1 r.1.2 r.2.1 r.2.2] at q
  exact hD x y q⟩
theorem okF_mask {c : Fx} {m : Nat} {w h : Int32} {f : Nat → Int64} (ok : okF c) (hm : m < 8) (hf : okm w.toInt h.toInt f) : okF (setM c m w h f) := by
  obtain ⟨o1, o2, o3, o4⟩ := ok
  have e0 : (setM c m w h f).1 0 = c.1 0 := setM_lo (by omega) hm
  have e1 : (setM c m w h f).1 1 = c.1 1 := setM_lo (by omega) hm
  refine ⟨by rw [e0]; exact o1, by rw [e1]; exact o2, fun i hi => ?_, fun j hj => bdok_iff.mpr (fun l hl => ?_)⟩
  · rw [e0] at hi
    rw [setM_w (by omega), setM_h hm]
    by_cases q : i = m
    · rw [if_pos q, if_pos q]; exact okm_congr (fun k hk => by rw [setM_mo hk, if_pos q]) hf
    · rw [if_neg q, if_neg q]; exact okm_congr (fun k hk => by rw [setM_mo hk, if_neg q]) (o3 i hi)
  · rw [e1] at hj
    rw [e0, setM_lo (by omega) hm]; exact bdok_iff.mp (o4 j hj) l hl
section AM
variable {L L1 : List Nat} {K K1 G G1 : Nat → Nat} {Q Q1 : Nat → Nat → Option Nat} {I I1 I2 : Nat → Nat → Int32} {J J1 J2 : Nat → Nat → Int64} {x F m : Nat} {σ : Sx} {c : Fx} {w h : Int32} {f : Nat → Int64}
theorem cxF_mask (hQ : Sv L K G Q) (hL : F ∈ L) (hK : K F = 1) (ok : okF c) (hm : m < 8) (hM : cxM Q I1 J1 (fm Q F m) w h f) (fI : ∀ b, ¬ b = fm Q F m → I1 b = I b) (fJ : ∀ b, ¬ (K b = 12 ∧ (G b = G (fm Q F m))) → J1 b = J b) (q : cxF Q I J F c) : cxF Q I1 J1 F (setM c m w h f) := by
  have gm := fm_g hQ hL hK hm
  have e0 : (setM c m w h f).1 0 = c.1 0 := setM_lo (by omega) hm
  have e1 : (setM c m w h f).1 1 = c.1 1 := setM_lo (by omega) hm
  have eF := fI F (ne_k hK gm.2.1 (by decide))
  refine ⟨by rw [eF, e0]; exact q.1, by rw [eF, e1]; exact q.2.1, by rw [eF, setM_lo (by omega) hm]; exact q.2.2.1, fun i hi => ?_, fun i hi k hk => ?_⟩
  · rw [e0] at hi
    have i8 : i < 8 := by have := ok.1; omega
    rw [setM_w i8, setM_h hm]
    by_cases z : i = m
    · rw [if_pos z, if_pos z, z]; exact cxM_congr (fun k hk => by rw [setM_mo hk, if_pos rfl]) hM
    · rw [if_neg z, if_neg z]
      have gi := fm_g (i := i) hQ hL hK i8
      have wi := wo_g hQ gi.1 gi.2.1
      exact cxM_congr (fun k hk => by rw [setM_mo hk, if_neg z]) (cxM_fr hQ extW_refl gi.1 gi.2.1 (fI _ (fun y => by have := gi.2.2; rw [y] at this; omega)) (fJ _ (fun y => by have := y.2; omega)) (q.2.2.2.1 i hi))
  · rw [e1] at hi
    have gb := fb_g (i := i) hQ hL hK (by have := ok.2.1; omega)
    rw [fI _ (ne_k gb.2.1 gm.2.1 (by decide)), setM_lo (by omega) hm]; exact q.2.2.2.2 i hi k hk
theorem cxH_mask (hQ : Sv L K G Q) (hL : x ∈ L) (hK : K x = 6) (hm : m < 8) (hf : okm w.toInt h.toInt f) (hM : cxM Q I1 J1 (fm Q (an Q x) m) w h f) (fI : ∀ b, ¬ b = fm Q (an Q x) m → I1 b = I b) (fJ : ∀ b, ¬ (K b = 12 ∧ (G b = G (fm Q (an Q x) m))) → J1 b = J b) (q : cxH Q I J x σ) : cxH Q I1 J1 x (setM σ.1 m w h f, σ.2) := by
  have g := x_g hQ hL hK
  have gm := fm_g hQ g.1.1 g.1.2.1 hm
  have nx := fI x (ne_k hK gm.2.1 (by decide))
  have g1 := g.1.2.2
  refine cxH_now hQ hL hK (okF_mask q.1.1 hm hf) (cxF_mask hQ g.1.1 g.1.2.1 q.1.1 hm hM fI fJ q.1.2) (by rw [nx]) (by rw [nx]) (fun b hb _ hp => fI b (fun z => ?_)) (fun b hb hk hp => fJ b (fun z => ?_)) q
  · have := gm.2.2; rw [← z] at this; omega
  · have := z.2; have := gm.2.2; omega
theorem sk_g (hQ : Sv L K G Q) (hL : x ∈ L) (hK : K x = 6) : sk_ Q x ∈ L ∧ K (sk_ Q x) = 3 ∧ G (sk_ Q x) = 400 := by
  obtain ⟨y, e, l, k, g⟩ := oQ_6_6 (Sv_at hQ hL hK)
  unfold sk_; rw [gd_of e]; exact ⟨l, k, g⟩
theorem ext_sk (hE : extW L K G Q L1 K1 G1 Q1) (hL : x ∈ L) (hK : K x = 6) : sk_ Q1 x = sk_ Q x := by unfold sk_; rw [ext_q hE hL hK (by decide) (by decide)]
/-- the sketch is kept as all is remembered -/
theorem sk_rem (hQ : Sv L K G Q) (hE : extW L K G Q L1 K1 G1 Q1) (hL : x ∈ L) (hK : K x = 6) (fI : ∀ b, b ∈ L → nP (G b) → ¬ K b = 6 → I1 b = I b) (fJ : ∀ b, b ∈ L → ¬ (K b = 12 ∧ (¬ nP (G b))) → J1 b = J b) (q : cxM Q I J (sk_ Q x) w h f) : cxM Q1 I1 J1 (sk_ Q1 x) w h f := by
  have g := sk_g hQ hL hK
  have ww := wo_g hQ g.1 g.2.1
  rw [ext_sk hE hL hK]
  exact cxM_fr hQ hE g.1 g.2.1 (fI _ g.1 (by rw [g.2.2]; decide) (by rw [g.2.1]; decide)) (fJ _ ww.1 (fun z => z.2 (by rw [ww.2.2, g.2.2]; decide))) q
theorem sk_remI (hQ : Sv L K G Q) (hE : extW L K G Q L1 K1 G1 Q1) (hL : x ∈ L) (hK : K x = 6) (fI : ∀ b, b ∈ L → nP (G b) → ¬ K b = 6 → I1 b = I b) : I1 (sk_ Q1 x) = I (sk_ Q x) := by
  have g := sk_g hQ hL hK
  rw [ext_sk hE hL hK]
  exact fI _ g.1 (by rw [g.2.2]; decide) (by rw [g.2.1]; decide)
theorem sk_mask (hQ : Sv L K G Q) (hL : x ∈ L) (hK : K x = 6) (hm : m < 8) (e1 : ¬ sk_ Q x = fm Q (an Q x) m → ∀ k, k < 8 → ¬ k = 2 → I1 (fm Q (an Q x) m) k = I (sk_ Q x) k) (e2 : ∀ k, k < 80 → J1 (wo Q (fm Q (an Q x) m)) k = J (wo Q (sk_ Q x)) k) (q : cxM Q I J (sk_ Q x) w h f) : cxM Q I1 J1 (fm Q (an Q x) m) w h f := by
  have g := sk_g hQ hL hK
  have gx := x_g hQ hL hK
  have gm := fm_g hQ gx.1.1 gx.1.2.1 hm
  exact cxM_cp ⟨e1 (fun z => by have := gm.2.2; rw [← z, g.2.2, gx.1.2.2] at this; omega), e2⟩ q
end AM
theorem growD_congr {w h : Int} {f g : Nat → Int64} (e : ∀ k, k < 80 → f k = g k) : growD w h f = growD w h g := by
  funext x y
  unfold growD gr3
  simp only [md_congr e]
theorem thinD_congr {f g : Nat → Int64} (e : ∀ k, k < 80 → f k = g k) : thinD f = thinD g := by
  funext x y
  unfold thinD
  simp only [md_congr e]
theorem joinD_congr {w h dx dy how : Int} {f g f2 g2 : Nat → Int64} (e : ∀ k, k < 80 → f k = g k) (e2 : ∀ k, k < 80 → f2 k = g2 k) : joinD w h f f2 dx dy how = joinD w h g g2 dx dy how := by
  funext x y
  unfold joinD
  rw [md_congr e, md_congr e2]
theorem quarD_congr {h : Int} {f g : Nat → Int64} (e : ∀ k, k < 80 → f k = g k) : quarD h f = quarD h g := by
  funext x y
  unfold quarD
  rw [md_congr e]
theorem thinD_inw {w h : Int} {f : Nat → Int64} (c : mcl w h f) (x y : Int) (q : thinD f x y = true) : x < w ∧ y < h := thinD_in c x y q
/-- a mask of the field now, in numbers -/
abbrev mW (σ : Sx) (m : Int32) : Int32 := σ.1.1 (3 + m.toInt.toNat)
abbrev mH (σ : Sx) (m : Int32) : Int32 := σ.1.1 (11 + m.toInt.toNat)
abbrev mF (σ : Sx) (m : Int32) : Nat → Int64 := mo σ.1.2 m.toInt.toNat
abbrev mK (σ : Sx) (m : Int32) : Prop := 0 ≤ m.toInt ∧ m.toInt < (σ.1.1 0).toInt
section AC
variable {L : List Nat} {K G : Nat → Nat} {Q : Nat → Nat → Option Nat} {I I1 : Nat → Nat → Int32} {J J1 : Nat → Nat → Int64} {x a s : Nat} {σ : Sx} {m o dx dy how : Int32}
theorem cxA_m (A : cxA Q I J x σ) (hm : mK σ m) : cxM Q I J (fm Q (an Q x) m.toInt.toNat) (mW σ m) (mH σ m) (mF σ m) ∧ okm (mW σ m).toInt (mH σ m).toInt (mF σ m) := by
  have lt : m.toInt.toNat < (σ.1.1 0).toInt.toNat := by have := hm; omega
  exact ⟨A.1.1.2.2.2.2.1 _ lt, A.1.1.1.2.2.1 _ lt⟩
theorem gr_fin (A : cxA Q I J x σ) (hm : mK σ m) (ea : fm Q (an Q x) m.toInt.toNat = a) (hj : okm (I a 0).toInt (I a 1).toInt (J (wo Q a)) → mkd Q I1 J1 s (I a 0) (I a 1) (growD (I a 0).toInt (I a 1).toInt (J (wo Q a)))) : cxM Q I1 J1 s (mW σ m) (mH σ m) (mkw (growD (mW σ m).toInt (mH σ m).toInt (mF σ m))) ∧ okm (mW σ m).toInt (mH σ m).toInt (mkw (growD (mW σ m).toInt (mH σ m).toInt (mF σ m))) := by
  obtain ⟨c, o⟩ := cxA_m A hm
  rw [ea] at c
  have r := cxM_mk (hj (cxM_ok c o).1)
  rw [c.1, c.2.1, growD_congr c.2.2.1] at r
  exact ⟨r, okm_mk o.1 o.2.1 growD_in⟩
theorem th_fin (A : cxA Q I J x σ) (hm : mK σ m) (ea : fm Q (an Q x) m.toInt.toNat = a) (hj : okm (I a 0).toInt (I a 1).toInt (J (wo Q a)) → mkd Q I1 J1 s (I a 0) (I a 1) (thinD (J (wo Q a)))) : cxM Q I1 J1 s (mW σ m) (mH σ m) (mkw (thinD (mF σ m))) ∧ okm (mW σ m).toInt (mH σ m).toInt (mkw (thinD (mF σ m))) := by
  obtain ⟨c, o⟩ := cxA_m A hm
  rw [ea] at c
  have r := cxM_mk (hj (cxM_ok c o).1)
  rw [c.1, c.2.1, thinD_congr c.2.2.1] at r
  exact ⟨r, okm_mk o.1 o.2.1 (thinD_in o.2.2)⟩
theorem jn_fin {b : Nat} (A : cxA Q I J x σ) (hm : mK σ m) (ho : mK σ o) (ea : fm Q (an Q x) m.toInt.toNat = a) (eb : fm Q (an Q x) o.toInt.toNat = b) (hj : okm (I a 0).toInt (I a 1).toInt (J (wo Q a)) → okm (I b 0).toInt (I b 1).toInt (J (wo Q b)) → mkd Q I1 J1 s (I a 0) (I a 1) (joinD (I a 0).toInt (I a 1).toInt (J (wo Q a)) (J (wo Q b)) dx.toInt dy.toInt how.toInt)) : cxM Q I1 J1 s (mW σ m) (mH σ m) (mkw (joinD (mW σ m).toInt (mH σ m).toInt (mF σ m) (mF σ o) dx.toInt dy.toInt how.toInt)) ∧ okm (mW σ m).toInt (mH σ m).toInt (mkw (joinD (mW σ m).toInt (mH σ m).toInt (mF σ m) (mF σ o) dx.toInt dy.toInt how.toInt)) := by
  obtain ⟨c, k⟩ := cxA_m A hm
  obtain ⟨c2, k2⟩ := cxA_m A ho
  rw [ea] at c
  rw [eb] at c2
  have r := cxM_mk (hj (cxM_ok c k).1 (cxM_ok c2 k2).1)
  rw [c.1, c.2.1, joinD_congr c.2.2.1 c2.2.2.1] at r
  exact ⟨r, okm_mk k.1 k.2.1 joinD_in⟩
theorem qu_fin (A : cxA Q I J x σ) (hm : mK σ m) (hw : (mW σ m).toInt ≤ 40) (ea : fm Q (an Q x) m.toInt.toNat = a) (hj : okm (I a 0).toInt (I a 1).toInt (J (wo Q a)) → mkd Q I1 J1 s (I a 1) (I a 0) (quarD (I a 1).toInt (J (wo Q a)))) : cxM Q I1 J1 s (mH σ m) (mW σ m) (mkw (quarD (mH σ m).toInt (mF σ m))) ∧ okm (mH σ m).toInt (mW σ m).toInt (mkw (quarD (mH σ m).toInt (mF σ m))) := by
  obtain ⟨c, k⟩ := cxA_m A hm
  rw [ea] at c
  have r := cxM_mk (hj (cxM_ok c k).1)
  rw [c.1, c.2.1, quarD_congr c.2.2.1] at r
  exact ⟨r, okm_mk (by have := k.2.1; omega) (by have := k.1; omega) (fun u v q => by have := quarD_in k.2.2 u v q; omega)⟩
/-- another mask than those in use changes -/
theorem cxA_sk (hQ : Sv L K G Q) (hL : x ∈ L) (hK : K x = 6) (hKs : K s = 3) (hg : 400 ≤ G s ∧ G s < 500) (fI : ∀ b, ¬ b = s → I1 b = I b) (fJ : ∀ b, ¬ (K b = 12 ∧ (G b = G s)) → J1 b = J b) (h : cxA Q I J x σ) : cxA Q I1 J1 x σ := by
  have nx := fI x (ne_k hK hKs (by decide))
  refine cxA_fr (P := fun r => rg r ∨ r = 2) hQ extW_refl hL hK (fun _ _ => rfl) rfl (by rw [nx]) (by rw [nx]) (by omega) (by omega) (by omega) (by omega) (fun j _ => by have := Nat.mod_lt ((I x 9).toInt.toNat + j) (show 10 > 0 by decide); omega) (fun b hb hk hp => fI b (fun z => ?_)) (fun b hb hk hp => fJ b (fun z => ?_)) h
  · rw [z] at hp; have hp2 : (rg (G s) ∨ G s = 2) ∨ (rg (G s / 100) ∨ G s / 100 = 2) := hp; omega
  · have z2 := z.2; have hp2 : rg (G b / 100) ∨ G b / 100 = 2 := hp; omega
end AC
theorem totr_b (f : Nat → Int64) : (0 : Int) ≤ (totr f 40 : Int) ∧ (totr f 40 : Int) ≤ 5120 := by have := totr_le f 40; omega
/-- grown or thinned: g says which words -/
noncomputable def chA (σ : Sx) (m : Int32) (g : Nat → Int64) (up : Bool) : Int × Sx := haveI : ∀ p : Prop, Decidable p := Classical.propDecidable; if mK σ m then (if (totr g 40 : Int) = (totr (mF σ m) 40 : Int) then (-2, σ) else ((if up then (totr g 40 : Int) - (totr (mF σ m) 40 : Int) else (totr (mF σ m) 40 : Int) - (totr g 40 : Int)), (setM σ.1 m.toInt.toNat (mW σ m) (mH σ m) g, (rem σ).2))) else (-1, σ)
theorem ch_n {σ : Sx} {m : Int32} {g : Nat → Int64} {up : Bool} (h : ¬ mK σ m) : chA σ m g up = (-1, σ) := by unfold chA; rw [if_neg h]
theorem ch_e {σ : Sx} {m : Int32} {g : Nat → Int64} {up : Bool} (h : mK σ m) (e : (totr g 40 : Int) = (totr (mF σ m) 40 : Int)) : chA σ m g up = (-2, σ) := by unfold chA; rw [if_pos h, if_pos e]
theorem ch_y {σ : Sx} {m : Int32} {g : Nat → Int64} {up : Bool} (h : mK σ m) (e : ¬ (totr g 40 : Int) = (totr (mF σ m) 40 : Int)) : chA σ m g up = ((if up then (totr g 40 : Int) - (totr (mF σ m) 40 : Int) else (totr (mF σ m) 40 : Int) - (totr g 40 : Int)), (setM σ.1 m.toInt.toNat (mW σ m) (mH σ m) g, (rem σ).2)) := by unfold chA; rw [if_pos h, if_neg e]; cases up <;> simp
def jnC (σ : Sx) (m o dx dy how : Int32) : Prop := mK σ m ∧ mK σ o ∧ (-99 ≤ dx.toInt ∧ dx.toInt ≤ 99) ∧ (-99 ≤ dy.toInt ∧ dy.toInt ≤ 99) ∧ (0 ≤ how.toInt ∧ how.toInt ≤ 3)
abbrev jnW (σ : Sx) (m o dx dy how : Int32) : Nat → Int64 := mkw (joinD (mW σ m).toInt (mH σ m).toInt (mF σ m) (mF σ o) dx.toInt dy.toInt how.toInt)
noncomputable def jnA (σ : Sx) (m o dx dy how : Int32) : Int × Sx := haveI : ∀ p : Prop, Decidable p := Classical.propDecidable; if jnC σ m o dx dy how then ((totr (jnW σ m o dx dy how) 40 : Int), (setM σ.1 m.toInt.toNat (mW σ m) (mH σ m) (jnW σ m o dx dy how), (rem σ).2)) else (-1, σ)
theorem jn_n {σ : Sx} {m o dx dy how : Int32} (h : ¬ jnC σ m o dx dy how) : jnA σ m o dx dy how = (-1, σ) := by unfold jnA; rw [if_neg h]
theorem jn_y {σ : Sx} {m o dx dy how : Int32} (h : jnC σ m o dx dy how) : jnA σ m o dx dy how = ((totr (jnW σ m o dx dy how) 40 : Int), (setM σ.1 m.toInt.toNat (mW σ m) (mH σ m) (jnW σ m o dx dy how), (rem σ).2)) := by unfold jnA; rw [if_pos h]
abbrev quW (σ : Sx) (m : Int32) : Nat → Int64 := mkw (quarD (mH σ m).toInt (mF σ m))
noncomputable def quA (σ : Sx) (m : Int32) : Int × Sx := haveI : ∀ p : Prop, Decidable p := Classical.propDecidable; if mK σ m then (if (mW σ m).toInt ≤ 40 then ((mH σ m).toInt, (setM σ.1 m.toInt.toNat (mH σ m) (mW σ m) (quW σ m), (rem σ).2)) else (-2, σ)) else (-1, σ)
theorem qu_n {σ : Sx} {m : Int32} (h : ¬ mK σ m) : quA σ m = (-1, σ) := by unfold quA; rw [if_neg h]
theorem qu_e {σ : Sx} {m : Int32} (h : mK σ m) (e : ¬ (mW σ m).toInt ≤ 40) : quA σ m = (-2, σ) := by unfold quA; rw [if_pos h, if_neg e]
theorem qu_y {σ : Sx} {m : Int32} (h : mK σ m) (e : (mW σ m).toInt ≤ 40) : quA σ m = ((mH σ m).toInt, (setM σ.1 m.toInt.toNat (mH σ m) (mW σ m) (quW σ m), (rem σ).2)) := by unfold quA; rw [if_pos h, if_pos e]
/-! a dot turned; undone, kept -/
def togD (f : Nat → Int64) (x0 y0 x y : Int) : Bool := md f x y ^^ decide (x = x0 ∧ y = y0)
def tuC (σ : Sx) (m x y : Int32) : Prop := mK σ m ∧ (0 ≤ x.toInt ∧ x.toInt < (mW σ m).toInt ∧ 0 ≤ y.toInt ∧ y.toInt < (mH σ m).toInt)
abbrev tuW (σ : Sx) (m x y : Int32) : Nat → Int64 := mkw (togD (mF σ m) x.toInt y.toInt)
noncomputable def tuA (σ : Sx) (m x y : Int32) : Int × Sx := haveI : ∀ p : Prop, Decidable p := Classical.propDecidable; if tuC σ m x y then (bi (!md (mF σ m) x.toInt y.toInt), (setM σ.1 m.toInt.toNat (mW σ m) (mH σ m) (tuW σ m x y), (rem σ).2)) else (-1, σ)
theorem tu_n {σ : Sx} {m x y : Int32} (h : ¬ tuC σ m x y) : tuA σ m x y = (-1, σ) := by unfold tuA; rw [if_neg h]
theorem tu_y {σ : Sx} {m x y : Int32} (h : tuC σ m x y) : tuA σ m x y = (bi (!md (mF σ m) x.toInt y.toInt), (setM σ.1 m.toInt.toNat (mW σ m) (mH σ m) (tuW σ m x y), (rem σ).2)) := by unfold tuA; rw [if_pos h]
theorem rem_W (σ : Sx) (m : Int32) : mW (rem σ) m = mW σ m := by show (rem σ).1.1 _ = _; rw [rem_1]
theorem rem_H (σ : Sx) (m : Int32) : mH (rem σ) m = mH σ m := by show (rem σ).1.1 _ = _; rw [rem_1]
theorem rem_F (σ : Sx) (m : Int32) : mF (rem σ) m = mF σ m := by show mo (rem σ).1.2 _ = _; rw [rem_1]
theorem rem_K {σ : Sx} {m : Int32} (h : mK σ m) : mK (rem σ) m := by show 0 ≤ m.toInt ∧ m.toInt < ((rem σ).1.1 0).toInt; rw [rem_1]; exact h
section TU
variable {L : List Nat} {K G : Nat → Nat} {Q : Nat → Nat → Option Nat} {I I1 I2 : Nat → Nat → Int32} {J J1 J2 : Nat → Nat → Int64} {x a : Nat} {σ : Sx} {m px py : Int32}
theorem tu_fin (A : cxA Q I J x σ) (ht : tuC σ m px py) (ea : fm Q (an Q x) m.toInt.toNat = a) (hj : ∀ x y : Int, md (J1 (wo Q a)) x y = (md (J (wo Q a)) x y ^^ decide ((0 ≤ px.toInt ∧ px.toInt < (I a 0).toInt ∧ 0 ≤ py.toInt ∧ py.toInt < (I a 1).toInt) ∧ x = px.toInt ∧ y = py.toInt))) (k0 : I1 a 0 = I a 0) (k1 : I1 a 1 = I a 1) (hm : mcl (I a 0).toInt (I a 1).toInt (J1 (wo Q a)) → msr (J1 (wo Q a)) (I1 a 3).toInt (I1 a 4).toInt (I1 a 5).toInt (I1 a 6).toInt (I1 a 7).toInt) : cxM Q I1 J1 a (mW σ m) (mH σ m) (tuW σ m px py) ∧ okm (mW σ m).toInt (mH σ m).toInt (tuW σ m px py) := by
  obtain ⟨c, o⟩ := cxA_m A ht.1
  rw [ea] at c
  have e : ∀ x y : Int, md (J1 (wo Q a)) x y = togD (mF σ m) px.toInt py.toInt x y := fun x y => by
    rw [hj x y, md_congr c.2.2.1]
    unfold togD
    congr 1
    refine decide_eq_decide.mpr ⟨fun z => z.2, fun z => ⟨?_, z⟩⟩
    rw [c.1, c.2.1]; exact ht.2
  have D : ∀ x y, togD (mF σ m) px.toInt py.toInt x y = true → x < (mW σ m).toInt ∧ y < (mH σ m).toInt := fun x y q => by
    unfold togD at q
    cases w : md (mF σ m) x y with
    | true => exact o.2.2 x y w
    | false =>
      rw [w, Bool.false_xor, decide_eq_true_iff] at q
      have := ht.2
      omega
  refine ⟨cxM_mk ⟨k0.trans c.1, k1.trans c.2.1, fun x y _ _ _ _ => e x y, hm (fun x y q => ?_)⟩, okm_mk o.1 o.2.1 D⟩
  rw [e x y] at q
  rw [c.1, c.2.1]; exact D x y q
theorem tu_ans {z : Int32} {w h : Int32} {f : Nat → Int64} (c : cxM Q I1 J1 a w h (mkw (togD f px.toInt py.toInt))) (o : okm w.toInt h.toInt f) (hb : 0 ≤ px.toInt ∧ px.toInt < w.toInt ∧ 0 ≤ py.toInt ∧ py.toInt < h.toInt) (eI : I2 a = I1 a) (eJ : J2 (wo Q a) = J1 (wo Q a)) (hz : z.toInt = bi (hs (I2 a 0).toInt (I2 a 1).toInt (J2 (wo Q a)) px.toInt py.toInt)) : z.toInt = bi (!md f px.toInt py.toInt) := by
  rw [hz, eI, eJ, c.1, c.2.1]
  congr 1
  unfold hs
  have o1 := o.1
  have o2 := o.2.1
  rw [decide_eq_true hb, Bool.true_and, md_congr c.2.2.1, mkw_md (by omega) (by omega) (by omega) (by omega)]
  unfold togD
  rw [decide_eq_true ⟨rfl, rfl⟩, Bool.xor_true]
/-- fewer can be undone -/
theorem cxH_cnt {n : Nat} {u : Int32} (hQ : Sv L K G Q) (hL : x ∈ L) (hK : K x = 6) (hn : n ≤ σ.2.1) (e : I1 = va_up I x (upd (I x) 10 u)) (hu : u.toInt = (n : Int)) (h : cxH Q I J x σ) : cxH Q I1 J x (σ.1, n, σ.2.2) := by
  have g := x_g hQ hL hK
  have fr : ∀ b, ¬ b = x → I1 b = I b := fun b hb => by rw [e, va_up_ne _ _ hb]
  have e9 : I1 x 9 = I x 9 := by rw [e, rz_fr _ _ _ _ (by decide)]
  have key : ∀ F c, F ∈ L → K F = 1 → okF c → cxF Q I J F c → cxF Q I1 J F c := fun F c hF kF ok h => cxF_fr hQ extW_refl hF kF ok (fun b hb _ hk => fr b (fun z => by rw [z, hK] at hk; omega)) (fun _ _ _ _ => rfl) h
  obtain ⟨⟨a1, a2⟩, b, c, d, e5⟩ := h
  refine ⟨⟨a1, key _ _ g.1.1 g.1.2.1 a1 a2⟩, ⟨by rw [e, rz_at, hu], by show n ≤ 10; omega⟩, fun j hj => ?_, fun s hs => ?_, e5⟩
  · have hj : j < n := hj
    obtain ⟨c1, F, c2, c3⟩ := c j (by omega)
    have pg := p_g hQ hL hK (Nat.mod_lt _ (by decide)) c2
    exact ⟨c1, F, by rw [e9]; exact c2, key _ _ pg.1 pg.2.1 c1 c3⟩
  · rcases d s hs with z | ⟨F, c, z1, z2, z3, z4⟩
    · exact Or.inl z
    · have sg := s_g hQ hL hK hs z1
      exact Or.inr ⟨F, c, z1, z2, z3, key _ _ sg.1 sg.2.1 z3 z4⟩
theorem cxA_cnt {n : Nat} {u : Int32} (hQ : Sv L K G Q) (hL : x ∈ L) (hK : K x = 6) (hn : n ≤ σ.2.1) (e : I1 = va_up I x (upd (I x) 10 u)) (hu : u.toInt = (n : Int)) (h : cxA Q I J x σ) : cxA Q I1 J x (σ.1, n, σ.2.2) := by
  have g := x_g hQ hL hK
  refine ⟨cxH_cnt hQ hL hK hn e hu h.1, cxS_fr hQ extW_refl g.2.2.2.1 g.2.2.2.2.1 h.1.1.1 (fun b hb _ hk => ?_) (fun _ _ _ _ => rfl) h.2⟩
  rw [e, va_up_ne _ _ (fun z => by rw [z, hK] at hk; exact absurd hk (by decide))]
/-- now becomes as another field -/
theorem cxH_becn {F : Nat} {c : Fx} (hQ : Sv L K G Q) (hL : x ∈ L) (hK : K x = 6) (hG : neF 1 (G F)) (ok : okF c) (hc : cxF Q I J F c) (hb : neF (G (an Q x)) (G F) → ∀ c : Fx, okF c → cxF Q I J F c → cxF Q I1 J1 (an Q x) c) (fI : ∀ b, ¬ ((G b = G (an Q x) ∨ G b / 100 = G (an Q x)) ∧ ¬ K b = 6) → I1 b = I b) (fJ : ∀ b, ¬ (K b = 12 ∧ (G b / 100 = G (an Q x))) → J1 b = J b) (h : cxH Q I J x σ) : cxH Q I1 J1 x (c, σ.2) := by
  have g := x_g hQ hL hK
  have g1 := g.1.2.2
  rw [g1] at hb fI fJ
  have nx := fI x (fun z => z.2 hK)
  exact cxH_now hQ hL hK ok (hb hG c ok hc) (by rw [nx]) (by rw [nx]) (fun b hb _ hp => fI b (fun z => by have := z.1; omega)) (fun b hb hk hp => fJ b (fun z => hp.2 z.2)) h
end TU
def unA (σ : Sx) : Int × Sx := if σ.2.1 = 0 then (-1, σ) else ((σ.2.1 : Int) - 1, (σ.2.2.1 (σ.2.1 - 1), σ.2.1 - 1, σ.2.2))
theorem un_n {σ : Sx} (h : σ.2.1 = 0) : unA σ = (-1, σ) := by unfold unA; rw [if_pos h]
theorem un_y {σ : Sx} (h : ¬ σ.2.1 = 0) : unA σ = ((σ.2.1 : Int) - 1, (σ.2.2.1 (σ.2.1 - 1), σ.2.1 - 1, σ.2.2)) := by unfold unA; rw [if_neg h]
def bkA (σ : Sx) (k : Int32) : Int × Sx := if 0 ≤ k.toInt ∧ k.toInt ≤ 1 then (match σ.2.2.2 k.toInt.toNat with | none => (-2, σ) | some c => ((c.1 1).toInt, (c, 0, σ.2.2))) else (-1, σ)
theorem bk_n {σ : Sx} {k : Int32} (h : ¬ (0 ≤ k.toInt ∧ k.toInt ≤ 1)) : bkA σ k = (-1, σ) := by unfold bkA; rw [if_neg h]
theorem bk_e {σ : Sx} {k : Int32} (h : 0 ≤ k.toInt ∧ k.toInt ≤ 1) (e : σ.2.2.2 k.toInt.toNat = none) : bkA σ k = (-2, σ) := by unfold bkA; rw [if_pos h, e]
theorem bk_y {σ : Sx} {k : Int32} {c : Fx} (h : 0 ≤ k.toInt ∧ k.toInt ≤ 1) (e : σ.2.2.2 k.toInt.toNat = some c) : bkA σ k = ((c.1 1).toInt, (c, 0, σ.2.2)) := by unfold bkA; rw [if_pos h, e]
def kpA (σ : Sx) (k : Int32) : Int × Sx := if 0 ≤ k.toInt ∧ k.toInt ≤ 1 then ((σ.1.1 1).toInt, (σ.1, σ.2.1, σ.2.2.1, fun s => if s = k.toInt.toNat then some σ.1 else σ.2.2.2 s)) else (-1, σ)
theorem kp_n {σ : Sx} {k : Int32} (h : ¬ (0 ≤ k.toInt ∧ k.toInt ≤ 1)) : kpA σ k = (-1, σ) := by unfold kpA; rw [if_neg h]
theorem kp_y {σ : Sx} {k : Int32} (h : 0 ≤ k.toInt ∧ k.toInt ≤ 1) : kpA σ k = ((σ.1.1 1).toInt, (σ.1, σ.2.1, σ.2.2.1, fun s => if s = k.toInt.toNat then some σ.1 else σ.2.2.2 s)) := by unfold kpA; rw [if_pos h]
/-- all but what lies on shelf k -/
def cxK (Q : Nat → Nat → Option Nat) (I : Nat → Nat → Int32) (J : Nat → Nat → Int64) (x : Nat) (σ : Sx) (k : Nat) : Prop := ((okF σ.1 ∧ cxF Q I J (an Q x) σ.1) ∧ ((I x 10).toInt = (σ.2.1 : Int) ∧ σ.2.1 ≤ 10) ∧ (∀ j, j < σ.2.1 → okF (σ.2.2.1 j) ∧ ∃ F, Q (pa Q x) (((I x 9).toInt.toNat + j) % 10) = some F ∧ cxF Q I J F (σ.2.2.1 j)) ∧ (∀ s, s < 2 → ¬ s = k → (Q (sa Q x) s = none ∧ σ.2.2.2 s = none) ∨ ∃ F c, Q (sa Q x) s = some F ∧ σ.2.2.2 s = some c ∧ okF c ∧ cxF Q I J F c) ∧ nf Q (se Q x) = an Q x) ∧ cxS Q I J (se Q x) σ.1
theorem cxK_of {Q : Nat → Nat → Option Nat} {I : Nat → Nat → Int32} {J : Nat → Nat → Int64} {x k : Nat} {σ : Sx} (h : cxA Q I J x σ) : cxK Q I J x σ k := ⟨⟨h.1.1, h.1.2.1, h.1.2.2.1, fun s hs _ => h.1.2.2.2.1 s hs, h.1.2.2.2.2⟩, h.2⟩
section KP
variable {L : List Nat} {K G : Nat → Nat} {Q Q1 : Nat → Nat → Option Nat} {I I1 : Nat → Nat → Int32} {J J1 : Nat → Nat → Int64} {x k : Nat} {σ : Sx}
theorem cxK_ast {q : Nat} (hQ : Sv L K G Q) (hL : x ∈ L) (hK : K x = 6) (e : Q1 = va_up Q (sa Q x) (va_up (Q (sa Q x)) k (some q))) (h : cxA Q I J x σ) : cxK Q1 I J x σ k := by
  have g := x_g hQ hL hK
  have hE : extW L K G Q L K G Q1 := by rw [e]; exact extW_ast extW_refl (Or.inr g.2.2.1.2)
  obtain ⟨x1, x2, x3, x4, x5⟩ := ext_x hQ hE hL hK
  have key : ∀ F c, F ∈ L → K F = 1 → okF c → cxF Q I J F c → cxF Q1 I J F c := fun F c hF kF ok h => cxF_fr hQ hE hF kF ok (fun _ _ _ _ => rfl) (fun _ _ _ _ => rfl) h
  obtain ⟨⟨⟨a1, a2⟩, b, c, d, e5⟩, hs⟩ := h
  refine ⟨⟨⟨a1, by rw [x1]; exact key _ _ g.1.1 g.1.2.1 a1 a2⟩, b, fun j hj => ?_, fun s hs2 hn => ?_, by rw [x4, x5, x1]; exact e5⟩, by rw [x4]; exact cxS_fr hQ hE g.2.2.2.1 g.2.2.2.2.1 a1 (fun _ _ _ _ => rfl) (fun _ _ _ _ => rfl) hs⟩
  · obtain ⟨c1, F, c2, c3⟩ := c j hj
    have pg := p_g hQ hL hK (Nat.mod_lt _ (by decide)) c2
    exact ⟨c1, F, by rw [x2, e, va_up_ne _ _ (ne_k g.2.1.2 g.2.2.1.2 (by decide))]; exact c2, key _ _ pg.1 pg.2.1 c1 c3⟩
  · rw [x3, e, va_up_self, va_up_ne _ _ hn]
    rcases d s hs2 with z | ⟨F, c, z1, z2, z3, z4⟩
    · exact Or.inl z
    · have sg := s_g hQ hL hK hs2 z1
      rw [← e]
      exact Or.inr ⟨F, c, z1, z2, z3, key _ _ sg.1 sg.2.1 z3 z4⟩
/-- the field on shelf k becomes as the one now -/
theorem cxK_fin {F : Nat} (hQ : Sv L K G Q) (hL : x ∈ L) (hK : K x = 6) (hk : k < 2) (eF : Q (sa Q x) k = some F) (hb : neF (G F) (G (an Q x)) → ∀ c : Fx, okF c → cxF Q I J (an Q x) c → cxF Q I1 J1 F c) (fI : ∀ b, ¬ ((G b = G F ∨ G b / 100 = G F) ∧ ¬ K b = 6) → I1 b = I b) (fJ : ∀ b, ¬ (K b = 12 ∧ (G b / 100 = G F)) → J1 b = J b) (h : cxK Q I J x σ k) : cxA Q I1 J1 x (σ.1, σ.2.1, σ.2.2.1, fun s => if s = k then some σ.1 else σ.2.2.2 s) := by
  have g := x_g hQ hL hK
  have sF := s_g hQ hL hK hk eF
  have g1 := g.1.2.2
  have gF := sF.2.2
  rw [g1] at hb
  have nx := fI x (fun z => z.2 hK)
  have key : ∀ F2 c, F2 ∈ L → K F2 = 1 → ¬ G F2 = G F → G F2 < 100 → 1 ≤ G F2 → okF c → cxF Q I J F2 c → cxF Q I1 J1 F2 c := fun F2 c hF kF n1 n2 n3 ok h => cxF_fr hQ extW_refl hF kF ok (fun b hb hg hk => fI b (fun z => by have := z.1; omega)) (fun b hb hk hg => fJ b (fun z => by have := z.2; omega)) h
  obtain ⟨⟨⟨a1, a2⟩, b, c, d, e5⟩, hs⟩ := h
  refine ⟨⟨⟨a1, key _ _ g.1.1 g.1.2.1 (by omega) (by omega) (by omega) a1 a2⟩, ⟨by rw [nx]; exact b.1, b.2⟩, fun j hj => ?_, fun s hs2 => ?_, e5⟩, cxS_fr hQ extW_refl g.2.2.2.1 g.2.2.2.2.1 a1 (fun b hb hg hk => fI b (fun z => by have := z.1; omega)) (fun b hb hk hg => fJ b (fun z => by have := z.2; omega)) hs⟩
  · obtain ⟨c1, F2, c2, c3⟩ := c j hj
    have pg := p_g hQ hL hK (Nat.mod_lt _ (by decide)) c2
    have lt := Nat.mod_lt ((I x 9).toInt.toNat + j) (show 10 > 0 by decide)
    exact ⟨c1, F2, by rw [nx]; exact c2, key _ _ pg.1 pg.2.1 (by omega) (by omega) (by omega) c1 c3⟩
  · show (_ ∧ (if s = k then some σ.1 else σ.2.2.2 s) = none) ∨ ∃ F c, _ ∧ (if s = k then some σ.1 else σ.2.2.2 s) = some c ∧ _
    by_cases q : s = k
    · rw [if_pos q, q]
      exact Or.inr ⟨F, σ.1, eF, rfl, a1, hb ⟨⟨by omega, by omega, by omega⟩, by omega, by omega⟩ σ.1 a1 a2⟩
    · rw [if_neg q]
      rcases d s hs2 q with z | ⟨F2, c, z1, z2, z3, z4⟩
      · exact Or.inl z
      · have sg := s_g hQ hL hK hs2 z1
        exact Or.inr ⟨F2, c, z1, z2, z3, key _ _ sg.1 sg.2.1 (by omega) (by omega) (by omega) z3 z4⟩
end KP
theorem rem_tu {σ : Sx} {m x y : Int32} (h : tuC σ m x y) : tuC (rem σ) m x y := by
  refine ⟨rem_K h.1, ?_⟩
  rw [rem_W, rem_H]; exact h.2
theorem rem_T (σ : Sx) (m x y : Int32) : tuW (rem σ) m x y = tuW σ m x y := by
  show mkw (togD (mF (rem σ) m) _ _) = _
  rw [rem_F]
/-! All that the reference holds -/
def a0 (Q : Nat → Nat → Option Nat) (m i : Nat) : Nat := (Q m i).getD 0
def isF (I : Nat → Nat → Int32) (J : Nat → Nat → Int64) (a b o : Nat) (c : Fx) : Prop := (∀ k, k < 99 → I a (99 * o + k) = c.1 k) ∧ ∀ k, k < 640 → J b (640 * o + k) = c.2 k
def cmA (Q : Nat → Nat → Option Nat) (I : Nat → Nat → Int32) (J : Nat → Nat → Int64) (m : Nat) (σ : Sx) : Prop := isF I J (a0 Q m 0) (a0 Q m 5) 0 σ.1 ∧ ((I m 11).toInt = (σ.2.1 : Int) ∧ σ.2.1 ≤ 10) ∧ (∀ j, j < σ.2.1 → isF I J (a0 Q m 3) (a0 Q m 8) j (σ.2.2.1 j)) ∧ ∀ s, s < 2 → (I (a0 Q m 10) s = 0 ∧ σ.2.2.2 s = none) ∨ (¬ I (a0 Q m 10) s = 0 ∧ ∃ c, σ.2.2.2 s = some c ∧ isF I J (a0 Q m 4) (a0 Q m 9) s c)
theorem mv_to {I I1 : Nat → Nat → Int32} {J J1 : Nat → Nat → Int64} {p0 p1 p3 p4 T W : Nat} {c : Fx} (h : isF I J p0 p1 W c) (ci : cpd 99 T W (I p0) (I p3) (I1 p3)) (cj : cpd 640 T W (J p1) (J p4) (J1 p4)) : isF I1 J1 p3 p4 T c := ⟨fun k hk => (ci.1 k hk).trans (h.1 k hk), fun k hk => (cj.1 k hk).trans (h.2 k hk)⟩
theorem mv_oth {I I1 : Nat → Nat → Int32} {J J1 : Nat → Nat → Int64} {s0 p3 p4 T W j : Nat} {si : Nat → Int32} {sj : Nat → Int64} {c : Fx} (h : isF I J p3 p4 j c) (hj : ¬ j = T) (ci : cpd 99 T W si (I p3) (I1 p3)) (cj : cpd 640 T W sj (J p4) (J1 p4)) : isF I1 J1 p3 p4 j c := ⟨fun k hk => (ci.2 _ (by omega)).trans (h.1 k hk), fun k hk => (cj.2 _ (by omega)).trans (h.2 k hk)⟩
theorem isF_fr {I I1 : Nat → Nat → Int32} {J J1 : Nat → Nat → Int64} {a b o : Nat} {c : Fx} (e1 : I1 a = I a) (e2 : J1 b = J b) (h : isF I J a b o c) : isF I1 J1 a b o c := by unfold isF at h ⊢; rw [e1, e2]; exact h
def morc (σ : Sx) (c : Fx) : Sx := (σ.1, σ.2.1 + 1, fun j => if j = σ.2.1 then c else σ.2.2.1 j, σ.2.2.2)
theorem shf_1 (σ : Sx) : (shf σ).1 = σ.1 := by unfold shf; split <;> rfl
theorem rem_c (σ : Sx) : rem σ = morc (shf σ) σ.1 := by
  show mor (shf σ) = _
  unfold mor morc
  rw [shf_1]
section CMA
variable {L : List Nat} {K G : Nat → Nat} {Q : Nat → Nat → Option Nat} {I I1 I2 : Nat → Nat → Int32} {J J1 : Nat → Nat → Int64} {m : Nat} {σ : Sx}
theorem a_g (hQ : Sv L K G Q) (hL : m ∈ L) (hK : K m = 7) : (K (a0 Q m 0) = 18 ∧ K (a0 Q m 5) = 21) ∧ (K (a0 Q m 3) = 19 ∧ K (a0 Q m 8) = 22) ∧ (K (a0 Q m 4) = 20 ∧ K (a0 Q m 9) = 23) ∧ K (a0 Q m 10) = 24 ∧ (K (a0 Q m 2) = 30 ∧ K (a0 Q m 7) = 33) := by
  obtain ⟨y0, e0, l0, k0⟩ := oQ_7_0 (Sv_at hQ hL hK)
  obtain ⟨y5, e5, l5, k5⟩ := oQ_7_5 (Sv_at hQ hL hK)
  obtain ⟨y3, e3, l3, k3⟩ := oQ_7_3 (Sv_at hQ hL hK)
  obtain ⟨y8, e8, l8, k8⟩ := oQ_7_8 (Sv_at hQ hL hK)
  obtain ⟨y4, e4, l4, k4⟩ := oQ_7_4 (Sv_at hQ hL hK)
  obtain ⟨y9, e9, l9, k9⟩ := oQ_7_9 (Sv_at hQ hL hK)
  obtain ⟨y10, e10, l10, k10⟩ := oQ_7_10 (Sv_at hQ hL hK)
  obtain ⟨y2, e2, l2, k2⟩ := oQ_7_2 (Sv_at hQ hL hK)
  obtain ⟨y7, e7, l7, k7⟩ := oQ_7_7 (Sv_at hQ hL hK)
  unfold a0
  rw [gd_of e0, gd_of e5, gd_of e3, gd_of e8, gd_of e4, gd_of e9, gd_of e10, gd_of e2, gd_of e7]
  exact ⟨⟨k0, k5⟩, ⟨k3, k8⟩, ⟨k4, k9⟩, k10, k2, k7⟩
/-- the field now is another one; no more can be undone than before -/
theorem cmA_now {n : Nat} {c : Fx} (hQ : Sv L K G Q) (hL : m ∈ L) (hK : K m = 7) (hc : isF I1 J1 (a0 Q m 0) (a0 Q m 5) 0 c) (fI : ∀ b, K b = 19 ∨ K b = 20 ∨ K b = 24 → I1 b = I b) (fJ : ∀ b, K b = 22 ∨ K b = 23 → J1 b = J b) (hn : (I1 m 11).toInt = (n : Int)) (hn2 : n ≤ σ.2.1) (A : cmA Q I J m σ) : cmA Q I1 J1 m (c, n, σ.2.2) := by
  have g := a_g hQ hL hK
  obtain ⟨a, b, d, e⟩ := A
  refine ⟨hc, ⟨hn, by show n ≤ 10; omega⟩, fun j hj => ?_, fun s hs => ?_⟩
  · have hj : j < n := hj
    exact isF_fr (fI _ (Or.inl g.2.1.1)) (fJ _ (Or.inl g.2.1.2)) (d j (by omega))
  · rw [fI _ (Or.inr (Or.inr g.2.2.2.1))]
    rcases e s hs with z | ⟨z1, c2, z2, z3⟩
    · exact Or.inl z
    · exact Or.inr ⟨z1, c2, z2, isF_fr (fI _ (Or.inr (Or.inl g.2.2.1.1))) (fJ _ (Or.inr g.2.2.1.2)) z3⟩
theorem cmA_fr (hQ : Sv L K G Q) (hL : m ∈ L) (hK : K m = 7) (fI : ∀ b, K b = 18 ∨ K b = 19 ∨ K b = 20 ∨ K b = 24 → I1 b = I b) (fJ : ∀ b, K b = 21 ∨ K b = 22 ∨ K b = 23 → J1 b = J b) (h11 : I1 m 11 = I m 11) (A : cmA Q I J m σ) : cmA Q I1 J1 m σ := by
  have g := a_g hQ hL hK
  exact cmA_now (n := σ.2.1) hQ hL hK (isF_fr (fI _ (Or.inl g.1.1)) (fJ _ (Or.inl g.1.2)) A.1) (fun b hb => fI b (by omega)) (fun b hb => fJ b (by omega)) (by rw [h11]; exact A.2.1.1) (Nat.le_refl _) A
theorem ra_step {P D v : Nat} {f : Nat → Fx} (h : ∀ j, j < 10 → isF I J P D j (if j + 1 < v then f (j + 1) else f j)) (hv : 1 ≤ v ∧ v < 10) {T v2 : Nat} (hT : T = v - 1) (hv2 : v2 = v + 1) (ci : cpd 99 T v (I P) (I P) (I1 P)) (cj : cpd 640 T v (J D) (J D) (J1 D)) : ∀ j, j < 10 → isF I1 J1 P D j (if j + 1 < v2 then f (j + 1) else f j) := fun j hj => by
  subst hT hv2
  by_cases q : j = v - 1
  · have w := h v hv.2
    rw [if_neg (by omega)] at w
    rw [if_pos (by omega), q, show v - 1 + 1 = v by omega]
    exact mv_to w ci cj
  · have w := h j hj
    have e : (if j + 1 < v + 1 then f (j + 1) else f j) = (if j + 1 < v then f (j + 1) else f j) := by
      by_cases u : j + 1 < v
      · rw [if_pos u, if_pos (by omega)]
      · rw [if_neg u, if_neg (by omega)]
    rw [e]
    exact mv_oth (s0 := 0) w q ci cj
theorem cmA_shf (hQ : Sv L K G Q) (hL : m ∈ L) (hK : K m = 7) (hn : (I m 11).toInt = 10) (hp : σ.2.1 = 10 → ∀ j, j < 10 → isF I1 J1 (a0 Q m 3) (a0 Q m 8) j (if j + 1 < 10 then σ.2.2.1 (j + 1) else σ.2.2.1 j)) (fI : ∀ b, K b = 18 ∨ K b = 20 ∨ K b = 24 → I1 b = I b) (fJ : ∀ b, K b = 21 ∨ K b = 23 → J1 b = J b) (h11 : (I1 m 11).toInt = 9) (A : cmA Q I J m σ) : cmA Q I1 J1 m (shf σ) := by
  have g := a_g hQ hL hK
  have n10 : σ.2.1 = 10 := by have := A.2.1.1; omega
  obtain ⟨a, b, d, e⟩ := A
  unfold shf
  rw [if_pos n10]
  refine ⟨isF_fr (fI _ (Or.inl g.1.1)) (fJ _ (Or.inl g.1.2)) a, ⟨h11, by show (9 : Nat) ≤ 10; decide⟩, fun j hj => ?_, fun s hs => ?_⟩
  · have hj : j < 9 := hj
    have w := hp n10 j (by omega)
    rw [if_pos (by omega)] at w
    exact w
  · rw [fI _ (Or.inr (Or.inr g.2.2.2.1))]
    rcases e s hs with z | ⟨z1, c2, z2, z3⟩
    · exact Or.inl z
    · exact Or.inr ⟨z1, c2, z2, isF_fr (fI _ (Or.inr (Or.inl g.2.2.1.1))) (fJ _ (Or.inr g.2.2.1.2)) z3⟩
theorem cmA_more {T : Nat} {u : Int32} {c : Fx} (hQ : Sv L K G Q) (hL : m ∈ L) (hK : K m = 7) (hn : σ.2.1 ≤ 9) (hT : T = σ.2.1) (hc : isF I J (a0 Q m 2) (a0 Q m 7) 0 c) (ci : cpd 99 T 0 (I (a0 Q m 2)) (I (a0 Q m 3)) (I1 (a0 Q m 3))) (cj : cpd 640 T 0 (J (a0 Q m 7)) (J (a0 Q m 8)) (J1 (a0 Q m 8))) (fI : ∀ b, ¬ b = a0 Q m 3 → I1 b = I b) (fJ : ∀ b, ¬ K b = 22 → J1 b = J b) (e2 : I2 = va_up I1 m (upd (I1 m) 11 u)) (hu : u.toInt = (I m 11).toInt + 1) (A : cmA Q I J m σ) : cmA Q I2 J1 m (morc σ c) := by
  have g := a_g hQ hL hK
  have f2 : ∀ b, ¬ b = m → I2 b = I1 b := fun b hb => by rw [e2, va_up_ne _ _ hb]
  have nm : ∀ b κ, K b = κ → ¬ κ = 7 → ¬ b = m := fun b κ hb hκ => ne_k hb hK hκ
  have fr : ∀ b κ, K b = κ → ¬ κ = 7 → ¬ κ = 19 → I2 b = I b := fun b κ hb h7 h19 => (f2 b (nm b κ hb h7)).trans (fI b (ne_k hb g.2.1.1 h19))
  have e3 : I2 (a0 Q m 3) = I1 (a0 Q m 3) := f2 _ (nm _ _ g.2.1.1 (by decide))
  obtain ⟨a, b, d, e⟩ := A
  refine ⟨isF_fr (fr _ _ g.1.1 (by decide) (by decide)) (fJ _ (by rw [g.1.2]; decide)) a, ⟨?_, by show σ.2.1 + 1 ≤ 10; omega⟩, fun j hj => ?_, fun s hs => ?_⟩
  · rw [e2, rz_at, hu, b.1]; show (σ.2.1 : Int) + 1 = ((σ.2.1 + 1 : Nat) : Int); omega
  · have hj : j < σ.2.1 + 1 := hj
    show isF I2 J1 _ _ j (if j = σ.2.1 then c else σ.2.2.1 j)
    refine isF_fr (I := I1) (J := J1) e3 rfl ?_
    by_cases q : j = σ.2.1
    · rw [if_pos q, q, ← hT]; exact mv_to hc ci cj
    · rw [if_neg q]; exact mv_oth (s0 := 0) (d j (by omega)) (by omega) ci cj
  · rw [fr _ _ g.2.2.2.1 (by decide) (by decide)]
    rcases e s hs with z | ⟨z1, c2, z2, z3⟩
    · exact Or.inl z
    · exact Or.inr ⟨z1, c2, z2, isF_fr (fr _ _ g.2.2.1.1 (by decide) (by decide)) (fJ _ (by rw [g.2.2.1.2]; decide)) z3⟩
theorem cmA_setB {b k : Nat} {v : Int32} (hQ : Sv L K G Q) (hL : m ∈ L) (hK : K m = 7) (hi : 19 + 8 * b + k < 99) (e : I1 (a0 Q m 0) = upd (I (a0 Q m 0)) (19 + 8 * b + k) v) (fI : ∀ b, ¬ (K b = 18) → I1 b = I b) (A : cmA Q I J m σ) : cmA Q I1 J m (setB σ.1 b k v, σ.2) := by
  have g := a_g hQ hL hK
  refine cmA_now (n := σ.2.1) hQ hL hK ⟨fun j hj => ?_, A.1.2⟩ (fun b hb => fI b (by omega)) (fun _ _ => rfl) (by rw [fI m (by rw [hK]; decide)]; exact A.2.1.1) (Nat.le_refl _) A
  show I1 (a0 Q m 0) (99 * 0 + j) = upd σ.1.1 (19 + 8 * b + k) v j
  rw [e]
  unfold upd
  have w := A.1.1 j hj
  rw [show 99 * 0 + j = j by omega] at w ⊢
  rw [w]
theorem cmA_n (A : cmA Q I J m σ) {k : Nat} (hk : k < 99) : I (a0 Q m 0) k = σ.1.1 k := by
  have w := A.1.1 k hk
  rw [show 99 * 0 + k = k by omega] at w; exact w
end CMA
theorem cmA_kept {L : List Nat} {K G : Nat → Nat} {Q : Nat → Nat → Option Nat} {I I1 : Nat → Nat → Int32} {J J1 : Nat → Nat → Int64} {m k : Nat} {v : Int32} {σ : Sx} (hQ : Sv L K G Q) (hL : m ∈ L) (hK : K m = 7) (hv : ¬ v = 0) (e : I1 (a0 Q m 10) = upd (I (a0 Q m 10)) k v) (hc : isF I1 J1 (a0 Q m 4) (a0 Q m 9) k σ.1) (ho : ∀ s c, ¬ s = k → isF I J (a0 Q m 4) (a0 Q m 9) s c → isF I1 J1 (a0 Q m 4) (a0 Q m 9) s c) (fI : ∀ b, ¬ K b = 20 → ¬ K b = 24 → I1 b = I b) (fJ : ∀ b, ¬ (K b = 23) → J1 b = J b) (A : cmA Q I J m σ) : cmA Q I1 J1 m (σ.1, σ.2.1, σ.2.2.1, fun s => if s = k then some σ.1 else σ.2.2.2 s) := by
  have g := a_g hQ hL hK
  obtain ⟨a, b, d, e5⟩ := A
  refine ⟨isF_fr (fI _ (by rw [g.1.1]; decide) (by rw [g.1.1]; decide)) (fJ _ (by rw [g.1.2]; decide)) a, ⟨by rw [fI m (by rw [hK]; decide) (by rw [hK]; decide)]; exact b.1, b.2⟩, fun j hj => isF_fr (fI _ (by rw [g.2.1.1]; decide) (by rw [g.2.1.1]; decide)) (fJ _ (by rw [g.2.1.2]; decide)) (d j hj), fun s hs => ?_⟩
  show (_ ∧ (if s = k then some σ.1 else σ.2.2.2 s) = none) ∨ (_ ∧ ∃ c, (if s = k then some σ.1 else σ.2.2.2 s) = some c ∧ _)
  rw [e]
  unfold upd
  by_cases q : s = k
  · rw [if_pos q, if_pos q, q]; exact Or.inr ⟨hv, σ.1, rfl, hc⟩
  · rw [if_neg q, if_neg q]
    rcases e5 s hs with z | ⟨z1, c2, z2, z3⟩
    · exact Or.inl z
    · exact Or.inr ⟨z1, c2, z2, ho s c2 q z3⟩
/-! The reference's words -/
theorem mo_0 (d : Nat → Int64) : mo d 0 = d := by
  funext k
  show d (80 * 0 + k) = d k
  congr 1; omega
abbrev rW (Q : Nat → Nat → Option Nat) (I : Nat → Nat → Int32) (p m : Nat) : Int := (I (a0 Q p 0) (3 + m)).toInt
abbrev rH (Q : Nat → Nat → Option Nat) (I : Nat → Nat → Int32) (p m : Nat) : Int := (I (a0 Q p 0) (11 + m)).toInt
abbrev rF (Q : Nat → Nat → Option Nat) (J : Nat → Nat → Int64) (p m : Nat) : Nat → Int64 := mo (J (a0 Q p 5)) m
/-- a mask of the reference is that of the state -/
theorem cmA_F {Q : Nat → Nat → Option Nat} {I : Nat → Nat → Int32} {J : Nat → Nat → Int64} {p : Nat} {σ : Sx} {m : Int32} (A : cmA Q I J p σ) (hm : m.toInt.toNat < 8) : rW Q I p m.toInt.toNat = (mW σ m).toInt ∧ rH Q I p m.toInt.toNat = (mH σ m).toInt ∧ ∀ k, k < 80 → rF Q J p m.toInt.toNat k = mF σ m k := by
  refine ⟨by show (I (a0 Q p 0) (3 + m.toInt.toNat)).toInt = _; rw [cmA_n A (by omega)], by show (I (a0 Q p 0) (11 + m.toInt.toNat)).toInt = _; rw [cmA_n A (by omega)], fun k hk => ?_⟩
  show J (a0 Q p 5) (80 * m.toInt.toNat + k) = σ.1.2 (80 * m.toInt.toNat + k)
  have w := A.1.2 (80 * m.toInt.toNat + k) (by omega)
  rw [show 640 * 0 + (80 * m.toInt.toNat + k) = 80 * m.toInt.toNat + k by omega] at w
  exact w
theorem hs_congr {w h w2 h2 : Int} {f g : Nat → Int64} (e1 : w = w2) (e2 : h = h2) (e : ∀ k, k < 80 → f k = g k) (x y : Int) : hs w h f x y = hs w2 h2 g x y := by unfold hs; rw [e1, e2, md_congr e]
/-- the reference lays new words -/
theorem cmA_setM {L : List Nat} {K G : Nat → Nat} {Q : Nat → Nat → Option Nat} {I I1 : Nat → Nat → Int32} {J J1 : Nat → Nat → Int64} {m p : Nat} {w h : Int32} {f : Nat → Int64} {σ : Sx} (hQ : Sv L K G Q) (hL : p ∈ L) (hK : K p = 7) (hm : m < 8) (e1 : I1 (a0 Q p 0) = upd (upd (I (a0 Q p 0)) (3 + m) w) (11 + m) h) (e2 : ∀ k, k < 640 → J1 (a0 Q p 5) k = if 80 * m ≤ k ∧ k < 80 * m + 80 then f (k - 80 * m) else J (a0 Q p 5) k) (fI : ∀ b, ¬ (K b = 18) → I1 b = I b) (fJ : ∀ b, K b = 22 ∨ K b = 23 → J1 b = J b) (A : cmA Q I J p σ) : cmA Q I1 J1 p (setM σ.1 m w h f, σ.2) := by
  refine cmA_now (n := σ.2.1) hQ hL hK ⟨fun j hj => ?_, fun j hj => ?_⟩ (fun b hb => fI b (by omega)) fJ (by rw [fI p (by rw [hK]; decide)]; exact A.2.1.1) (Nat.le_refl _) A
  · show I1 (a0 Q p 0) (99 * 0 + j) = upd (upd σ.1.1 (3 + m) w) (11 + m) h j
    rw [e1, show 99 * 0 + j = j by omega]
    unfold upd
    rw [cmA_n A hj]
  · show J1 (a0 Q p 5) (640 * 0 + j) = if 80 * m ≤ j ∧ j < 80 * m + 80 then f (j - 80 * m) else σ.1.2 j
    have w := A.1.2 j hj
    rw [show 640 * 0 + j = j by omega] at w ⊢
    rw [e2 j hj, w]
theorem upd_same {f : Nat → Int32} {k : Nat} {v : Int32} (h : v = f k) : upd f k v = f := by
  funext j
  unfold upd
  split
  · next q => rw [q]; exact h
  · rfl
theorem tk_0 {f g s : Nat → Int64} {m : Nat} (h : f = g) : ∀ k, k < 640 → f k = if 80 * m ≤ k ∧ k < 80 * m + 0 then s (k - 80 * m) else g k := fun k _ => by rw [if_neg (by omega), h]
theorem tk_step {f f1 g s : Nat → Int64} {m v v2 i : Nat} {x : Int64} (h : ∀ k, k < 640 → f k = if 80 * m ≤ k ∧ k < 80 * m + v then s (k - 80 * m) else g k) (h1 : ∀ j, f1 j = if j = i then x else f j) (hi : i = 80 * m + v) (hx : x = s v) (hv : v2 = v + 1) : ∀ k, k < 640 → f1 k = if 80 * m ≤ k ∧ k < 80 * m + v2 then s (k - 80 * m) else g k := fun k hk => by
  rw [h1]
  by_cases q : k = i
  · rw [if_pos q, if_pos (by omega), hx]; congr 1; omega
  · rw [if_neg q, h k hk]
    by_cases w : 80 * m ≤ k ∧ k < 80 * m + v
    · rw [if_pos w, if_pos (by omega)]
    · rw [if_neg w, if_neg (by omega)]
theorem tu_ref {f g : Nat → Int64} {m : Nat} {x y : Int} (h : isM (mo g m) (togD (mo f m) x y)) (ho : ∀ k, k < 640 → ¬ (80 * m ≤ k ∧ k < 80 * m + 80) → g k = f k) : ∀ k, k < 640 → g k = if 80 * m ≤ k ∧ k < 80 * m + 80 then mkw (togD (mo f m) x y) (k - 80 * m) else f k := fun k hk => by
  by_cases q : 80 * m ≤ k ∧ k < 80 * m + 80
  · rw [if_pos q]
    have w := mkw_of h (k - 80 * m) (by omega)
    rw [← w]
    show g k = g (80 * m + (k - 80 * m))
    congr 1; omega
  · rw [if_neg q]; exact ho k hk q
theorem togD_congr {f g : Nat → Int64} (e : ∀ k, k < 80 → f k = g k) (x y : Int) : togD f x y = togD g x y := by
  funext a b
  unfold togD
  rw [md_congr e]
theorem tr_bi {a r : Int32} {b : Bool} (h : a.toInt = bi b) (t : (a.toInt = 0 → r.toInt = 0) ∧ (¬ a.toInt = 0 → r.toInt = 1)) : r.toInt = bi b := by
  cases b with
  | true => exact (t.2 (by rw [h]; decide)).trans rfl
  | false => exact (t.1 h).trans rfl
theorem tu7 {Q : Nat → Nat → Option Nat} {I : Nat → Nat → Int32} {J J1 : Nat → Nat → Int64} {p i : Nat} {m x y c : Int32} {v s : Int64} {σ : Sx} (A : cmA Q I J p (rem σ)) (hm : m.toInt.toNat < 8) (hC : tuC σ m x y) (ok : okm (mW σ m).toInt (mH σ m).toInt (mF σ m)) (h1 : ∀ j, J1 (a0 Q p 5) j = if j = i then v else J (a0 Q p 5) j) (hv : v = J (a0 Q p 5) i ^^^ s) (hs : s = (1 : Int64) <<< (c.toInt64 &&& 63)) (hc : c.toInt = x.toInt % 64) (hi : (i : Int) = 80 * m.toInt + (2 * y.toInt + x.toInt / 64)) (h0 : 0 ≤ m.toInt) : (∀ k, k < 640 → J1 (a0 Q p 5) k = if 80 * m.toInt.toNat ≤ k ∧ k < 80 * m.toInt.toNat + 80 then tuW σ m x y (k - 80 * m.toInt.toNat) else J (a0 Q p 5) k) ∧ md (rF Q J1 p m.toInt.toNat) x.toInt y.toInt = !md (mF σ m) x.toInt y.toInt := by
  have o1 := ok.1
  have o2 := ok.2.1
  have b := hC.2
  have e := (cmA_F A hm).2.2
  rw [rem_F] at e
  have T : ∀ X Y : Int, md (rF Q J1 p m.toInt.toNat) X Y = togD (rF Q J p m.toInt.toNat) x.toInt y.toInt X Y := fun X Y => by
    refine md_tog (f := rF Q J p m.toInt.toNat) (i := i - 80 * m.toInt.toNat) (v := v) (s := s) (c := c) (fun j => ?_) ?_ hs hc (by omega) (by omega) (by omega) (by omega) (by omega) X Y
    · show J1 (a0 Q p 5) (80 * m.toInt.toNat + j) = if j = i - 80 * m.toInt.toNat then v else J (a0 Q p 5) (80 * m.toInt.toNat + j)
      rw [h1]
      by_cases q : j = i - 80 * m.toInt.toNat
      · rw [if_pos q, if_pos (by omega)]
      · rw [if_neg q, if_neg (by omega)]
    · rw [hv]
      show _ = J (a0 Q p 5) (80 * m.toInt.toNat + (i - 80 * m.toInt.toNat)) ^^^ s
      rw [show 80 * m.toInt.toNat + (i - 80 * m.toInt.toNat) = i by omega]
  constructor
  · have r := tu_ref (f := J (a0 Q p 5)) (g := J1 (a0 Q p 5)) (m := m.toInt.toNat) (x := x.toInt) (y := y.toInt) (fun X Y _ _ _ _ => T X Y) (fun k hk q => by rw [h1, if_neg (by omega)])
    intro k hk
    rw [r k hk]
    by_cases q : 80 * m.toInt.toNat ≤ k ∧ k < 80 * m.toInt.toNat + 80
    · rw [if_pos q, if_pos q]
      exact congrFun (congrArg mkw (togD_congr e _ _)) _
    · rw [if_neg q, if_neg q]
  · rw [T]
    unfold togD
    rw [decide_eq_true ⟨rfl, rfl⟩, Bool.xor_true, md_congr e]
/-! The reference's loops over places -/
theorem qr_set {h y0 x0 x1 a b : Int} {f g g1 : Nat → Int64} (hi : qrI h f g y0 x0) (hx : x1 = x0 + 1) (hn : md f x0 y0 = true) (ht : ∀ x y : Int, md g1 x y = (md g x y || decide (x = a ∧ y = b))) (ha : a = h - 1 - y0) (hb : b = x0) : qrI h f g1 y0 x1 := fun x y => by
  rw [ht, hi x y]
  by_cases e : x = a ∧ y = b
  · have q : quarD h f x y = true := by unfold quarD; rw [e.1, e.2, ha, hb, show h - 1 - (h - 1 - y0) = y0 by omega]; exact hn
    rw [q, decide_eq_true (show x = a ∧ y = b from e), Bool.or_true, decide_eq_true (show h - 1 - x < y0 ∨ (h - 1 - x = y0 ∧ y < x1) by omega)]; rfl
  · rw [decide_eq_false e, Bool.or_false]
    congr 1
    exact decide_eq_decide.mpr (by omega)
/-- the places ahead of row y0, place x0, are laid -/
def rxI (g : Nat → Int64) (D : Int → Int → Bool) (y0 x0 : Int) : Prop := ∀ x y : Int, md g x y = (decide (y < y0 ∨ (y = y0 ∧ x < x0)) && D x y)
theorem rx_0 {g : Nat → Int64} {D : Int → Int → Bool} (hz : ∀ k, k < 80 → g k = 0) (hD : ∀ x y, D x y = true → 0 ≤ x ∧ 0 ≤ y) : rxI g D 0 0 := fun x y => by
  rw [md_z hz]
  cases q : D x y with
  | false => rw [Bool.and_false]
  | true => have := hD x y q; rw [decide_eq_false (by omega)]; rfl
theorem rx_nl {g : Nat → Int64} {D : Int → Int → Bool} {w y0 y1 x0 : Int} (h : rxI g D y0 x0) (hD : ∀ x y, D x y = true → 0 ≤ x ∧ x < w) (hx : w ≤ x0) (hy : y1 = y0 + 1) : rxI g D y1 0 := fun x y => by
  rw [h x y]
  cases q : D x y with
  | false => rw [Bool.and_false, Bool.and_false]
  | true => have := hD x y q; congr 1; exact decide_eq_decide.mpr (by omega)
theorem rx_skip {g : Nat → Int64} {D : Int → Int → Bool} {y0 x0 x1 : Int} (h : rxI g D y0 x0) (hx : x1 = x0 + 1) (hn : D x0 y0 = false) : rxI g D y0 x1 := fun x y => by
  rw [h x y]
  by_cases e : x = x0 ∧ y = y0
  · rw [e.1, e.2, hn, Bool.and_false, Bool.and_false]
  · congr 1; exact decide_eq_decide.mpr (by omega)
theorem rx_put {g g1 : Nat → Int64} {D : Int → Int → Bool} {y0 x0 x1 : Int} (h : rxI g D y0 x0) (hx : x1 = x0 + 1) (hn : D x0 y0 = true) (ht : ∀ x y : Int, md g1 x y = (md g x y || decide (x = x0 ∧ y = y0))) : rxI g1 D y0 x1 := fun x y => by
  rw [ht, h x y]
  by_cases e : x = x0 ∧ y = y0
  · rw [e.1, e.2, hn, decide_eq_true (show x0 = x0 ∧ y0 = y0 from ⟨rfl, rfl⟩), Bool.or_true, decide_eq_true (by omega)]; rfl
  · rw [decide_eq_false e, Bool.or_false]; congr 1; exact decide_eq_decide.mpr (by omega)
theorem rx_fin {g : Nat → Int64} {D : Int → Int → Bool} {h y0 : Int} (hi : rxI g D y0 0) (hD : ∀ x y, D x y = true → y < h) (hy : h ≤ y0) (x y : Int) : md g x y = D x y := by
  rw [hi x y]
  cases q : D x y with
  | false => rw [Bool.and_false]
  | true => have := hD x y q; rw [decide_eq_true (by omega)]; rfl
def totk (f : Nat → Int64) : Nat → Nat
  | 0 => 0
  | k + 1 => totk f k + nb (f k)
theorem totk_2 (f : Nat → Int64) (r : Nat) : totk f (2 * r) = totr f r := by
  induction r with
  | zero => rfl
  | succ r ih =>
    rw [show 2 * (r + 1) = 2 * r + 1 + 1 by omega]
    show totk f (2 * r) + nb (f (2 * r)) + nb (f (2 * r + 1)) = totr f r + (nb (f (2 * r)) + nb (f (2 * r + 1)))
    rw [ih]; omega
theorem totk_le (f : Nat → Int64) (k : Nat) : totk f k ≤ 64 * k := by
  induction k with
  | zero => exact Nat.le_refl _
  | succ k ih =>
    have := nb_le (f k)
    show totk f k + nb (f k) ≤ _
    omega
theorem totr_congr {f g : Nat → Int64} (e : ∀ k, k < 80 → f k = g k) : totr f 40 = totr g 40 := by
  have t : ∀ n, n ≤ 40 → totr f n = totr g n := by
    intro n
    induction n with
    | zero => intro _; rfl
    | succ n ih =>
      intro hn
      show totr f n + (nb (f (2 * n)) + nb (f (2 * n + 1))) = totr g n + (nb (g (2 * n)) + nb (g (2 * n + 1)))
      rw [ih (by omega), e _ (by omega), e _ (by omega)]
  exact t 40 (Nat.le_refl _)
theorem joinD_b {w h : Int} {f g : Nat → Int64} {dx dy how : Int} (x y : Int) (q : joinD w h f g dx dy how x y = true) : (0 ≤ x ∧ x < w) ∧ (0 ≤ y ∧ y < h) := by
  unfold joinD at q
  rw [Bool.and_eq_true, decide_eq_true_iff] at q
  omega
theorem joinD_at {w h : Int} {f g : Nat → Int64} {dx dy how x y : Int} (hx : 0 ≤ x ∧ x < w ∧ 0 ≤ y ∧ y < h) : joinD w h f g dx dy how x y = jop how (md f x y) (md g (x - dx) (y - dy)) := by
  unfold joinD; rw [decide_eq_true hx, Bool.true_and]
/-- what lies made is taken for a mask -/
theorem tk_fin {f g s : Nat → Int64} {m : Nat} {D : Int → Int → Bool} (h : ∀ k, k < 640 → g k = if 80 * m ≤ k ∧ k < 80 * m + 80 then s (k - 80 * m) else f k) (hs : ∀ x y, md s x y = D x y) : ∀ k, k < 640 → g k = if 80 * m ≤ k ∧ k < 80 * m + 80 then mkw D (k - 80 * m) else f k := fun k hk => by
  rw [h k hk]
  by_cases q : 80 * m ≤ k ∧ k < 80 * m + 80
  · rw [if_pos q, if_pos q, mkw_of (fun x y _ _ _ _ => hs x y) _ (by omega)]
  · rw [if_neg q, if_neg q]
theorem made_k {L : List Nat} {K G : Nat → Nat} {Q : Nat → Nat → Option Nat} {m : Nat} (hQ : Sv L K G Q) (hL : m ∈ L) (hK : K m = 7) : K (a0 Q m 19) = 34 := by
  obtain ⟨y, e, l, k⟩ := oQ_7_19 (Sv_at hQ hL hK)
  unfold a0; rw [gd_of e]; exact k
/-! Dots are counted -/
theorem nb_set {x z : Int64} {j : Nat} (hj : j < 64) (h0 : b64 x j = false) (h : ∀ i, i < 64 → b64 z i = (b64 x i || decide (i = j))) : nb z = nb x + 1 := by
  have key : ∀ k, k ≤ 64 → nbit z.toBitVec.toNat k = nbit x.toBitVec.toNat k + (if j < k then 1 else 0) := by
    intro k
    induction k with
    | zero => intro _; rfl
    | succ k ih =>
      intro hk
      show nbit z.toBitVec.toNat k + (if z.toBitVec.toNat.testBit k then 1 else 0) = nbit x.toBitVec.toNat k + (if x.toBitVec.toNat.testBit k then 1 else 0) + _
      have e : z.toBitVec.toNat.testBit k = (b64 x k || decide (k = j)) := h k (by omega)
      have e2 : x.toBitVec.toNat.testBit k = b64 x k := rfl
      rw [ih (by omega), e, e2]
      rcases Nat.lt_trichotomy j k with q | q | q
      · rw [decide_eq_false (show ¬ k = j by omega), Bool.or_false, if_pos q, if_pos (show j < k + 1 by omega)]; omega
      · subst q
        rw [h0, decide_eq_true (show j = j from rfl), if_neg (show ¬ j < j by omega), if_pos (show j < j + 1 by omega)]; rfl
      · rw [decide_eq_false (show ¬ k = j by omega), Bool.or_false, if_neg (show ¬ j < k by omega), if_neg (show ¬ j < k + 1 by omega)]; omega
  unfold nb
  rw [key 64 (Nat.le_refl _), if_pos hj]
theorem totr_set {f g : Nat → Int64} {x y : Int} (hx : 0 ≤ x ∧ x < 128) (hy : 0 ≤ y ∧ y < 40) (h0 : md f x y = false) (h : ∀ X Y : Int, 0 ≤ X → X < 128 → 0 ≤ Y → Y < 40 → md g X Y = (md f X Y || decide (X = x ∧ Y = y))) : totr g 40 = totr f 40 + 1 := by
  have bit : ∀ k i, k < 80 → i < 64 → b64 (g k) i = (b64 (f k) i || decide ((64 * (k % 2) + i : Nat) = x.toNat ∧ k / 2 = y.toNat)) := fun k i hk hi => by
    have q := h ((64 * (k % 2) + i : Nat) : Int) ((k / 2 : Nat) : Int) (by omega) (by omega) (by omega) (by omega)
    rw [md_bit (by omega) (by omega) (by omega) (by omega), md_bit (by omega) (by omega) (by omega) (by omega)] at q
    have e1 : 2 * (((k / 2 : Nat) : Int)).toNat + (((64 * (k % 2) + i : Nat) : Int)).toNat / 64 = k := by omega
    have e2 : (((64 * (k % 2) + i : Nat) : Int)).toNat % 64 = i := by omega
    rw [e1, e2] at q
    rw [q]
    congr 1
    exact decide_eq_decide.mpr (by omega)
  have key : ∀ n, n ≤ 80 → totk g n = totk f n + (if 2 * y.toNat + x.toNat / 64 < n then 1 else 0) := by
    intro n
    induction n with
    | zero => intro _; rfl
    | succ n ih =>
      intro hn
      show totk g n + nb (g n) = totk f n + nb (f n) + _
      rw [ih (by omega)]
      rcases Nat.lt_trichotomy (2 * y.toNat + x.toNat / 64) n with q | q | q
      · have e : g n = f n := b64_ext (fun i hi => by rw [bit n i (by omega) hi, decide_eq_false (by omega), Bool.or_false])
        rw [e, if_pos q, if_pos (show 2 * y.toNat + x.toNat / 64 < n + 1 by omega)]; omega
      · have e : nb (g n) = nb (f n) + 1 := by
          refine nb_set (j := x.toNat % 64) (Nat.mod_lt _ (by decide)) ?_ (fun i hi => ?_)
          · rw [md_bit hx.1 hx.2 hy.1 hy.2, q] at h0; exact h0
          · rw [bit n i (by omega) hi]; congr 1; exact decide_eq_decide.mpr (by omega)
        rw [e, if_neg (show ¬ 2 * y.toNat + x.toNat / 64 < n by omega), if_pos (show 2 * y.toNat + x.toNat / 64 < n + 1 by omega)]; omega
      · have e : g n = f n := b64_ext (fun i hi => by rw [bit n i (by omega) hi, decide_eq_false (by omega), Bool.or_false])
        rw [e, if_neg (show ¬ 2 * y.toNat + x.toNat / 64 < n by omega), if_neg (show ¬ 2 * y.toNat + x.toNat / 64 < n + 1 by omega)]; omega
  have a := totk_2 f 40
  have b := totk_2 g 40
  rw [← a, ← b, key (2 * 40) (by decide), if_pos (by omega)]
def ahD (D : Int → Int → Bool) (y0 x0 x y : Int) : Bool := decide (y < y0 ∨ (y = y0 ∧ x < x0)) && D x y
def TD (D : Int → Int → Bool) (y0 x0 : Int) : Nat := totr (mkw (ahD D y0 x0)) 40
theorem TD_0 {D : Int → Int → Bool} (hD : ∀ x y, D x y = true → 0 ≤ x ∧ 0 ≤ y) : TD D 0 0 = 0 := by
  refine (totr_z 40).mpr (fun r hr => (rowE_md hr).mpr (fun x => ?_))
  cases q : md (mkw (ahD D 0 0)) x (r : Int) with
  | false => rfl
  | true =>
    have m := md_rng q
    rw [mkw_md m.1.1 m.1.2 m.2.1 m.2.2] at q
    unfold ahD at q
    rw [Bool.and_eq_true, decide_eq_true_iff] at q
    have := hD _ _ q.2
    omega
theorem TD_step {D : Int → Int → Bool} {y x x1 : Int} (hx : 0 ≤ x ∧ x < 128) (hy : 0 ≤ y ∧ y < 40) (h1 : x1 = x + 1) : (TD D y x1 : Int) = (TD D y x : Int) + bi (D x y) := by
  subst h1
  cases q : D x y with
  | false =>
    have e : ahD D y (x + 1) = ahD D y x := by
      funext X Y
      unfold ahD
      by_cases w : X = x ∧ Y = y
      · rw [w.1, w.2, q, Bool.and_false, Bool.and_false]
      · congr 1; exact decide_eq_decide.mpr (by omega)
    unfold TD; rw [e]; show _ = _ + 0; omega
  | true =>
    have e : TD D y (x + 1) = TD D y x + 1 := by
      refine totr_set hx hy ?_ (fun X Y a b c d => ?_)
      · rw [mkw_md hx.1 hx.2 hy.1 hy.2]; unfold ahD; rw [decide_eq_false (by omega)]; rfl
      · rw [mkw_md a b c d, mkw_md a b c d]
        unfold ahD
        by_cases w : X = x ∧ Y = y
        · rw [w.1, w.2, q, decide_eq_true (show y < y ∨ (y = y ∧ x < x + 1) by omega), decide_eq_true (show x = x ∧ y = y from ⟨rfl, rfl⟩), Bool.or_true]; rfl
        · rw [decide_eq_false w, Bool.or_false]; congr 1; exact decide_eq_decide.mpr (by omega)
    rw [e]; show _ = _ + 1; omega
theorem TD_nl {D : Int → Int → Bool} {w y y1 x : Int} (hD : ∀ x y, D x y = true → 0 ≤ x ∧ x < w) (hx : w ≤ x) (hy : y1 = y + 1) : TD D y1 0 = TD D y x := by
  have e : ahD D y1 0 = ahD D y x := by
    funext X Y
    unfold ahD
    cases q : D X Y with
    | false => rw [Bool.and_false, Bool.and_false]
    | true => have := hD X Y q; congr 1; exact decide_eq_decide.mpr (by omega)
  unfold TD; rw [e]
theorem TD_end {D : Int → Int → Bool} {h y : Int} (hD : ∀ x y, D x y = true → y < h) (hy : h ≤ y) : TD D y 0 = totr (mkw D) 40 := by
  have e : ahD D y 0 = D := by
    funext X Y
    unfold ahD
    cases q : D X Y with
    | false => rw [Bool.and_false]
    | true => have := hD X Y q; rw [decide_eq_true (by omega)]; rfl
  unfold TD; rw [e]
theorem totr_mk (f : Nat → Int64) : totr (mkw (md f)) 40 = totr f 40 := totr_congr (fun k hk => (mkw_of (f := f) (fun _ _ _ _ _ _ => rfl) k hk).symm)
theorem ar_gt {r : Int} {a b c d : Bool} (h : r = bi a + bi b + bi c + bi d) : 0 < r ↔ (a || b || c || d) = true := by
  rw [h]; clear h; revert a b c d; decide
theorem ar_4 {r : Int} {a b c d : Bool} (h : r = bi a + bi b + bi c + bi d) : r = 4 ↔ (a && b && c && d) = true := by
  rw [h]; clear h; revert a b c d; decide
theorem ch_g {n n1 s t s1 t1 : Int} {w i : Bool} (h : n + s = t) (hs : s1 = s + bi w) (ht : t1 = t + bi i) (hn : n1 = n + bi (i != w)) (hw : w = true → i = true) : n1 + s1 = t1 := by
  rw [hs, ht, hn, ← h]
  cases w <;> cases i
  · show n + 0 + (s + 0) = n + s + 0; omega
  · show n + 1 + (s + 0) = n + s + 1; omega
  · exact absurd (hw rfl) (by decide)
  · show n + 0 + (s + 1) = n + s + 1; omega
theorem ch_t {n n1 s t s1 t1 : Int} {w i : Bool} (h : n + t = s) (hs : s1 = s + bi w) (ht : t1 = t + bi i) (hn : n1 = n + bi (i != w)) (hw : i = true → w = true) : n1 + t1 = s1 := by
  rw [hs, ht, hn, ← h]
  cases w <;> cases i
  · show n + 0 + (t + 0) = n + t + 0; omega
  · exact absurd (hw rfl) (by decide)
  · show n + 1 + (t + 0) = n + t + 1; omega
  · show n + 0 + (t + 1) = n + t + 1; omega
/-- grown (p not 0) or thinned -/
def chD (p w h : Int) (f : Nat → Int64) : Int → Int → Bool := if p = 0 then thinD f else growD w h f
def CNT (p w h : Int) (f : Nat → Int64) (n y x : Int) : Prop := (p = 0 → n + (TD (chD p w h f) y x : Int) = (TD (md f) y x : Int)) ∧ (¬ p = 0 → n + (TD (md f) y x : Int) = (TD (chD p w h f) y x : Int))
theorem chD_b {p w h : Int} {f : Nat → Int64} (c : mcl w h f) (x y : Int) (q : chD p w h f x y = true) : (0 ≤ x ∧ x < w) ∧ (0 ≤ y ∧ y < h) := by
  unfold chD at q
  split at q
  · unfold thinD at q
    simp only [Bool.and_eq_true] at q
    have a := md_rng q.1.1.1.1
    have b := c x y q.1.1.1.1
    omega
  · unfold growD at q
    rw [Bool.and_eq_true, decide_eq_true_iff] at q
    omega
theorem md_b {w h : Int} {f : Nat → Int64} (c : mcl w h f) (x y : Int) (q : md f x y = true) : (0 ≤ x ∧ x < w) ∧ (0 ≤ y ∧ y < h) := by
  have a := md_rng q
  have b := c x y q
  omega
theorem ch_0 {p w h : Int} {f : Nat → Int64} (c : mcl w h f) : CNT p w h f (0 : Int32).toInt 0 0 := by
  have e : (0 : Int32).toInt = 0 := by decide +kernel
  have a := TD_0 (D := chD p w h f) (fun x y q => by have := chD_b c x y q; omega)
  have b := TD_0 (D := md f) (fun x y q => by have := md_b c x y q; omega)
  unfold CNT
  rw [e, a, b]
  exact ⟨fun _ => rfl, fun _ => rfl⟩
theorem ch_nl {p w h : Int} {f : Nat → Int64} {n y y1 x : Int} (c : mcl w h f) (hx : w ≤ x) (hy : y1 = y + 1) (q : CNT p w h f n y x) : CNT p w h f n y1 0 := by
  unfold CNT at q ⊢
  rw [TD_nl (D := chD p w h f) (fun x y q => by have := chD_b c x y q; omega) hx hy, TD_nl (D := md f) (fun x y q => by have := md_b c x y q; omega) hx hy]
  exact q
theorem ch_step {p w h : Int} {f : Nat → Int64} {n n1 y x x1 : Int} (hb : 0 ≤ x ∧ x < w ∧ 0 ≤ y ∧ y < h) (hw : w ≤ 100) (hh : h ≤ 40) (hx : x1 = x + 1) (hn : n1 = n + bi (chD p w h f x y != md f x y)) (q : CNT p w h f n y x) : CNT p w h f n1 y x1 := by
  have a := TD_step (D := chD p w h f) (y := y) (x := x) (x1 := x1) (by omega) (by omega) hx
  have b := TD_step (D := md f) (y := y) (x := x) (x1 := x1) (by omega) (by omega) hx
  refine ⟨fun e => ch_t (q.1 e) b a hn (fun z => ?_), fun e => ch_g (q.2 e) b a hn (fun z => ?_)⟩
  · unfold chD at z
    rw [if_pos e] at z
    unfold thinD at z
    simp only [Bool.and_eq_true] at z
    exact z.1.1.1.1
  · unfold chD
    rw [if_neg e]
    unfold growD gr3
    rw [decide_eq_true hb, z]; rfl
theorem ch_end {p w h : Int} {f : Nat → Int64} {n y : Int} (c : mcl w h f) (hy : h ≤ y) (q : CNT p w h f n y 0) : (p = 0 → n + (totr (mkw (chD p w h f)) 40 : Int) = (totr f 40 : Int)) ∧ (¬ p = 0 → n + (totr f 40 : Int) = (totr (mkw (chD p w h f)) 40 : Int)) := by
  unfold CNT at q
  rw [TD_end (D := chD p w h f) (h := h) (fun x y q => by have := chD_b c x y q; omega) hy, TD_end (D := md f) (h := h) (fun x y q => by have := md_b c x y q; omega) hy, totr_mk] at q
  exact q
theorem ch_at {p w h : Int} {f : Nat → Int64} {x y : Int} (hb : 0 ≤ x ∧ x < w ∧ 0 ≤ y ∧ y < h) : chD p w h f x y = if p = 0 then (md f x y && md f (x - 1) y && md f (x + 1) y && md f x (y - 1) && md f x (y + 1)) else (md f x y || md f (x - 1) y || md f (x + 1) y || md f x (y - 1) || md f x (y + 1)) := by
  unfold chD
  split
  · rfl
  · unfold growD gr3
    rw [decide_eq_true hb, Bool.true_and]
theorem ne_bi {k : Int} {i w : Bool} {a b : Int} (ha : a = bi i) (hb : b = bi w) (hk : k = if a = b then 0 else 1) : k = bi (i != w) := by
  rw [hk, ha, hb]; clear hk ha hb; revert i w; decide
theorem chA_g (σ : Sx) (m : Int32) (w h : Int) (f : Nat → Int64) : chA σ m (mkw (chD 1 w h f)) (decide (¬ (1 : Int) = 0)) = chA σ m (mkw (growD w h f)) true := by
  rw [show chD 1 w h f = growD w h f from if_neg (by decide), decide_eq_true (show ¬ (1 : Int) = 0 by decide)]
theorem chA_t (σ : Sx) (m : Int32) (w h : Int) (f : Nat → Int64) : chA σ m (mkw (chD 0 w h f)) (decide (¬ (0 : Int) = 0)) = chA σ m (mkw (thinD f)) false := by
  rw [show chD 0 w h f = thinD f from if_pos rfl, decide_eq_false (show ¬ ¬ (0 : Int) = 0 by decide)]
/-! Places that two masks have in common -/
def ovl (f g : Nat → Int64) (dx dy : Int) : Prop := ∃ x y : Int, md f x y = true ∧ md g (x - dx) (y - dy) = true
theorem ovl_swap {f g : Nat → Int64} {dx dy : Int} : ovl f g dx dy ↔ ovl g f (-dx) (-dy) := by
  constructor
  · rintro ⟨x, y, a, b⟩
    exact ⟨x - dx, y - dy, b, by rw [show x - dx - -dx = x by omega, show y - dy - -dy = y by omega]; exact a⟩
  · rintro ⟨x, y, a, b⟩
    exact ⟨x + dx, y + dy, by rw [show x - -dx = x + dx by omega, show y - -dy = y + dy by omega] at b; exact b, by rw [show x + dx - dx = x by omega, show y + dy - dy = y by omega]; exact a⟩
def bxs (t0 l0 u0 r0 b0 t1 l1 u1 r1 b1 dx dy : Int) : Prop := (0 < t0 ∧ 0 < t1) ∧ (l0 ≤ r1 + dx ∧ l1 + dx ≤ r0) ∧ (u0 ≤ b1 + dy ∧ u1 + dy ≤ b0)
theorem msr_pos {f : Nat → Int64} {t l u r b : Int} (m : msr f t l u r b) {x y : Int} (h : md f x y = true) : 0 < t ∧ (l ≤ x ∧ x ≤ r) ∧ (u ≤ y ∧ y ≤ b) := by
  have n : ¬ t = 0 := fun q => by rw [m.2.2 q x y] at h; cases h
  have p : 0 ≤ t := by rw [m.1]; omega
  exact ⟨by omega, (m.2.1 n).2.2.2.2 x y h⟩
theorem ovl_box {f g : Nat → Int64} {t0 l0 u0 r0 b0 t1 l1 u1 r1 b1 dx dy : Int} (m0 : msr f t0 l0 u0 r0 b0) (m1 : msr g t1 l1 u1 r1 b1) (h : ovl f g dx dy) : bxs t0 l0 u0 r0 b0 t1 l1 u1 r1 b1 dx dy := by
  obtain ⟨x, y, a, b⟩ := h
  have p := msr_pos m0 a
  have q := msr_pos m1 b
  unfold bxs
  omega
/-- a row of each, the second so much to the right -/
theorem row_lo {a low hi z141 z142 : Int64} {c : Int32} (e1 : z141 = low <<< (c.toInt64 &&& 63)) (e2 : z142 = a &&& z141) (h0 : 0 ≤ c.toInt) (h1 : c.toInt < 64) : ¬ z142 = 0 ↔ ∃ i : Nat, i < 64 ∧ b64 a i = true ∧ dt low hi ((i : Int) - c.toInt) = true := by
  have key := sl_a (low := low) (high := hi) e1 h0 h1
  constructor
  · intro q
    obtain ⟨t, l1, l2, -⟩ := low_ex q
    rw [b64_and e2, key t l1, Bool.and_eq_true] at l2
    exact ⟨t, l1, l2.1, l2.2⟩
  · rintro ⟨i, l1, l2, l3⟩ q
    have w : b64 z142 i = true := by rw [b64_and e2, key i l1, l2, l3]; rfl
    rw [q, b64_0] at w; cases w
theorem row_hi {b low hi z176 z179 : Int64} {c : Int} (e1 : ∀ i : Nat, i < 64 → b64 z176 i = dt low hi ((i : Int) + 64 - c)) (e2 : z179 = b &&& z176) : ¬ z179 = 0 ↔ ∃ i : Nat, i < 64 ∧ b64 b i = true ∧ dt low hi ((i : Int) + 64 - c) = true := by
  constructor
  · intro q
    obtain ⟨t, l1, l2, -⟩ := low_ex q
    rw [b64_and e2, e1 t l1, Bool.and_eq_true] at l2
    exact ⟨t, l1, l2.1, l2.2⟩
  · rintro ⟨i, l1, l2, l3⟩ q
    have w : b64 z179 i = true := by rw [b64_and e2, e1 i l1, l2, l3]; rfl
    rw [q, b64_0] at w; cases w
/-- no place in common above row y -/
def nov (f g : Nat → Int64) (dx dy y : Int) : Prop := ∀ X Y : Int, Y < y → ¬ (md f X Y = true ∧ md g (X - dx) (Y - dy) = true)
theorem nov_0 {f g : Nat → Int64} {t0 l0 u0 r0 b0 t1 l1 u1 r1 b1 dx dy y : Int} (m0 : msr f t0 l0 u0 r0 b0) (m1 : msr g t1 l1 u1 r1 b1) (hy : y ≤ u0 ∨ y ≤ u1 + dy) : nov f g dx dy y := fun X Y h ⟨a, b⟩ => by
  have p := msr_pos m0 a
  have q := msr_pos m1 b
  omega
theorem nov_step {f g : Nat → Int64} {dx dy y y1 : Int} {r k : Nat} {a b low hi : Int64} (h : nov f g dx dy y) (hy : y1 = y + 1) (hr : (r : Int) = y) (hk : (k : Int) = y - dy) (h40 : r < 40) (k40 : k < 40) (ha : a = f (2 * r)) (hb : b = f (2 * r + 1)) (hl : low = g (2 * k)) (hh : hi = g (2 * k + 1)) (n1 : dx < 64 → ¬ ∃ i : Nat, i < 64 ∧ b64 a i = true ∧ dt low hi ((i : Int) - dx) = true) (n2 : ¬ ∃ i : Nat, i < 64 ∧ b64 b i = true ∧ dt low hi ((i : Int) + 64 - dx) = true) : nov f g dx dy y1 := fun X Y h2 ⟨p, q⟩ => by
  by_cases e : Y = y
  · have m0 := md_row (f := f) h40 ha hb X
    have m1 := md_row (f := g) k40 hl hh (X - dx)
    rw [hr, ← e] at m0
    rw [hk, ← e] at m1
    have rg := md_rng p
    rw [m0] at p
    rw [m1] at q
    rcases Int.lt_or_le X 64 with w | w
    · by_cases d : dx < 64
      · refine n1 d ⟨X.toNat, by omega, ?_, ?_⟩
        · rw [dt_a (by omega) w] at p; exact p
        · rw [show ((X.toNat : Nat) : Int) = X by omega]; exact q
      · rw [dt_lo (by omega)] at q; cases q
    · refine n2 ⟨X.toNat - 64, by omega, ?_, ?_⟩
      · rw [dt_b w] at p; exact p
      · rw [show ((X.toNat - 64 : Nat) : Int) + 64 = X by omega]; exact q
  · exact h X Y (by omega) ⟨p, q⟩
theorem ov_lo {f g : Nat → Int64} {dx dy y : Int} {r k : Nat} {a b low hi : Int64} (hr : (r : Int) = y) (hk : (k : Int) = y - dy) (h40 : r < 40) (k40 : k < 40) (ha : a = f (2 * r)) (hb : b = f (2 * r + 1)) (hl : low = g (2 * k)) (hh : hi = g (2 * k + 1)) (n1 : ∃ i : Nat, i < 64 ∧ b64 a i = true ∧ dt low hi ((i : Int) - dx) = true) : ovl f g dx dy := by
  obtain ⟨i, l1, l2, l3⟩ := n1
  refine ⟨(i : Int), y, ?_, ?_⟩
  · rw [← hr, md_row h40 ha hb, dt_a (by omega) (by omega)]; exact l2
  · rw [← hk, md_row k40 hl hh]; exact l3
theorem ov_hi {f g : Nat → Int64} {dx dy y : Int} {r k : Nat} {a b low hi : Int64} (hr : (r : Int) = y) (hk : (k : Int) = y - dy) (h40 : r < 40) (k40 : k < 40) (ha : a = f (2 * r)) (hb : b = f (2 * r + 1)) (hl : low = g (2 * k)) (hh : hi = g (2 * k + 1)) (n2 : ∃ i : Nat, i < 64 ∧ b64 b i = true ∧ dt low hi ((i : Int) + 64 - dx) = true) : ovl f g dx dy := by
  obtain ⟨i, l1, l2, l3⟩ := n2
  refine ⟨(i : Int) + 64, y, ?_, ?_⟩
  · rw [← hr, md_row h40 ha hb, dt_b (by omega)]; rw [show ((i : Int) + 64).toNat - 64 = i by omega]; exact l2
  · rw [← hk, md_row k40 hl hh]; exact l3
theorem nov_end {f g : Nat → Int64} {t0 l0 u0 r0 b0 t1 l1 u1 r1 b1 dx dy y : Int} (m0 : msr f t0 l0 u0 r0 b0) (m1 : msr g t1 l1 u1 r1 b1) (h : nov f g dx dy y) (hy : b0 < y ∨ b1 + dy < y) : ¬ ovl f g dx dy := fun ⟨X, Y, a, b⟩ => by
  have p := msr_pos m0 a
  have q := msr_pos m1 b
  exact h X Y (by omega) ⟨a, b⟩
def mko (Q : Nat → Nat → Option Nat) (I : Nat → Nat → Int32) (J : Nat → Nat → Int64) (a : Nat) : Prop := okm (I a 0).toInt (I a 1).toInt (J (wo Q a)) ∧ msr (J (wo Q a)) (I a 3).toInt (I a 4).toInt (I a 5).toInt (I a 6).toInt (I a 7).toInt
theorem bx_dx {f g : Nat → Int64} {t0 l0 u0 r0 b0 t1 l1 u1 r1 b1 dx dy : Int} (m0 : msr f t0 l0 u0 r0 b0) (m1 : msr g t1 l1 u1 r1 b1) (h : bxs t0 l0 u0 r0 b0 t1 l1 u1 r1 b1 dx dy) : (-127 ≤ dx ∧ dx ≤ 127) ∧ (-39 ≤ dy ∧ dy ≤ 39) := by
  obtain ⟨⟨p0, p1⟩, hx, hy⟩ := h
  obtain ⟨⟨_, a1⟩, ⟨_, a2⟩, ⟨_, a3⟩, ⟨_, a4⟩, -⟩ := m0.2.1 (by omega)
  obtain ⟨⟨_, c1⟩, ⟨_, c2⟩, ⟨_, c3⟩, ⟨_, c4⟩, -⟩ := m1.2.1 (by omega)
  have e1 := md_rng a1
  have e2 := md_rng a2
  have e3 := md_rng a3
  have e4 := md_rng a4
  have d1 := md_rng c1
  have d2 := md_rng c2
  have d3 := md_rng c3
  have d4 := md_rng c4
  omega
-- ---- ways, and who touches whom
def bX (c : Fx) (b : Nat) : Int := (c.1 (19 + 8 * b + 1)).toInt
def bY (c : Fx) (b : Nat) : Int := (c.1 (19 + 8 * b + 2)).toInt
def mayT (c : Fx) (a b : Nat) : Prop := ¬ (c.1 (19 + 8 * a + 4) &&& c.1 (19 + 8 * b + 5)) = 0 ∨ ¬ (c.1 (19 + 8 * b + 4) &&& c.1 (19 + 8 * a + 5)) = 0
def metM (c : Fx) (a b : Nat) (dx dy : Int) : Prop := ovl (mkw (shp c a)) (mkw (shp c b)) (bX c b - bX c a - dx) (bY c b - bY c a - dy)
def byI (k d n : Int) : Int := if n ≤ 0 then 0 else (2 * k * d + n) / (2 * n)
def stI (dx dy : Int) : Int := max (max dx (-dx)) (max dy (-dy))
def farB (c : Fx) (b : Nat) (x y : Int) : Prop := ¬ ((-999 ≤ bX c b + x ∧ bX c b + x ≤ 999) ∧ (-999 ≤ bY c b + y ∧ bY c b + y ≤ 999))
def stpB (c : Fx) (b o : Nat) (x y : Int) : Prop := ¬ o = b ∧ mayT c b o ∧ ¬ metM c b o 0 0 ∧ metM c b o x y
def blkB (c : Fx) (b : Nat) (x y : Int) : Prop := farB c b x y ∨ ∃ o : Nat, o < (c.1 1).toInt.toNat ∧ stpB c b o x y
def blkK (c : Fx) (b : Nat) (dx dy k : Int) : Prop := blkB c b (byI k dx (stI dx dy)) (byI k dy (stI dx dy))
def sldB (c : Fx) (b : Nat) (dx dy r : Int) : Prop := (0 ≤ r ∧ r ≤ stI dx dy) ∧ (∀ k, 1 ≤ k → k ≤ r → ¬ blkK c b dx dy k) ∧ (r = stI dx dy ∨ blkK c b dx dy (r + 1))
theorem sldB_uq {c : Fx} {b : Nat} {dx dy r s : Int} (h : sldB c b dx dy r) (g : sldB c b dx dy s) : r = s := by
  obtain ⟨⟨h0, h1⟩, h2, h3⟩ := h
  obtain ⟨⟨g0, g1⟩, g2, g3⟩ := g
  rcases Int.lt_trichotomy r s with q | q | q
  · exfalso
    rcases h3 with h3 | h3
    · omega
    · exact g2 (r + 1) (by omega) (by omega) h3
  · exact q
  · exfalso
    rcases g3 with g3 | g3
    · omega
    · exact h2 (s + 1) (by omega) (by omega) g3
noncomputable def slN (c : Fx) (b : Nat) (dx dy : Int) : Int := Classical.epsilon (sldB c b dx dy)
theorem slN_of {c : Fx} {b : Nat} {dx dy r : Int} (h : sldB c b dx dy r) : slN c b dx dy = r := sldB_uq (Classical.epsilon_spec ⟨r, h⟩) h
theorem byI_bt {k d n : Int} (hn : 1 ≤ n) (hk : 0 ≤ k ∧ k ≤ n) : (0 ≤ d → 0 ≤ byI k d n ∧ byI k d n ≤ d) ∧ (d ≤ 0 → d ≤ byI k d n ∧ byI k d n ≤ 0) := by
  unfold byI
  rw [if_neg (by omega)]
  refine ⟨fun h => ⟨Int.ediv_nonneg ?_ (by omega), Int.lt_add_one_iff.mp (Int.ediv_lt_of_lt_mul (by omega) ?_)⟩, fun h => ⟨Int.le_ediv_of_mul_le (by omega) ?_, Int.lt_add_one_iff.mp (Int.ediv_lt_of_lt_mul (by omega) ?_)⟩⟩
  · have : 0 ≤ k * d := Int.mul_nonneg hk.1 h
    rw [Int.mul_assoc]; omega
  · have : k * d ≤ n * d := Int.mul_le_mul_of_nonneg_right hk.2 h
    have e : (d + 1) * (2 * n) = 2 * (n * d) + 2 * n := by rw [Int.add_mul, Int.mul_comm d (2 * n), Int.mul_assoc]; omega
    rw [e, Int.mul_assoc]; omega
  · have : n * d ≤ k * d := Int.mul_le_mul_of_nonpos_right hk.2 h
    have e : d * (2 * n) = 2 * (n * d) := by rw [Int.mul_comm d (2 * n), Int.mul_assoc]
    rw [e, Int.mul_assoc]; omega
  · have : k * d ≤ 0 := Int.mul_nonpos_of_nonneg_of_nonpos hk.1 h
    rw [Int.mul_assoc]; omega
theorem byI_0 {d n : Int} : byI 0 d n = 0 := by
  unfold byI
  split
  · rfl
  · rw [Int.mul_zero, Int.zero_mul, Int.zero_add]; exact Int.ediv_eq_zero_of_lt (by omega) (by omega)
theorem byI_n {d n : Int} (hn : 1 ≤ n) : byI n d n = d := by
  unfold byI
  rw [if_neg (by omega), show 2 * n * d + n = n + d * (2 * n) by rw [Int.mul_comm (2 * n) d]; omega, Int.add_mul_ediv_right _ _ (by omega), Int.ediv_eq_zero_of_lt (by omega) (by omega)]; omega
theorem ovl_congr {f g f2 g2 : Nat → Int64} {dx dy : Int} (e : ∀ k, k < 80 → f k = f2 k) (e2 : ∀ k, k < 80 → g k = g2 k) : ovl f g dx dy ↔ ovl f2 g2 dx dy := by
  unfold ovl
  constructor
  · rintro ⟨x, y, a, b⟩; exact ⟨x, y, by rw [← md_congr e]; exact a, by rw [← md_congr e2]; exact b⟩
  · rintro ⟨x, y, a, b⟩; exact ⟨x, y, by rw [md_congr e]; exact a, by rw [md_congr e2]; exact b⟩
theorem okm_shp {c : Fx} {b : Nat} (ok : okF c) (hb : b < (c.1 1).toInt.toNat) : okm (bw_ c b).toInt (bh_ c b).toInt (mkw (shp c b)) := by
  have q := (ok.2.2.2 b hb).1
  have m := ok.2.2.1 (c.1 (19 + 8 * b)).toInt.toNat (by omega)
  exact okm_mk m.1 m.2.1 (fun x y h => flipD_in x y h)
theorem shp_mko {Q : Nat → Nat → Option Nat} {I : Nat → Nat → Int32} {J : Nat → Nat → Int64} {S b : Nat} {c : Fx} (ok : okF c) (h : cxS Q I J S c) (hb : b < (c.1 1).toInt.toNat) : mko Q I J (sm Q S b) := cxM_ok (h b hb) (okm_shp ok hb)
theorem shp_ovl {Q : Nat → Nat → Option Nat} {I : Nat → Nat → Int32} {J : Nat → Nat → Int64} {S a b : Nat} {c : Fx} {dx dy : Int} (h : cxS Q I J S c) (ha : a < (c.1 1).toInt.toNat) (hb : b < (c.1 1).toInt.toNat) : ovl (J (wo Q (sm Q S a))) (J (wo Q (sm Q S b))) dx dy ↔ ovl (mkw (shp c a)) (mkw (shp c b)) dx dy := ovl_congr (h a ha).2.2.1 (h b hb).2.2.1
theorem i32or_0 {a b z : Int32} (e : z = a ||| b) : ¬ z.toInt = 0 ↔ ¬ a = 0 ∨ ¬ b = 0 := by
  subst e
  have k : (a ||| b) = 0 ↔ a = 0 ∧ b = 0 := by
    constructor
    · intro h
      have h2 : a.toBitVec ||| b.toBitVec = 0#32 := by have := congrArg Int32.toBitVec h; simpa using this
      constructor
      · apply Int32.toBitVec_inj.mp
        apply BitVec.eq_of_getLsbD_eq
        intro i hi
        have := congrArg (fun v : BitVec 32 => v.getLsbD i) h2
        simp only [BitVec.getLsbD_or, BitVec.getLsbD_zero, Bool.or_eq_false_iff] at this
        rw [this.1]; simp
      · apply Int32.toBitVec_inj.mp
        apply BitVec.eq_of_getLsbD_eq
        intro i hi
        have := congrArg (fun v : BitVec 32 => v.getLsbD i) h2
        simp only [BitVec.getLsbD_or, BitVec.getLsbD_zero, Bool.or_eq_false_iff] at this
        rw [this.2]; simp
    · rintro ⟨rfl, rfl⟩; decide +kernel
  have k2 : (a ||| b).toInt = 0 ↔ (a ||| b) = 0 := ⟨fun h => Int32.toInt_inj.mp (h.trans (by decide +kernel)), fun h => by rw [h]; decide +kernel⟩
  rw [k2, k]
  by_cases h : a = 0 <;> by_cases g : b = 0 <;> simp [h, g]
theorem i32n0 {z : Int32} : ¬ z.toInt = 0 ↔ ¬ z = 0 := ⟨fun h g => h (by rw [g]; decide +kernel), fun h g => h (Int32.toInt_inj.mp (g.trans (by decide +kernel)))⟩
def hbt (z : Int32) (i : Nat) : Bool := z.toBitVec.getLsbD i
theorem hb_0 (i : Nat) : hbt 0 i = false := by unfold hbt; rw [show (0 : Int32).toBitVec = 0#32 from rfl]; simp
theorem hb_or {x y z : Int32} (e : z = x ||| y) (i : Nat) : hbt z i = (hbt x i || hbt y i) := by unfold hbt; rw [e, Int32.toBitVec_or, BitVec.getLsbD_or]
theorem and31k : ∀ k : Fin 32, (nI k.1 &&& 31).toBitVec.toNat = k.1 ∧ (nI k.1 &&& 31).toBitVec.smod 32 = BitVec.ofNat 32 k.1 := by decide +kernel
theorem smod31 {o : Int32} (ho : 0 ≤ o.toInt ∧ o.toInt < 32) : ((o &&& 31).toBitVec.smod 32).toNat = o.toInt.toNat := by
  obtain ⟨k, hk, rfl⟩ := nI_10 (n := 31) (by decide) ho.1 (by omega)
  rw [(and31k ⟨k, by omega⟩).2, nI_toInt (by omega), BitVec.toNat_ofNat, Int.toNat_natCast]
  exact Nat.mod_eq_of_lt (Nat.lt_of_le_of_lt hk (by decide))
theorem hb_shr {x o a b : Int32} (ea : a = x >>> (o &&& 31)) (eb : b = a &&& 1) (ho : 0 ≤ o.toInt ∧ o.toInt < 32) : (b.toInt = 1 ↔ hbt x o.toInt.toNat = true) ∧ (b.toInt = 0 ↔ hbt x o.toInt.toNat = false) := by
  have h1 : ∀ j : Nat, hbt 1 j = decide (j = 0) := fun j => by
    unfold hbt; rw [show (1 : Int32).toBitVec = 1#32 from rfl, BitVec.getLsbD_one]; simp
  have ha : hbt a 0 = hbt x o.toInt.toNat := by
    unfold hbt
    rw [ea, Int32.toBitVec_shiftRight, BitVec.sshiftRight_eq', BitVec.getLsbD_sshiftRight, smod31 ho]
    rw [if_pos (by omega), Nat.add_zero]; simp
  have hbb : ∀ j, hbt b j = (decide (j = 0) && hbt a 0) := fun j => by
    have : hbt b j = (hbt a j && hbt 1 j) := by unfold hbt; rw [eb, Int32.toBitVec_and, BitVec.getLsbD_and]
    rw [this, h1]
    by_cases q : j = 0
    · subst q; simp
    · simp [q]
  rw [← ha]
  cases q : hbt a 0
  · have : b = 0 := i32_ext (fun i _ => by have := hbb i; rw [q, Bool.and_false] at this; exact this.trans (hb_0 i).symm)
    rw [this]; decide +kernel
  · have : b = 1 := i32_ext (fun i _ => by have := hbb i; rw [q, Bool.and_true] at this; exact this.trans (h1 i).symm)
    rw [this]; decide +kernel
theorem hb_onek : ∀ k : Fin 10, ∀ i : Fin 32, ((1 : Int32) <<< (nI k.1 &&& 31)).toBitVec.getLsbD i.1 = decide (i.1 = k.1) := by decide +kernel
theorem hb_one {o z : Int32} (e : z = 1 <<< (o &&& 31)) (ho : 0 ≤ o.toInt ∧ o.toInt ≤ 9) (i : Nat) : hbt z i = decide (i = o.toInt.toNat) := by
  obtain ⟨k, hk, rfl⟩ := nI_10 (n := 9) (by decide) ho.1 ho.2
  rw [nI_toInt (by omega), Int.toNat_natCast]
  by_cases q : i < 32
  · rw [e]; exact hb_onek ⟨k, by omega⟩ ⟨i, q⟩
  · unfold hbt; rw [BitVec.getLsbD_of_ge _ _ (by omega), decide_eq_false (by omega)]
theorem hb_set {x o s z : Int32} (es : s = 1 <<< (o &&& 31)) (ez : z = x ||| s) (ho : 0 ≤ o.toInt ∧ o.toInt ≤ 9) (i : Nat) : hbt z i = (hbt x i || decide (i = o.toInt.toNat)) := by rw [hb_or ez, hb_one es ho]
theorem hb_ext {x y : Int32} (h : ∀ i, i < 32 → hbt x i = hbt y i) : x = y := i32_ext h
theorem hb_10 {x : Int32} (hx : 0 ≤ x.toInt ∧ x.toInt ≤ 1023) {i : Nat} (hi : 10 ≤ i) : hbt x i = false := by
  rw [i10] at hx
  unfold hbt BitVec.getLsbD
  exact Nat.testBit_lt_two_pow (Nat.lt_of_lt_of_le hx (Nat.pow_le_pow_right (n := 2) (by decide) hi))
/-- the class's glide -/
def gST (c : Fx) (b : Nat) (dx dy : Int) (z : Int32) (N : Nat) : Prop := ∀ i : Nat, i < N → (hbt z i = true → ¬ i = b ∧ mayT c b i ∧ ¬ metM c b i 0 0) ∧ (∀ x y : Int, (min dx 0 ≤ x ∧ x ≤ max dx 0) → (min dy 0 ≤ y ∧ y ≤ max dy 0) → stpB c b i x y → hbt z i = true)
theorem gST_0 {c : Fx} {b : Nat} {dx dy : Int} {z : Int32} : gST c b dx dy z 0 := fun i h => absurd h (by omega)
theorem gST_no {c : Fx} {b : Nat} {dx dy : Int} {z : Int32} {N M : Nat} (h : gST c b dx dy z N) (hM : M = N + 1) (hz : hbt z N = false) (hn : N = b ∨ ¬ mayT c b N ∨ metM c b N 0 0 ∨ (∀ x y : Int, (min dx 0 ≤ x ∧ x ≤ max dx 0) → (min dy 0 ≤ y ∧ y ≤ max dy 0) → ¬ metM c b N x y)) : gST c b dx dy z M := fun i hi => by
  by_cases q : i = N
  · subst q
    refine ⟨fun h => absurd h (by rw [hz]; decide), fun x y hx hy s => ?_⟩
    rcases hn with hn | hn | hn | hn
    · exact absurd hn s.1
    · exact absurd s.2.1 hn
    · exact absurd hn s.2.2.1
    · exact absurd s.2.2.2 (hn x y hx hy)
  · exact h i (by omega)
theorem gST_yes {c : Fx} {b : Nat} {dx dy : Int} {z z1 : Int32} {N M : Nat} (h : gST c b dx dy z N) (hM : M = N + 1) (hz : ∀ i, hbt z1 i = (hbt z i || decide (i = N))) (h1 : ¬ N = b) (h2 : mayT c b N) (h3 : ¬ metM c b N 0 0) : gST c b dx dy z1 M := fun i hi => by
  rw [hz]
  by_cases q : i = N
  · subst q
    exact ⟨fun _ => ⟨h1, h2, h3⟩, fun _ _ _ _ _ => by simp⟩
  · have := h i (by omega)
    simp only [q, decide_false, Bool.or_false]
    exact this
def lto (c : Fx) (b : Nat) (z r : Int32) (x y : Int) : Prop := (r.toInt = -1 → ∀ i : Nat, i < (c.1 1).toInt.toNat → hbt z i = true → ¬ metM c b i x y) ∧ (¬ r.toInt = -1 → r.toInt.toNat < (c.1 1).toInt.toNat ∧ hbt z r.toInt.toNat = true ∧ metM c b r.toInt.toNat x y)
theorem blk_y {c : Fx} {b : Nat} {dx dy x y : Int} {z r : Int32} (g : gST c b dx dy z (c.1 1).toInt.toNat) (h : lto c b z r x y) (hr : ¬ r.toInt = -1) : blkB c b x y := by
  obtain ⟨a, e, m⟩ := h.2 hr
  have q := (g _ a).1 e
  exact Or.inr ⟨_, a, q.1, q.2.1, q.2.2, m⟩
theorem blk_n {c : Fx} {b : Nat} {dx dy x y : Int} {z r : Int32} (g : gST c b dx dy z (c.1 1).toInt.toNat) (hx : min dx 0 ≤ x ∧ x ≤ max dx 0) (hy : min dy 0 ≤ y ∧ y ≤ max dy 0) (h : lto c b z r x y) (hr : r.toInt = -1) (hf : ¬ farB c b x y) : ¬ blkB c b x y := by
  rintro (q | ⟨o, ho, q⟩)
  · exact hf q
  · exact h.1 hr o ho ((g o ho).2 x y hx hy q) q.2.2.2
def gLI (c : Fx) (b : Nat) (dx dy : Int) (k s gx gy : Int) : Prop := (1 ≤ k ∧ k ≤ stI dx dy + 1) ∧ s = k - 1 ∧ gx = byI s dx (stI dx dy) ∧ gy = byI s dy (stI dx dy) ∧ ∀ j, 1 ≤ j → j ≤ s → ¬ blkK c b dx dy j
def gLR (c : Fx) (b : Nat) (dx dy : Int) (s gx gy : Int) : Prop := sldB c b dx dy s ∧ gx = byI s dx (stI dx dy) ∧ gy = byI s dy (stI dx dy)
theorem gLI_0 {c : Fx} {b : Nat} {dx dy s gx gy : Int} (h0 : s = 0) (h1 : gx = 0) (h2 : gy = 0) : gLI c b dx dy 1 s gx gy := by
  subst h0; subst h1; subst h2
  have : 0 ≤ stI dx dy := by unfold stI; omega
  exact ⟨⟨by omega, by omega⟩, by omega, byI_0.symm, byI_0.symm, fun j a b => absurd b (by omega)⟩
theorem gLI_s {c : Fx} {b : Nat} {dx dy k k1 s gx gy s1 gx1 gy1 : Int} (h : gLI c b dx dy k s gx gy) (hk : k ≤ stI dx dy) (h1 : k1 = k + 1) (e1 : s1 = k) (e2 : gx1 = byI k dx (stI dx dy)) (e3 : gy1 = byI k dy (stI dx dy)) (hn : ¬ blkB c b (byI k dx (stI dx dy)) (byI k dy (stI dx dy))) : gLI c b dx dy k1 s1 gx1 gy1 := by
  subst e1; subst h1
  refine ⟨⟨by have := h.1; omega, by omega⟩, by omega, e2, e3, fun j a q => ?_⟩
  by_cases w : j = s1
  · subst w; exact hn
  · exact h.2.2.2.2 j a (by have := h.2.1; omega)
theorem gLI_e {c : Fx} {b : Nat} {dx dy k s gx gy : Int} (h : gLI c b dx dy k s gx gy) (hk : stI dx dy < k ∨ blkB c b (byI k dx (stI dx dy)) (byI k dy (stI dx dy))) : gLR c b dx dy s gx gy := by
  obtain ⟨⟨a1, a2⟩, a3, a4, a5, a6⟩ := h
  by_cases w : stI dx dy < k
  · exact ⟨⟨⟨by omega, by omega⟩, a6, Or.inl (by omega)⟩, a4, a5⟩
  · refine ⟨⟨⟨by omega, by omega⟩, a6, Or.inr ?_⟩, a4, a5⟩
    rcases hk with q | q
    · exact absurd q w
    · unfold blkK; rw [show s + 1 = k by omega]; exact q
theorem gLR_slN {c : Fx} {b : Nat} {dx dy s gx gy : Int} (h : gLR c b dx dy s gx gy) : slN c b dx dy = s := slN_of h.1
theorem bXY {c : Fx} {b : Nat} (ok : okF c) (hb : b < (c.1 1).toInt.toNat) : (-999 ≤ bX c b ∧ bX c b ≤ 999) ∧ (-999 ≤ bY c b ∧ bY c b ≤ 999) := ⟨(ok.2.2.2 b hb).2.1, (ok.2.2.2 b hb).2.2.1⟩
section
variable {L : List Nat} {K G : Nat → Nat} {Q : Nat → Nat → Option Nat} {I I1 I2 : Nat → Nat → Int32} {J : Nat → Nat → Int64} {S x : Nat} {c : Fx} {σ : Sx}
theorem cx_sc (hQ : Sv L K G Q) (hL : S ∈ L) (hK : K S = 5) (ok : okF c) (fr : ∀ b, ¬ b = S → I1 b = I b) (h : cxF Q I J (nf Q S) c) (hs : cxS Q I J S c) : cxF Q I1 J (nf Q S) c ∧ cxS Q I1 J S c := by
  obtain ⟨y, e, l, k⟩ := oQ_5_0 (Sv_at hQ hL hK)
  refine ⟨?_, cxS_fr hQ extW_refl hL hK ok (fun b _ _ hb => fr b (fun z => by rw [z, hK] at hb; omega)) (fun _ _ _ _ => rfl) hs⟩
  rw [nf_of e] at h ⊢
  first
    | exact cxF_fr hQ extW_refl l k ok (fun b _ _ hb => fr b (fun z => by rw [z, hK] at hb; omega)) (fun _ _ _ _ => rfl) h
    | exact cxF_fr hQ extW_refl l k.1 ok (fun b _ _ hb => fr b (fun z => by rw [z, hK] at hb; omega)) (fun _ _ _ _ => rfl) h
theorem byI_bt2 {k d n : Int} (hn : 1 ≤ n) (hk : 0 ≤ k ∧ k ≤ n) : min d 0 ≤ byI k d n ∧ byI k d n ≤ max d 0 := by
  have q := byI_bt (d := d) hn hk
  rcases Int.le_total 0 d with h | h
  · have := q.1 h; omega
  · have := q.2 h; omega
end
/-- a body goes -/
def gC (c : Fx) (b : Nat) (x y : Int32) : Fx := setB (setB c b 1 (c.1 (19 + 8 * b + 1) + x)) b 2 (c.1 (19 + 8 * b + 2) + y)
noncomputable def slX (c : Fx) (b : Nat) (dx dy : Int) : Int32 := Int32.ofInt (byI (slN c b dx dy) dx (stI dx dy))
noncomputable def slY (c : Fx) (b : Nat) (dx dy : Int) : Int32 := Int32.ofInt (byI (slN c b dx dy) dy (stI dx dy))
noncomputable def slC (c : Fx) (b : Nat) (dx dy : Int) : Fx := gC c b (slX c b dx dy) (slY c b dx dy)
theorem sld_in {c : Fx} {b : Nat} {dx dy s : Int} (ok : okF c) (hb : b < (c.1 1).toInt.toNat) (h : sldB c b dx dy s) : (-999 ≤ bX c b + byI s dx (stI dx dy) ∧ bX c b + byI s dx (stI dx dy) ≤ 999) ∧ (-999 ≤ bY c b + byI s dy (stI dx dy) ∧ bY c b + byI s dy (stI dx dy) ≤ 999) := by
  have q := bXY ok hb
  by_cases w : s = 0
  · subst w; rw [byI_0, byI_0]; omega
  · have n := h.2.1 s (by have := h.1.1; omega) (Int.le_refl _)
    exact Classical.byContradiction (fun z => n (Or.inl z))
theorem gl_in {c : Fx} {b : Nat} {dx dy s : Int} {u v : Int32} (ok : okF c) (hb : b < (c.1 1).toInt.toNat) (h : gLR c b dx dy s u.toInt v.toInt) : (u = slX c b dx dy ∧ v = slY c b dx dy) ∧ (-999 ≤ (c.1 (19 + 8 * b + 1) + u).toInt ∧ (c.1 (19 + 8 * b + 1) + u).toInt ≤ 999) ∧ (-999 ≤ (c.1 (19 + 8 * b + 2) + v).toInt ∧ (c.1 (19 + 8 * b + 2) + v).toInt ≤ 999) := by
  have e := gLR_slN h
  have r := sld_in ok hb h.1
  have q := bXY ok hb
  rw [← h.2.1, ← h.2.2] at r
  unfold bX bY at r q
  have a1 : (c.1 (19 + 8 * b + 1) + u).toInt = (c.1 (19 + 8 * b + 1)).toInt + u.toInt := tq_add rfl rfl rfl (by omega) (by omega)
  have a2 : (c.1 (19 + 8 * b + 2) + v).toInt = (c.1 (19 + 8 * b + 2)).toInt + v.toInt := tq_add rfl rfl rfl (by omega) (by omega)
  refine ⟨⟨?_, ?_⟩, by omega, by omega⟩
  · unfold slX; rw [e, ← h.2.1, Int32.ofInt_toInt]
  · unfold slY; rw [e, ← h.2.2, Int32.ofInt_toInt]
theorem okF_gC {c : Fx} {b : Nat} {u v : Int32} (ok : okF c) (h1 : -999 ≤ (c.1 (19 + 8 * b + 1) + u).toInt ∧ (c.1 (19 + 8 * b + 1) + u).toInt ≤ 999) (h2 : -999 ≤ (c.1 (19 + 8 * b + 2) + v).toInt ∧ (c.1 (19 + 8 * b + 2) + v).toInt ≤ 999) : okF (gC c b u v) := by
  unfold gC
  refine okF_body (okF_body ok (by decide) ?_) (by decide) ?_
  · unfold vok; omega
  · unfold vok; omega
section
variable {L : List Nat} {K G : Nat → Nat} {Q : Nat → Nat → Option Nat} {I I1 I2 : Nat → Nat → Int32} {J : Nat → Nat → Int64} {S x b : Nat} {c : Fx} {σ : Sx}
theorem cxA_sc (hQ : Sv L K G Q) (hL : x ∈ L) (hK : K x = 6) (hS : K S = 5) (fr : ∀ b, ¬ b = S → I1 b = I b) (h : cxA Q I J x σ) : cxA Q I1 J x σ := by
  have hx : ¬ x = S := fun z => by rw [z, hS] at hK; omega
  refine cxA_fr (P := fun _ => True) hQ extW_refl hL hK (fun _ _ => rfl) rfl (by rw [fr x hx]) (by rw [fr x hx]) trivial trivial trivial trivial (fun _ _ => trivial) (fun b _ hb _ => fr b (fun z => by rw [z, hS] at hb; omega)) (fun _ _ _ _ => rfl) h
theorem cxA_go {B : Nat} {u v : Int32} (hQ : Sv L K G Q) (hL : x ∈ L) (hK : K x = 6) (A : cxA Q I J x σ) (hb : b < (σ.1.1 1).toInt.toNat) (h1 : -999 ≤ (σ.1.1 (19 + 8 * b + 1) + u).toInt ∧ (σ.1.1 (19 + 8 * b + 1) + u).toInt ≤ 999) (h2 : -999 ≤ (σ.1.1 (19 + 8 * b + 2) + v).toInt ∧ (σ.1.1 (19 + 8 * b + 2) + v).toInt ≤ 999) (eB : fb Q (an Q x) b = B) (e : ∃ Im, Im = va_up I B (upd (I B) 1 (I B 1 + u)) ∧ I1 = va_up Im B (upd (Im B) 2 (I B 2 + v))) : cxA Q I1 J x (gC σ.1 b u v, σ.2) := by
  subst eB
  obtain ⟨Im, e1, e2⟩ := e
  have ok := A.1.1.1
  have hb10 : b < 10 := by have := ok.2.1; omega
  have va := A.1.1.2.2.2.2.2 b hb
  rw [va 1 (by decide)] at e1
  rw [va 2 (by decide)] at e2
  have B1 := cxA_body hQ hL hK hb10 (by decide) (by decide) (by decide) (by unfold vok; omega) e1 A
  exact cxA_body hQ hL hK hb10 (by decide) (by decide) (by decide) (by unfold vok; show _ ∧ _ ∧ _ ∧ _ ∧ _; omega) e2 B1
theorem cxA_nf (A : cxA Q I J x σ) : nf Q (se Q x) = an Q x := A.1.2.2.2.2
theorem cxA_tg (A : cxA Q I J x σ) : okF σ.1 ∧ cxF Q I J (nf Q (se Q x)) σ.1 ∧ cxS Q I J (se Q x) σ.1 := ⟨A.1.1.1, by rw [A.1.2.2.2.2]; exact A.1.1.2, A.2⟩
end
noncomputable def slA (σ : Sx) (b dx dy : Int32) : Int × Sx := haveI : ∀ p : Prop, Decidable p := Classical.propDecidable; if twC σ b dx dy (-200) 200 then (if slN σ.1 b.toInt.toNat dx.toInt dy.toInt = 0 then (-2, σ) else (slN σ.1 b.toInt.toNat dx.toInt dy.toInt, (slC σ.1 b.toInt.toNat dx.toInt dy.toInt, (rem σ).2))) else (-1, σ)
theorem sl_n {σ : Sx} {b dx dy : Int32} (h : ¬ twC σ b dx dy (-200) 200) : slA σ b dx dy = (-1, σ) := by unfold slA; rw [if_neg h]
theorem sl_e {σ : Sx} {b dx dy : Int32} (h : twC σ b dx dy (-200) 200) (e : slN σ.1 b.toInt.toNat dx.toInt dy.toInt = 0) : slA σ b dx dy = (-2, σ) := by unfold slA; rw [if_pos h, if_pos e]
theorem sl_y {σ : Sx} {b dx dy : Int32} (h : twC σ b dx dy (-200) 200) (e : ¬ slN σ.1 b.toInt.toNat dx.toInt dy.toInt = 0) : slA σ b dx dy = (slN σ.1 b.toInt.toNat dx.toInt dy.toInt, (slC σ.1 b.toInt.toNat dx.toInt dy.toInt, (rem σ).2)) := by unfold slA; rw [if_pos h, if_neg e]
