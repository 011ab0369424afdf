/-! what questions answer -/
def dtR (σ : Sx) (m x y : Int32) : Int := if mK σ m then bi (hs (mW σ m).toInt (mH σ m).toInt (mF σ m) x.toInt y.toInt) else -1
def rwR (σ : Sx) (m y w : Int32) : Int64 := if mK σ m ∧ (0 ≤ y.toInt ∧ y.toInt < (mH σ m).toInt) ∧ (0 ≤ w.toInt ∧ w.toInt ≤ 1) then mF σ m (2 * y.toInt.toNat + w.toInt.toNat) else 0
def bdR (σ : Sx) (b k : Int32) : Int := if (0 ≤ b.toInt ∧ b.toInt < (σ.1.1 1).toInt) ∧ (0 ≤ k.toInt ∧ k.toInt ≤ 7) then (σ.1.1 (19 + 8 * b.toInt.toNat + k.toInt.toNat)).toInt else -2000
section QS
variable {L : List Nat} {K G : Nat → Nat} {Q : Nat → Nat → Option Nat} {I : Nat → Nat → Int32} {J : Nat → Nat → Int64} {x m : Nat} {σ : Sx} {p : Int32}
theorem cx_0 (A : cxA Q I J x σ) : I (an Q x) 2 = σ.1.1 0 := A.1.1.2.1
theorem cx_1 (A : cxA Q I J x σ) : I (an Q x) 3 = σ.1.1 1 := A.1.1.2.2.1
theorem cm_0 (A : cmA Q I J m σ) : I (a0 Q m 0) 0 = σ.1.1 0 := cmA_n A (k := 0) (by decide)
theorem cm_1 (A : cmA Q I J m σ) : I (a0 Q m 0) 1 = σ.1.1 1 := cmA_n A (k := 1) (by decide)
theorem cx_b (A : cxA Q I J x σ) {b : Nat} (hb : b < (σ.1.1 1).toInt.toNat) {k : Nat} (hk : k < 8) : I (fb Q (an Q x) b) k = σ.1.1 (19 + 8 * b + k) := A.1.1.2.2.2.2.2 b hb k hk
end QS
/-- all masks' dots, as both sides add them up -/
def sumT (c : Fx) : Nat → Int32
  | 0 => 0
  | n + 1 => sumT c n + Int32.ofInt (totr (mo c.2 n) 40 : Int)
def ctB (o : Option Fx) (k : Int) : Int := match o with
  | none => 0
  | some _ => k
def ctR (σ : Sx) (tp : Int) (k : Int32) : Int := if k.toInt = 0 then (σ.1.1 0).toInt else if k.toInt = 1 then (σ.1.1 1).toInt else if k.toInt = 2 then (sumT σ.1 (σ.1.1 0).toInt.toNat).toInt else if k.toInt = 3 then (σ.2.1 : Int) else if k.toInt = 4 then tp else if k.toInt = 5 then ctB (σ.2.2.2 0) 1 + ctB (σ.2.2.2 1) 2 else if k.toInt = 6 then (σ.1.1 2).toInt else -1
section CT
variable {L : List Nat} {K G : Nat → Nat} {Q : Nat → Nat → Option Nat} {I : Nat → Nat → Int32} {J : Nat → Nat → Int64} {x m : Nat} {σ : Sx} {p : Int32} {tp : Int}
theorem ct0 (h : p.toInt = 0) : ctR σ tp p = (σ.1.1 0).toInt := if_pos h
theorem ct1 (h : p.toInt = 1) : ctR σ tp p = (σ.1.1 1).toInt := by unfold ctR; rw [if_neg (by omega), if_pos h]
theorem ct2 (h : p.toInt = 2) : ctR σ tp p = (sumT σ.1 (σ.1.1 0).toInt.toNat).toInt := by unfold ctR; rw [if_neg (by omega), if_neg (by omega), if_pos h]
theorem ct3 (h : p.toInt = 3) : ctR σ tp p = (σ.2.1 : Int) := by unfold ctR; rw [if_neg (by omega), if_neg (by omega), if_neg (by omega), if_pos h]
theorem ct4 (h : p.toInt = 4) : ctR σ tp p = tp := by unfold ctR; rw [if_neg (by omega), if_neg (by omega), if_neg (by omega), if_neg (by omega), if_pos h]
theorem ct5 (h : p.toInt = 5) : ctR σ tp p = ctB (σ.2.2.2 0) 1 + ctB (σ.2.2.2 1) 2 := by unfold ctR; rw [if_neg (by omega), if_neg (by omega), if_neg (by omega), if_neg (by omega), if_neg (by omega), if_pos h]
theorem ct6 (h : p.toInt = 6) : ctR σ tp p = (σ.1.1 2).toInt := by unfold ctR; rw [if_neg (by omega), if_neg (by omega), if_neg (by omega), if_neg (by omega), if_neg (by omega), if_neg (by omega), if_pos h]
theorem ct7 (h : p.toInt < 0 ∨ 6 < p.toInt) : ctR σ tp p = -1 := by unfold ctR; rw [if_neg (by omega), if_neg (by omega), if_neg (by omega), if_neg (by omega), if_neg (by omega), if_neg (by omega), if_neg (by omega)]
theorem cx_sh (A : cxA Q I J x σ) {s : Nat} (hs : s < 2) {k : Int} : (Q (sa Q x) s = none → ctB (σ.2.2.2 s) k = 0) ∧ (∀ y, Q (sa Q x) s = some y → ctB (σ.2.2.2 s) k = k) := by
  rcases A.1.2.2.2.1 s hs with ⟨a, b⟩ | ⟨F, c, a, b, _, _⟩
  · exact ⟨fun _ => (by rw [b]; rfl), fun y h => (by rw [a] at h; cases h)⟩
  · exact ⟨fun h => (by rw [a] at h; cases h), fun y _ => (by rw [b]; rfl)⟩
theorem cm_sh (A : cmA Q I J m σ) {s : Nat} (hs : s < 2) {k : Int} : (I (a0 Q m 10) s = 0 → ctB (σ.2.2.2 s) k = 0) ∧ (¬ I (a0 Q m 10) s = 0 → ctB (σ.2.2.2 s) k = k) := by
  rcases A.2.2.2 s hs with ⟨a, b⟩ | ⟨a, c, b, _⟩
  · exact ⟨fun _ => by rw [b]; rfl, fun h => absurd a h⟩
  · exact ⟨fun h => absurd h a, fun _ => by rw [b]; rfl⟩
end CT
/-- the digest, as both sides go through it -/
def dgK (c : Fx) (b : Nat) : Nat → Int64 → Int64
  | 0, h => h
  | k + 1, h => 31 * dgK c b k h + (c.1 (19 + 8 * b + k)).toInt64
def dgB (c : Fx) : Nat → Int64
  | 0 => 17
  | n + 1 => dgK c n 8 (dgB c n)
def dgW (c : Fx) (m : Nat) : Nat → Int64 → Int64
  | 0, h => h
  | k + 1, h => 31 * dgW c m k h + mo c.2 m k
def dgM (c : Fx) : Nat → Int64 → Int64
  | 0, h => h
  | n + 1, h => dgW c n (2 * (c.1 (11 + n)).toInt.toNat) (dgM c n h)
def dgR (σ : Sx) : Int64 := dgM σ.1 (σ.1.1 0).toInt.toNat (dgB σ.1 (σ.1.1 1).toInt.toNat)
theorem dg_B {c : Fx} {n k : Nat} (h : k = n + 1) : dgB c k = dgK c n 8 (dgB c n) := by rw [h]; rfl
theorem dg_K {c : Fx} {b n k : Nat} {h : Int64} (e : k = n + 1) : dgK c b k h = 31 * dgK c b n h + (c.1 (19 + 8 * b + n)).toInt64 := by rw [e]; rfl
theorem dg_M {c : Fx} {n k : Nat} {h : Int64} (e : k = n + 1) : dgM c k h = dgW c n (2 * (c.1 (11 + n)).toInt.toNat) (dgM c n h) := by rw [e]; rfl
theorem dg_W {c : Fx} {m n k : Nat} {h : Int64} (e : k = n + 1) : dgW c m k h = 31 * dgW c m n h + mo c.2 m n := by rw [e]; rfl
/-- a letter of a mask's text -/
def ltM (w h : Int32) : Int32 := (w + 1) * h - 1
def ltX (w k : Int32) : Int32 := k - k / (w + 1) * (w + 1)
def ltR (σ : Sx) (m k : Int32) : Int := if mK σ m ∧ -1 ≤ k.toInt then (if k.toInt = -1 then (ltM (mW σ m) (mH σ m)).toInt else if (ltM (mW σ m) (mH σ m)).toInt ≤ k.toInt then -2 else if (ltX (mW σ m) k).toInt = (mW σ m).toInt then 47 else 46 - 11 * bi (hs (mW σ m).toInt (mH σ m).toInt (mF σ m) (ltX (mW σ m) k).toInt (k / (mW σ m + 1)).toInt)) else -1
theorem ltr0 {σ : Sx} {m k : Int32} (h : ¬ (mK σ m ∧ -1 ≤ k.toInt)) : ltR σ m k = -1 := if_neg h
theorem ltr1 {σ : Sx} {m k : Int32} (h : mK σ m ∧ -1 ≤ k.toInt) (q : k.toInt = -1) : ltR σ m k = (ltM (mW σ m) (mH σ m)).toInt := by unfold ltR; rw [if_pos h, if_pos q]
theorem ltr2 {σ : Sx} {m k : Int32} (h : mK σ m ∧ -1 ≤ k.toInt) (q : ¬ k.toInt = -1) (r : (ltM (mW σ m) (mH σ m)).toInt ≤ k.toInt) : ltR σ m k = -2 := by unfold ltR; rw [if_pos h, if_neg q, if_pos r]
theorem ltr3 {σ : Sx} {m k : Int32} (h : mK σ m ∧ -1 ≤ k.toInt) (q : ¬ k.toInt = -1) (r : ¬ (ltM (mW σ m) (mH σ m)).toInt ≤ k.toInt) (t : (ltX (mW σ m) k).toInt = (mW σ m).toInt) : ltR σ m k = 47 := by unfold ltR; rw [if_pos h, if_neg q, if_neg r, if_pos t]
theorem ltr4 {σ : Sx} {m k : Int32} {b : Int} (h : mK σ m ∧ -1 ≤ k.toInt) (q : ¬ k.toInt = -1) (r : ¬ (ltM (mW σ m) (mH σ m)).toInt ≤ k.toInt) (t : ¬ (ltX (mW σ m) k).toInt = (mW σ m).toInt) (e : b = bi (hs (mW σ m).toInt (mH σ m).toInt (mF σ m) (ltX (mW σ m) k).toInt (k / (mW σ m + 1)).toInt)) : ltR σ m k = 46 - 11 * b := by unfold ltR; rw [if_pos h, if_neg q, if_neg r, if_neg t, e]
/-- whom a body touches -/
def tcP (c : Fx) (b o : Nat) : Prop := o < (c.1 1).toInt.toNat ∧ ¬ b = o ∧ mayT c b o ∧ metM c b o 0 0
def tcR (σ : Sx) (b r : Int32) : Prop := ((0 ≤ b.toInt ∧ b.toInt < (σ.1.1 1).toInt) → ∀ o : Nat, hbt r o = true ↔ tcP σ.1 b.toInt.toNat o) ∧ (¬ (0 ≤ b.toInt ∧ b.toInt < (σ.1.1 1).toInt) → r.toInt = -1)
theorem tc_uni {σ : Sx} {b r s : Int32} (h : tcR σ b r) (k : tcR σ b s) : r = s := by
  by_cases q : 0 ≤ b.toInt ∧ b.toInt < (σ.1.1 1).toInt
  · exact hb_ext (fun i _ => Bool.eq_iff_iff.mpr ((h.1 q i).trans (k.1 q i).symm))
  · exact Int32.toInt_inj.mp ((h.2 q).trans (k.2 q).symm)
theorem tc_no {c : Fx} {b i j : Nat} {z : Int32} (h : ∀ o : Nat, hbt z o = true ↔ o < i ∧ tcP c b o) (hj : j = i + 1) (n : ¬ tcP c b i) : ∀ o : Nat, hbt z o = true ↔ o < j ∧ tcP c b o := fun o => by
  rw [h o, hj]
  constructor
  · exact fun q => ⟨by omega, q.2⟩
  · intro q
    by_cases e : o = i
    · exact absurd (e ▸ q.2) n
    · exact ⟨by omega, q.2⟩
theorem tc_yes {c : Fx} {b i j : Nat} {z y : Int32} (h : ∀ o : Nat, hbt z o = true ↔ o < i ∧ tcP c b o) (hj : j = i + 1) (e : ∀ o, hbt y o = (hbt z o || decide (o = i))) (n : tcP c b i) : ∀ o : Nat, hbt y o = true ↔ o < j ∧ tcP c b o := fun o => by
  rw [e o, Bool.or_eq_true, h o, decide_eq_true_iff, hj]
  constructor
  · rintro (q | q)
    · exact ⟨by omega, q.2⟩
    · exact ⟨by omega, q ▸ n⟩
  · intro q
    by_cases w : o = i
    · exact Or.inr w
    · exact Or.inl ⟨by omega, q.2⟩
/-- the k-th pair that touches: the pairs as both sides go through them -/
def prI (N i : Nat) : Nat → List (Nat × Nat)
  | 0 => []
  | k + 1 => (List.range' (i + 1) (N - (i + 1))).map (fun j => (i, j)) ++ prI N (i + 1) k
def prJ (N i j : Nat) : List (Nat × Nat) := (List.range' j (N - j)).map (fun j => (i, j)) ++ prI N (i + 1) (N - (i + 1))
theorem prJ_go {N i j : Nat} (h : j < N) : prJ N i j = (i, j) :: prJ N i (j + 1) := by
  unfold prJ
  rw [show N - j = (N - (j + 1)) + 1 by omega, List.range'_succ]; rfl
theorem prJ_end {N i j : Nat} (h : ¬ j < N) : prJ N i j = prI N (i + 1) (N - (i + 1)) := by
  unfold prJ
  rw [show N - j = 0 by omega]; rfl
theorem prI_go {N i : Nat} (h : i < N) : prI N i (N - i) = prJ N i (i + 1) := by
  unfold prJ
  rw [show N - i = (N - (i + 1)) + 1 by omega]; rfl
theorem prI_end {N i : Nat} (h : ¬ i < N) : prI N i (N - i) = [] := by rw [show N - i = 0 by omega]; rfl
noncomputable def cnL (P : Nat × Nat → Prop) (k : Int32) : List (Nat × Nat) → Int32 → Int32
  | [], n => if k = -1 then n else -2
  | p :: t, n => @ite _ (P p) (Classical.propDecidable _) (if n = k then Int32.ofInt (100 * (p.1 : Int) + p.2) else cnL P k t (n + 1)) (cnL P k t n)
theorem cn_no {P : Nat × Nat → Prop} {k n : Int32} {p : Nat × Nat} {t : List (Nat × Nat)} (h : ¬ P p) : cnL P k (p :: t) n = cnL P k t n := if_neg h
theorem cn_hit {P : Nat × Nat → Prop} {k n : Int32} {p : Nat × Nat} {t : List (Nat × Nat)} (h : P p) (e : n = k) : cnL P k (p :: t) n = Int32.ofInt (100 * (p.1 : Int) + p.2) := by
  unfold cnL; rw [if_pos h, if_pos e]
theorem cn_go {P : Nat × Nat → Prop} {k n : Int32} {p : Nat × Nat} {t : List (Nat × Nat)} (h : P p) (e : ¬ n = k) : cnL P k (p :: t) n = cnL P k t (n + 1) := by
  conv => lhs; unfold cnL
  rw [if_pos h, if_neg e]
def toP (c : Fx) (p : Nat × Nat) : Prop := mayT c p.1 p.2 ∧ metM c p.1 p.2 0 0
noncomputable def cnR (σ : Sx) (k : Int32) : Int32 := if k.toInt < -1 then -1 else cnL (toP σ.1) k (prI (σ.1.1 1).toInt.toNat 0 ((σ.1.1 1).toInt.toNat - 0)) 0
/-! who covers a place -/
theorem bt_no {P : Nat → Prop} {i j : Nat} {z : Int32} (h : ∀ o : Nat, hbt z o = true ↔ o < i ∧ P o) (hj : j = i + 1) (n : ¬ P i) : ∀ o : Nat, hbt z o = true ↔ o < j ∧ P o := fun o => by
  rw [h o, hj]
  constructor
  · exact fun q => ⟨by omega, q.2⟩
  · intro q
    by_cases e : o = i
    · exact absurd (e ▸ q.2) n
    · exact ⟨by omega, q.2⟩
theorem bt_yes {P : Nat → Prop} {i j : Nat} {z y : Int32} (h : ∀ o : Nat, hbt z o = true ↔ o < i ∧ P o) (hj : j = i + 1) (e : ∀ o, hbt y o = (hbt z o || decide (o = i))) (n : P i) : ∀ o : Nat, hbt y o = true ↔ o < j ∧ P o := fun o => by
  rw [e o, Bool.or_eq_true, h o, decide_eq_true_iff, hj]
  constructor
  · rintro (q | q)
    · exact ⟨by omega, q.2⟩
    · exact ⟨by omega, q ▸ n⟩
  · intro q
    by_cases w : o = i
    · exact Or.inr w
    · exact Or.inl ⟨by omega, q.2⟩
def cvP (c : Fx) (x y : Int32) (o : Nat) : Prop := o < (c.1 1).toInt.toNat ∧ shp c o (x - c.1 (19 + 8 * o + 1)).toInt (y - c.1 (19 + 8 * o + 2)).toInt = true
def atR (σ : Sx) (x y r : Int32) : Prop := ∀ o : Nat, hbt r o = true ↔ cvP σ.1 x y o
theorem at_uni {σ : Sx} {x y r s : Int32} (h : atR σ x y r) (k : atR σ x y s) : r = s := hb_ext (fun i _ => Bool.eq_iff_iff.mpr ((h i).trans (k i).symm))
theorem biT {b : Bool} : ¬ bi b = 0 ↔ b = true := by cases b <;> decide
theorem hs_shp {c : Fx} {b : Nat} (ok : okF c) (hb : b < (c.1 1).toInt.toNat) (x y : Int) : hs (bw_ c b).toInt (bh_ c b).toInt (mkw (shp c b)) x y = shp c b x y := by
  have o := okm_shp ok hb
  have o1 := o.1
  have o2 := o.2.1
  by_cases q : 0 ≤ x ∧ x < (bw_ c b).toInt ∧ 0 ≤ y ∧ y < (bh_ c b).toInt
  · unfold hs
    rw [decide_eq_true q, Bool.true_and, mkw_md (by omega) (by omega) (by omega) (by omega)]
  · rw [hs_n q]
    unfold shp flipD
    rw [decide_eq_false q, Bool.false_and]
theorem tq_subw {x y z : Int32} {k q : Int} (ez : z = x - y) (hx : x.toInt = k) (hy : y.toInt = q) : z.toInt = k - q ∨ z.toInt = k - q - 4294967296 ∨ z.toInt = k - q + 4294967296 := by
  have h1 := fb_rng x
  have h2 := fb_rng y
  rw [hx] at h1
  rw [hy] at h2
  rcases Int.lt_or_le (k - q) (-2147483648) with h | h
  · right; right
    rw [ez, Int32.toInt_sub, hx, hy, ← Int.add_bmod_right]
    exact fb_bmod (by simp; omega) (by simp; omega)
  · rcases Int.lt_or_le (k - q) 2147483648 with h3 | h3
    · left
      rw [ez, Int32.toInt_sub, hx, hy, fb_bmod h h3]
    · right; left
      rw [ez, Int32.toInt_sub, hx, hy, ← Int.sub_bmod_right]
      exact fb_bmod (by simp; omega) (by simp; omega)
def flW (w : Int) (q : Prop) (d e : Int32) : Prop := (q → e.toInt = w - 1 - d.toInt ∨ e.toInt = w - 1 - d.toInt - 4294967296 ∨ e.toInt = w - 1 - d.toInt + 4294967296) ∧ (¬ q → e = d)
theorem fl_hs {w h fl : Int} {f : Nat → Int64} {dx dy X Y : Int32} (hw : 1 ≤ w ∧ w ≤ 100) (hh : 1 ≤ h ∧ h ≤ 40) (A : flW w (fl % 2 = 1) dx X) (B : flW h (2 ≤ fl) dy Y) : hs w h f X.toInt Y.toInt = flipD w h fl f dx.toInt dy.toInt := by
  have r1 := fb_rng dx
  have r2 := fb_rng dy
  have r3 := fb_rng X
  have r4 := fb_rng Y
  have a : (0 ≤ X.toInt ∧ X.toInt < w ↔ 0 ≤ dx.toInt ∧ dx.toInt < w) ∧ (0 ≤ dx.toInt ∧ dx.toInt < w → X.toInt = flx w fl dx.toInt) := by
    unfold flx
    by_cases q : fl % 2 = 1
    · have k := A.1 q
      rw [if_pos q]
      constructor
      · constructor <;> omega
      · omega
    · rw [if_neg q, A.2 q]; exact ⟨Iff.rfl, fun _ => rfl⟩
  have b : (0 ≤ Y.toInt ∧ Y.toInt < h ↔ 0 ≤ dy.toInt ∧ dy.toInt < h) ∧ (0 ≤ dy.toInt ∧ dy.toInt < h → Y.toInt = fly h fl dy.toInt) := by
    unfold fly
    by_cases q : 2 ≤ fl
    · have k := B.1 q
      rw [if_pos q]
      constructor
      · constructor <;> omega
      · omega
    · rw [if_neg q, B.2 q]; exact ⟨Iff.rfl, fun _ => rfl⟩
  unfold hs flipD
  by_cases q : 0 ≤ dx.toInt ∧ dx.toInt < w ∧ 0 ≤ dy.toInt ∧ dy.toInt < h
  · rw [decide_eq_true q, decide_eq_true (show 0 ≤ X.toInt ∧ X.toInt < w ∧ 0 ≤ Y.toInt ∧ Y.toInt < h by have u := a.1.mpr ⟨q.1, q.2.1⟩; have v := b.1.mpr q.2.2; exact ⟨u.1, u.2, v⟩), a.2 ⟨q.1, q.2.1⟩, b.2 q.2.2]
  · rw [decide_eq_false q, decide_eq_false (fun s => q (by have u := a.1.mp ⟨s.1, s.2.1⟩; have v := b.1.mp s.2.2; exact ⟨u.1, u.2, v⟩)), Bool.false_and, Bool.false_and]
/-! the first step at which something holds -/
def gpR (P : Int → Prop) (n : Int) (r : Int32) : Prop := (∃ k : Int, (0 ≤ k ∧ k ≤ n) ∧ P k ∧ (∀ j, 0 ≤ j → j < k → ¬ P j) ∧ r.toInt = k) ∨ ((∀ j, 0 ≤ j → j ≤ n → ¬ P j) ∧ r.toInt = -2)
theorem gp_uni {P : Int → Prop} {n : Int} {r s : Int32} (h : gpR P n r) (k : gpR P n s) : r = s := by
  rcases h with ⟨a, b, c, d, e⟩ | ⟨a, e⟩ <;> rcases k with ⟨a2, b2, c2, d2, e2⟩ | ⟨a2, e2⟩
  · refine Int32.toInt_inj.mp (by rw [e, e2]; rcases Int.lt_trichotomy a a2 with w | w | w; exact absurd c (d2 a b.1 w); exact w; exact absurd c2 (d a2 b2.1 w))
  · exact absurd c (a2 a b.1 b.2)
  · exact absurd c2 (a a2 b2.1 b2.2)
  · exact Int32.toInt_inj.mp (e.trans e2.symm)
theorem gp_eq {P P2 : Int → Prop} {n : Int} {r : Int32} (e : P = P2) (h : gpR P n r) : gpR P2 n r := e ▸ h
theorem mul_1 {a b z : Int32} (e : z = a * b) (ha : 0 ≤ a.toInt ∧ a.toInt ≤ 501) (hb : -1 ≤ b.toInt ∧ b.toInt ≤ 1) : z.toInt = a.toInt * b.toInt ∧ -501 ≤ z.toInt ∧ z.toInt ≤ 501 := by
  have c : b.toInt = -1 ∨ b.toInt = 0 ∨ b.toInt = 1 := by omega
  have w : -501 ≤ a.toInt * b.toInt ∧ a.toInt * b.toInt ≤ 501 := by rcases c with q | q | q <;> rw [q] <;> omega
  have r := tq_mul e rfl rfl (by omega) (by omega)
  exact ⟨r, by omega, by omega⟩
def gx (w : Int) : Int := if w = 0 then 1 else if w = 1 then -1 else 0
def gy (w : Int) : Int := if w = 2 then 1 else if w = 3 then -1 else 0
def twV (σ : Sx) (a b : Int32) : Prop := ((0 ≤ a.toInt ∧ a.toInt < (σ.1.1 1).toInt) ∧ (0 ≤ b.toInt ∧ b.toInt < (σ.1.1 1).toInt)) ∧ ¬ a.toInt = b.toInt
def gpP (c : Fx) (a b : Nat) (x y : Int) (k : Int) : Prop := mayT c a b ∧ metM c a b (k * x) (k * y)
def gaR (σ : Sx) (a b w r : Int32) : Prop := (twV σ a b ∧ (0 ≤ w.toInt ∧ w.toInt ≤ 3) → gpR (gpP σ.1 a.toInt.toNat b.toInt.toNat (gx w.toInt) (gy w.toInt)) 500 r) ∧ (¬ (twV σ a b ∧ (0 ≤ w.toInt ∧ w.toInt ≤ 3)) → r.toInt = -1)
theorem ga_uni {σ : Sx} {a b w r s : Int32} (h : gaR σ a b w r) (k : gaR σ a b w s) : r = s := by
  by_cases q : twV σ a b ∧ (0 ≤ w.toInt ∧ w.toInt ≤ 3)
  · exact gp_uni (h.1 q) (k.1 q)
  · exact Int32.toInt_inj.mp ((h.2 q).trans (k.2 q).symm)
/-! the first step along both bodies' speeds -/
theorem mul_40 {a b z : Int32} (e : z = a * b) (ha : 0 ≤ a.toInt ∧ a.toInt ≤ 500) (hb : -40 ≤ b.toInt ∧ b.toInt ≤ 40) : z.toInt = a.toInt * b.toInt ∧ -20000 ≤ z.toInt ∧ z.toInt ≤ 20000 := by
  have h1 : a.toInt * b.toInt ≤ a.toInt * 40 := Int.mul_le_mul_of_nonneg_left hb.2 ha.1
  have h2 : a.toInt * (-40) ≤ a.toInt * b.toInt := Int.mul_le_mul_of_nonneg_left hb.1 ha.1
  have r := tq_mul e rfl rfl (by omega) (by omega)
  exact ⟨r, by omega, by omega⟩
def fv (σ : Sx) (k a b : Nat) : Int := (σ.1.1 (19 + 8 * a + k)).toInt - (σ.1.1 (19 + 8 * b + k)).toInt
def fsR (σ : Sx) (a b n r : Int32) : Prop := (twV σ a b ∧ (0 ≤ n.toInt ∧ n.toInt ≤ 300) → gpR (gpP σ.1 a.toInt.toNat b.toInt.toNat (fv σ 6 a.toInt.toNat b.toInt.toNat) (fv σ 7 a.toInt.toNat b.toInt.toNat)) n.toInt r) ∧ (¬ (twV σ a b ∧ (0 ≤ n.toInt ∧ n.toInt ≤ 300)) → r.toInt = -1)
theorem fs_uni {σ : Sx} {a b n r s : Int32} (h : fsR σ a b n r) (k : fsR σ a b n s) : r = s := by
  by_cases q : twV σ a b ∧ (0 ≤ n.toInt ∧ n.toInt ≤ 300)
  · exact gp_uni (h.1 q) (k.1 q)
  · exact Int32.toInt_inj.mp ((h.2 q).trans (k.2 q).symm)
theorem bd20 {a b : Int} (h : (-2000 ≤ a ∧ a ≤ 2000) ∧ -2000 ≤ b ∧ b ≤ 2000) : (-20000 ≤ a ∧ a ≤ 20000) ∧ -20000 ≤ b ∧ b ≤ 20000 := by omega
/-! the first place along a way that a body covers -/
theorem ry_of {z : Int32} {e : Int} (h : z.toInt = e) : z = Int32.ofInt e := by rw [← h, Int32.ofInt_toInt]
def ryP (σ : Sx) (x y dx dy : Int32) (k : Int) (o : Nat) : Prop := cvP σ.1 (Int32.ofInt (x.toInt + byI k dx.toInt (stI dx.toInt dy.toInt))) (Int32.ofInt (y.toInt + byI k dy.toInt (stI dx.toInt dy.toInt))) o
def ryV (x y dx dy : Int32) : Prop := ((-9999 ≤ x.toInt ∧ x.toInt ≤ 9999) ∧ -9999 ≤ y.toInt ∧ y.toInt ≤ 9999) ∧ (-300 ≤ dx.toInt ∧ dx.toInt ≤ 300) ∧ -300 ≤ dy.toInt ∧ dy.toInt ≤ 300
def raF (P : Int → Nat → Prop) (n : Int) (r : Int32) : Prop := (∃ (k : Int) (o : Nat), (0 ≤ k ∧ k ≤ n) ∧ P k o ∧ (∀ (j : Int) (q : Nat), 0 ≤ j → j < k → ¬ P j q) ∧ (∀ q : Nat, q < o → ¬ P k q) ∧ r.toInt = 100 * k + o) ∨ ((∀ (j : Int) (q : Nat), 0 ≤ j → j ≤ n → ¬ P j q) ∧ r.toInt = -2)
theorem ra_uni {P : Int → Nat → Prop} {n : Int} {r s : Int32} (h : raF P n r) (k : raF P n s) : r = s := by
  rcases h with ⟨a, o, b, c, d, f, e⟩ | ⟨a, e⟩ <;> rcases k with ⟨a2, o2, b2, c2, d2, f2, e2⟩ | ⟨a2, e2⟩
  · have q : a = a2 := by
      rcases Int.lt_trichotomy a a2 with w | w | w
      · exact absurd c (d2 a o b.1 w)
      · exact w
      · exact absurd c2 (d a2 o2 b2.1 w)
    subst q
    have q2 : o = o2 := by
      rcases Nat.lt_trichotomy o o2 with w | w | w
      · exact absurd c (f2 o w)
      · exact w
      · exact absurd c2 (f o2 w)
    exact Int32.toInt_inj.mp (by rw [e, e2, q2])
  · exact absurd c (a2 a o b.1 b.2)
  · exact absurd c2 (a a2 o2 b2.1 b2.2)
  · exact Int32.toInt_inj.mp (e.trans e2.symm)
def ryR (σ : Sx) (x y dx dy r : Int32) : Prop := (ryV x y dx dy → raF (ryP σ x y dx dy) (stI dx.toInt dy.toInt) r) ∧ (¬ ryV x y dx dy → r.toInt = -1)
theorem ry_uni {σ : Sx} {x y dx dy r s : Int32} (h : ryR σ x y dx dy r) (k : ryR σ x y dx dy s) : r = s := by
  by_cases q : ryV x y dx dy
  · exact ra_uni (h.1 q) (k.1 q)
  · exact Int32.toInt_inj.mp ((h.2 q).trans (k.2 q).symm)
/-! boxes of dots, and the sieve -/
def boxP (f g : Nat → Int64) (dx dy : Int) : Prop := (∃ x y u v : Int, md f x y = true ∧ md g u v = true ∧ x ≤ u + dx) ∧ (∃ x y u v : Int, md f x y = true ∧ md g u v = true ∧ u + dx ≤ x) ∧ (∃ x y u v : Int, md f x y = true ∧ md g u v = true ∧ y ≤ v + dy) ∧ ∃ x y u v : Int, md f x y = true ∧ md g u v = true ∧ v + dy ≤ y
theorem bxs_P {f g : Nat → Int64} {t0 l0 u0 r0 b0 t1 l1 u1 r1 b1 dx dy : Int} (m0 : msr f t0 l0 u0 r0 b0) (m1 : msr g t1 l1 u1 r1 b1) : bxs t0 l0 u0 r0 b0 t1 l1 u1 r1 b1 dx dy ↔ boxP f g dx dy := by
  constructor
  · rintro ⟨⟨p0, p1⟩, hx, hy⟩
    obtain ⟨⟨_, a1⟩, ⟨_, a2⟩, ⟨_, a3⟩, ⟨_, a4⟩, -⟩ := m0.2.1 (by omega)
    obtain ⟨⟨_, c1⟩, ⟨_, c2⟩, ⟨_, c3⟩, ⟨_, c4⟩, -⟩ := m1.2.1 (by omega)
    exact ⟨⟨_, _, _, _, a1, c3, hx.1⟩, ⟨_, _, _, _, a3, c1, hx.2⟩, ⟨_, _, _, _, a2, c4, hy.1⟩, ⟨_, _, _, _, a4, c2, hy.2⟩⟩
  · rintro ⟨⟨x, y, u, v, a, b, q⟩, ⟨x2, y2, u2, v2, a2, b2, q2⟩, ⟨x3, y3, u3, v3, a3, b3, q3⟩, ⟨x4, y4, u4, v4, a4, b4, q4⟩⟩
    have p := msr_pos m0 a
    have r := msr_pos m1 b
    have p2 := msr_pos m0 a2
    have r2 := msr_pos m1 b2
    have p3 := msr_pos m0 a3
    have r3 := msr_pos m1 b3
    have p4 := msr_pos m0 a4
    have r4 := msr_pos m1 b4
    unfold bxs
    omega
theorem ovl_boxP {f g : Nat → Int64} {dx dy : Int} (h : ovl f g dx dy) : boxP f g dx dy := by
  obtain ⟨x, y, a, b⟩ := h
  exact ⟨⟨x, y, _, _, a, b, by omega⟩, ⟨x, y, _, _, a, b, by omega⟩, ⟨x, y, _, _, a, b, by omega⟩, ⟨x, y, _, _, a, b, by omega⟩⟩
def boxM (c : Fx) (a b : Nat) : Prop := boxP (mkw (shp c a)) (mkw (shp c b)) (bX c b - bX c a) (bY c b - bY c a)
theorem met_box {c : Fx} {a b : Nat} (h : metM c a b 0 0) : boxM c a b := by
  unfold metM at h
  rw [Int.sub_zero, Int.sub_zero] at h
  exact ovl_boxP h
def svP (c : Fx) (w : Int) (a b : Nat) : Prop := mayT c a b ∧ (w = 0 ∨ boxM c a b ∧ (w = 1 ∨ metM c a b 0 0))
noncomputable def smL (P : Nat × Nat → Prop) : List (Nat × Nat) → Int32 → Int32
  | [], n => n
  | p :: t, n => @ite _ (P p) (Classical.propDecidable _) (smL P t (n + 1)) (smL P t n)
theorem sm_no {P : Nat × Nat → Prop} {n : Int32} {p : Nat × Nat} {t : List (Nat × Nat)} (h : ¬ P p) : smL P (p :: t) n = smL P t n := if_neg h
theorem sm_go {P : Nat × Nat → Prop} {n : Int32} {p : Nat × Nat} {t : List (Nat × Nat)} (h : P p) : smL P (p :: t) n = smL P t (n + 1) := if_pos h
def svT (σ : Sx) (w : Int) (p : Nat × Nat) : Prop := svP σ.1 w p.1 p.2
noncomputable def svR (σ : Sx) (w : Int32) : Int32 := if 0 ≤ w.toInt ∧ w.toInt ≤ 2 then smL (svT σ w.toInt) (prI (σ.1.1 1).toInt.toNat 0 ((σ.1.1 1).toInt.toNat - 0)) 0 else -1
/-- a mask's ends, flipped and moved, are its body's -/
theorem exD_sh {D : Int → Int → Bool} {w h fl l t r bt X Y : Int} (e : exD D (l, t, r, bt)) : exD (fun x y => D (flx w fl (x - X)) (fly h fl (y - Y))) (X + cutL fl w l r, Y + cutA fl h t bt, X + cutL fl w l r + r - l, Y + cutA fl h t bt + bt - t) := by
  obtain ⟨⟨y1, a1⟩, ⟨x2, a2⟩, ⟨y3, a3⟩, ⟨x4, a4⟩, al⟩ := e
  have a1 : D l y1 = true := a1
  have a2 : D x2 t = true := a2
  have a3 : D r y3 = true := a3
  have a4 : D x4 bt = true := a4
  have FX : ∀ x, flx w fl (X + flx w fl x - X) = x := by
    intro x; unfold flx
    by_cases p : fl % 2 = 1
    · rw [if_pos p, if_pos p]; omega
    · rw [if_neg p, if_neg p]; omega
  have FY : ∀ y, fly h fl (Y + fly h fl y - Y) = y := by
    intro y; unfold fly
    by_cases p : 2 ≤ fl
    · rw [if_pos p, if_pos p]; omega
    · rw [if_neg p, if_neg p]; omega
  have hx : (∃ y, D (flx w fl (X + cutL fl w l r - X)) y = true) ∧ (∃ y, D (flx w fl (X + cutL fl w l r + r - l - X)) y = true) ∧ ∀ x, l ≤ flx w fl (x - X) → flx w fl (x - X) ≤ r → X + cutL fl w l r ≤ x ∧ x ≤ X + cutL fl w l r + r - l := by
    unfold cutL flx
    by_cases p : fl % 2 = 1
    · simp only [if_pos p]
      refine ⟨⟨y3, ?_⟩, ⟨y1, ?_⟩, fun x h1 h2 => by omega⟩
      · rw [show w - 1 - (X + (w - 1 - r) - X) = r by omega]; exact a3
      · rw [show w - 1 - (X + (w - 1 - r) + r - l - X) = l by omega]; exact a1
    · simp only [if_neg p]
      refine ⟨⟨y1, ?_⟩, ⟨y3, ?_⟩, fun x h1 h2 => by omega⟩
      · rw [show X + l - X = l by omega]; exact a1
      · rw [show X + l + r - l - X = r by omega]; exact a3
  have hy : (∃ x, D x (fly h fl (Y + cutA fl h t bt - Y)) = true) ∧ (∃ x, D x (fly h fl (Y + cutA fl h t bt + bt - t - Y)) = true) ∧ ∀ y, t ≤ fly h fl (y - Y) → fly h fl (y - Y) ≤ bt → Y + cutA fl h t bt ≤ y ∧ y ≤ Y + cutA fl h t bt + bt - t := by
    unfold cutA fly
    by_cases p : 2 ≤ fl
    · simp only [if_pos p]
      refine ⟨⟨x4, ?_⟩, ⟨x2, ?_⟩, fun x h1 h2 => by omega⟩
      · rw [show h - 1 - (Y + (h - 1 - bt) - Y) = bt by omega]; exact a4
      · rw [show h - 1 - (Y + (h - 1 - bt) + bt - t - Y) = t by omega]; exact a2
    · simp only [if_neg p]
      refine ⟨⟨x2, ?_⟩, ⟨x4, ?_⟩, fun x h1 h2 => by omega⟩
      · rw [show Y + t - Y = t by omega]; exact a2
      · rw [show Y + t + bt - t - Y = bt by omega]; exact a4
  obtain ⟨⟨u1, b1⟩, ⟨u3, b3⟩, bx⟩ := hx
  obtain ⟨⟨v2, b2⟩, ⟨v4, b4⟩, bY⟩ := hy
  refine ⟨⟨Y + fly h fl u1, ?_⟩, ⟨X + flx w fl v2, ?_⟩, ⟨Y + fly h fl u3, ?_⟩, ⟨X + flx w fl v4, ?_⟩, fun x y q => ?_⟩
  · show D (flx w fl (X + cutL fl w l r - X)) (fly h fl (Y + fly h fl u1 - Y)) = true
    rw [FY]; exact b1
  · show D (flx w fl (X + flx w fl v2 - X)) (fly h fl (Y + cutA fl h t bt - Y)) = true
    rw [FX]; exact b2
  · show D (flx w fl (X + cutL fl w l r + r - l - X)) (fly h fl (Y + fly h fl u3 - Y)) = true
    rw [FY]; exact b3
  · show D (flx w fl (X + flx w fl v4 - X)) (fly h fl (Y + cutA fl h t bt + bt - t - Y)) = true
    rw [FX]; exact b4
  · have k := al _ _ q
    exact ⟨bx x k.1.1 k.1.2, bY y k.2.1 k.2.2⟩
/-- a body's dots where they lie -/
def atD (c : Fx) (b : Nat) (x y : Int) : Bool := shp c b (x - bX c b) (y - bY c b)
theorem shp_fl (c : Fx) (b : Nat) (x y : Int) : shp c b x y = hs (bw_ c b).toInt (bh_ c b).toInt (mo c.2 (c.1 (19 + 8 * b)).toInt.toNat) (flx (bw_ c b).toInt (c.1 (19 + 8 * b + 3)).toInt x) (fly (bh_ c b).toInt (c.1 (19 + 8 * b + 3)).toInt y) := by
  unfold shp flipD hs
  have e : (0 ≤ x ∧ x < (bw_ c b).toInt ∧ 0 ≤ y ∧ y < (bh_ c b).toInt) ↔ (0 ≤ flx (bw_ c b).toInt (c.1 (19 + 8 * b + 3)).toInt x ∧ flx (bw_ c b).toInt (c.1 (19 + 8 * b + 3)).toInt x < (bw_ c b).toInt ∧ 0 ≤ fly (bh_ c b).toInt (c.1 (19 + 8 * b + 3)).toInt y ∧ fly (bh_ c b).toInt (c.1 (19 + 8 * b + 3)).toInt y < (bh_ c b).toInt) := by
    unfold flx fly
    by_cases p : (c.1 (19 + 8 * b + 3)).toInt % 2 = 1 <;> by_cases q : 2 ≤ (c.1 (19 + 8 * b + 3)).toInt <;> simp only [p, q, if_true, if_false] <;> omega
  rw [decide_eq_decide.mpr e]
theorem exD_at {c : Fx} {b : Nat} {D : Int → Int → Bool} {l t r bt : Int} (eD : ∀ x y, D x y = hs (bw_ c b).toInt (bh_ c b).toInt (mo c.2 (c.1 (19 + 8 * b)).toInt.toNat) x y) (e : exD D (l, t, r, bt)) : exD (atD c b) (bX c b + cutL (c.1 (19 + 8 * b + 3)).toInt (bw_ c b).toInt l r, bY c b + cutA (c.1 (19 + 8 * b + 3)).toInt (bh_ c b).toInt t bt, bX c b + cutL (c.1 (19 + 8 * b + 3)).toInt (bw_ c b).toInt l r + r - l, bY c b + cutA (c.1 (19 + 8 * b + 3)).toInt (bh_ c b).toInt t bt + bt - t) := by
  obtain rfl : D = hs (bw_ c b).toInt (bh_ c b).toInt (mo c.2 (c.1 (19 + 8 * b)).toInt.toNat) := funext fun x => funext fun y => eD x y
  have q := exD_sh (w := (bw_ c b).toInt) (h := (bh_ c b).toInt) (fl := (c.1 (19 + 8 * b + 3)).toInt) (X := bX c b) (Y := bY c b) e
  have k : atD c b = fun x y => hs (bw_ c b).toInt (bh_ c b).toInt (mo c.2 (c.1 (19 + 8 * b)).toInt.toNat) (flx (bw_ c b).toInt (c.1 (19 + 8 * b + 3)).toInt (x - bX c b)) (fly (bh_ c b).toInt (c.1 (19 + 8 * b + 3)).toInt (y - bY c b)) := funext fun x => funext fun y => shp_fl c b _ _
  rw [k]; exact q
/-- bodies' boxes meet, out of their ends -/
theorem shp_md {c : Fx} {b : Nat} (ok : okF c) (hb : b < (c.1 1).toInt.toNat) (x y : Int) : md (mkw (shp c b)) x y = shp c b x y := (hs_of (okm_shp ok hb).2.2 x y).symm.trans (hs_shp ok hb x y)
theorem boxM_ex {c : Fx} {a b : Nat} {e f : Int × Int × Int × Int} (ok : okF c) (ha : a < (c.1 1).toInt.toNat) (hb : b < (c.1 1).toInt.toNat) (h : exD (atD c a) e) (k : exD (atD c b) f) : boxM c a b ↔ (f.1 ≤ e.2.2.1 ∧ e.1 ≤ f.2.2.1) ∧ f.2.1 ≤ e.2.2.2 ∧ e.2.1 ≤ f.2.2.2 := by
  have A : ∀ x y, md (mkw (shp c a)) x y = true ↔ atD c a (x + bX c a) (y + bY c a) = true := fun x y => by unfold atD; rw [shp_md ok ha, Int.add_sub_cancel, Int.add_sub_cancel]
  have B : ∀ x y, md (mkw (shp c b)) x y = true ↔ atD c b (x + bX c b) (y + bY c b) = true := fun x y => by unfold atD; rw [shp_md ok hb, Int.add_sub_cancel, Int.add_sub_cancel]
  have A2 : ∀ x y, atD c a x y = true → md (mkw (shp c a)) (x - bX c a) (y - bY c a) = true := fun x y q => (A _ _).mpr (by rw [Int.sub_add_cancel, Int.sub_add_cancel]; exact q)
  have B2 : ∀ x y, atD c b x y = true → md (mkw (shp c b)) (x - bX c b) (y - bY c b) = true := fun x y q => (B _ _).mpr (by rw [Int.sub_add_cancel, Int.sub_add_cancel]; exact q)
  obtain ⟨⟨y1, a1⟩, ⟨x2, a2⟩, ⟨y3, a3⟩, ⟨x4, a4⟩, al⟩ := h
  obtain ⟨⟨v1, b1⟩, ⟨u2, b2⟩, ⟨v3, b3⟩, ⟨u4, b4⟩, bl⟩ := k
  constructor
  · rintro ⟨⟨x, y, u, v, p, q, s⟩, ⟨x', y', u', v', p', q', s'⟩, ⟨x3', y3', u3', v3', p3, q3, s3⟩, ⟨x4', y4', u4', v4', p4, q4, s4⟩⟩
    have r1 := al _ _ ((A _ _).mp p)
    have r2 := bl _ _ ((B _ _).mp q)
    have r3 := al _ _ ((A _ _).mp p')
    have r4 := bl _ _ ((B _ _).mp q')
    have r5 := al _ _ ((A _ _).mp p3)
    have r6 := bl _ _ ((B _ _).mp q3)
    have r7 := al _ _ ((A _ _).mp p4)
    have r8 := bl _ _ ((B _ _).mp q4)
    omega
  · rintro ⟨⟨q1, q2⟩, q3, q4⟩
    exact ⟨⟨_, _, _, _, A2 _ _ a1, B2 _ _ b3, by omega⟩, ⟨_, _, _, _, A2 _ _ a3, B2 _ _ b1, by omega⟩, ⟨_, _, _, _, A2 _ _ a2, B2 _ _ b4, by omega⟩, ⟨_, _, _, _, A2 _ _ a4, B2 _ _ b2, by omega⟩⟩
theorem boxM_no {c : Fx} {a b : Nat} (ok : okF c) (ha : a < (c.1 1).toInt.toNat) (hb : b < (c.1 1).toInt.toNat) (h : (∀ x y, atD c a x y = false) ∨ ∀ x y, atD c b x y = false) : ¬ boxM c a b := by
  rintro ⟨⟨x, y, u, v, p, q, s⟩, -⟩
  rw [shp_md ok ha] at p
  rw [shp_md ok hb] at q
  rcases h with h | h
  · have k := h (x + bX c a) (y + bY c a)
    unfold atD at k
    rw [Int.add_sub_cancel, Int.add_sub_cancel, p] at k
    cases k
  · have k := h (u + bX c b) (v + bY c b)
    unfold atD at k
    rw [Int.add_sub_cancel, Int.add_sub_cancel, q] at k
    cases k
/-! where a body's dots end -/
theorem exD_m {c : Fx} {b : Nat} {tot l t r bt : Int} {e : Int × Int × Int × Int} (ok : okF c) (hb : b < (c.1 1).toInt.toNat) (m : msr (mkw (shp c b)) tot l t r bt) (h : exD (atD c b) e) : (e.1 = bX c b + l ∧ e.2.2.1 = bX c b + r) ∧ e.2.1 = bY c b + t ∧ e.2.2.2 = bY c b + bt := by
  have B : ∀ x y, md (mkw (shp c b)) x y = true → atD c b (x + bX c b) (y + bY c b) = true := fun x y q => by unfold atD; rw [← shp_md ok hb, Int.add_sub_cancel, Int.add_sub_cancel]; exact q
  have B2 : ∀ x y, atD c b x y = true → md (mkw (shp c b)) (x - bX c b) (y - bY c b) = true := fun x y q => by rw [shp_md ok hb]; exact q
  obtain ⟨⟨y1, a1⟩, ⟨x2, a2⟩, ⟨y3, a3⟩, ⟨x4, a4⟩, al⟩ := h
  have p1 := msr_pos m (B2 _ _ a1)
  have p2 := msr_pos m (B2 _ _ a2)
  have p3 := msr_pos m (B2 _ _ a3)
  have p4 := msr_pos m (B2 _ _ a4)
  obtain ⟨⟨_, c1⟩, ⟨_, c2⟩, ⟨_, c3⟩, ⟨_, c4⟩, -⟩ := m.2.1 (by omega)
  have q1 := al _ _ (B _ _ c1)
  have q2 := al _ _ (B _ _ c2)
  have q3 := al _ _ (B _ _ c3)
  have q4 := al _ _ (B _ _ c4)
  omega
theorem dots_m {c : Fx} {b : Nat} {tot l t r bt : Int} (ok : okF c) (hb : b < (c.1 1).toInt.toNat) (m : msr (mkw (shp c b)) tot l t r bt) : 0 < tot ↔ ∃ x y, atD c b x y = true := by
  constructor
  · intro q
    obtain ⟨⟨y, a⟩, -⟩ := m.2.1 (by omega)
    exact ⟨l + bX c b, y + bY c b, by unfold atD; rw [← shp_md ok hb, Int.add_sub_cancel, Int.add_sub_cancel]; exact a⟩
  · rintro ⟨x, y, q⟩
    exact (msr_pos m (x := x - bX c b) (y := y - bY c b) (by rw [shp_md ok hb]; exact q)).1
