/-! what questions answer -/
def dtR (σ : Sx) (m x y : Int32) : Int := if mK σ m then bi (hs (mW σ m).toInt (mH σ m).toInt (mF σ m) x.toInt y.toInt) else -1
def rwR (σ : Sx) (m y w : Int32) : Int64 := if mK σ m ∧ (0 ≤ y.toInt ∧ y.toInt < (mH σ m).toInt) ∧ (0 ≤ w.toInt ∧ w.toInt ≤ 1) then mF σ m (2 * y.toInt.toNat + w.toInt.toNat) else 0
def bdR (σ : Sx) (b k : Int32) : Int := if (0 ≤ b.toInt ∧ b.toInt < (σ.1.1 1).toInt) ∧ (0 ≤ k.toInt ∧ k.toInt ≤ 7) then (σ.1.1 (19 + 8 * b.toInt.toNat + k.toInt.toNat)).toInt else -2000
section QS
variable {L : List Nat} {K G : Nat → Nat} {Q : Nat → Nat → Option Nat} {I : Nat → Nat → Int32} {J : Nat → Nat → Int64} {x m : Nat} {σ : Sx} {p : Int32}
theorem cx_0 (A : cxA Q I J x σ) : I (an Q x) 2 = σ.1.1 0 := A.1.1.2.1
theorem cx_1 (A : cxA Q I J x σ) : I (an Q x) 3 = σ.1.1 1 := A.1.1.2.2.1
theorem cm_0 (A : cmA Q I J m σ) : I (a0 Q m 0) 0 = σ.1.1 0 := cmA_n A (k := 0) (by decide)
theorem cm_1 (A : cmA Q I J m σ) : I (a0 Q m 0) 1 = σ.1.1 1 := cmA_n A (k := 1) (by decide)
theorem cx_b (A : cxA Q I J x σ) {b : Nat} (hb : b < (σ.1.1 1).toInt.toNat) {k : Nat} (hk : k < 8) : I (fb Q (an Q x) b) k = σ.1.1 (19 + 8 * b + k) := A.1.1.2.2.2.2.2 b hb k hk
end QS
/-- all masks' dots, as both sides add them up -/
def sumT (c : Fx) : Nat → Int32
  | 0 => 0
  | n + 1 => sumT c n + Int32.ofInt (totr (mo c.2 n) 40 : Int)
def ctB (o : Option Fx) (k : Int) : Int := match o with
  | none => 0
  | some _ => k
def ctR (σ : Sx) (tp : Int) (k : Int32) : Int := if k.toInt = 0 then (σ.1.1 0).toInt else if k.toInt = 1 then (σ.1.1 1).toInt else if k.toInt = 2 then (sumT σ.1 (σ.1.1 0).toInt.toNat).toInt else if k.toInt = 3 then (σ.2.1 : Int) else if k.toInt = 4 then tp else if k.toInt = 5 then ctB (σ.2.2.2 0) 1 + ctB (σ.2.2.2 1) 2 else if k.toInt = 6 then (σ.1.1 2).toInt else -1
section CT
variable {L : List Nat} {K G : Nat → Nat} {Q : Nat → Nat → Option Nat} {I : Nat → Nat → Int32} {J : Nat → Nat → Int64} {x m : Nat} {σ : Sx} {p : Int32} {tp : Int}
theorem ct0 (h : p.toInt = 0) : ctR σ tp p = (σ.1.1 0).toInt := if_pos h
theorem ct1 (h : p.toInt = 1) : ctR σ tp p = (σ.1.1 1).toInt := by unfold ctR; rw [if_neg (by omega), if_pos h]
theorem ct2 (h : p.toInt = 2) : ctR σ tp p = (sumT σ.1 (σ.1.1 0).toInt.toNat).toInt := by unfold ctR; rw [if_neg (by omega), if_neg (by omega), if_pos h]
theorem ct3 (h : p.toInt = 3) : ctR σ tp p = (σ.2.1 : Int) := by unfold ctR; rw [if_neg (by omega), if_neg (by omega), if_neg (by omega), if_pos h]
theorem ct4 (h : p.toInt = 4) : ctR σ tp p = tp := by unfold ctR; rw [if_neg (by omega), if_neg (by omega), if_neg (by omega), if_neg (by omega), if_pos h]
theorem ct5 (h : p.toInt = 5) : ctR σ tp p = ctB (σ.2.2.2 0) 1 + ctB (σ.2.2.2 1) 2 := by unfold ctR; rw [if_neg (by omega), if_neg (by omega), if_neg (by omega), if_neg (by omega), if_neg (by omega), if_pos h]
theorem ct6 (h : p.toInt = 6) : ctR σ tp p = (σ.1.1 2).toInt := by unfold ctR; rw [if_neg (by omega), if_neg (by omega), if_neg (by omega), if_neg (by omega), if_neg (by omega), if_neg (by omega), if_pos h]
theorem ct7 (h : p.toInt < 0 ∨ 6 < p.toInt) : ctR σ tp p = -1 := by unfold ctR; rw [if_neg (by omega), if_neg (by omega), if_neg (by omega), if_neg (by omega), if_neg (by omega), if_neg (by omega), if_neg (by omega)]
theorem cx_sh (A : cxA Q I J x σ) {s : Nat} (hs : s < 2) {k : Int} : (Q (sa Q x) s = none → ctB (σ.2.2.2 s) k = 0) ∧ (∀ y, Q (sa Q x) s = some y → ctB (σ.2.2.2 s) k = k) := by
  rcases A.1.2.2.2.1 s hs with ⟨a, b⟩ | ⟨F, c, a, b, _, _⟩
  · exact ⟨fun _ => (by rw [b]; rfl), fun y h => (by rw [a] at h; cases h)⟩
  · exact ⟨fun h => (by rw [a] at h; cases h), fun y _ => (by rw [b]; rfl)⟩
theorem cm_sh (A : cmA Q I J m σ) {s : Nat} (hs : s < 2) {k : Int} : (I (a0 Q m 10) s = 0 → ctB (σ.2.2.2 s) k = 0) ∧ (¬ I (a0 Q m 10) s = 0 → ctB (σ.2.2.2 s) k = k) := by
  rcases A.2.2.2 s hs with ⟨a, b⟩ | ⟨a, c, b, _⟩
  · exact ⟨fun _ => by rw [b]; rfl, fun h => absurd a h⟩
  · exact ⟨fun h => absurd h a, fun _ => by rw [b]; rfl⟩
end CT
/-- the digest, as both sides go through it -/
def dgK (c : Fx) (b : Nat) : Nat → Int64 → Int64
  | 0, h => h
  | k + 1, h => 31 * dgK c b k h + (c.1 (19 + 8 * b + k)).toInt64
def dgB (c : Fx) : Nat → Int64
  | 0 => 17
  | n + 1 => dgK c n 8 (dgB c n)
def dgW (c : Fx) (m : Nat) : Nat → Int64 → Int64
  | 0, h => h
  | k + 1, h => 31 * dgW c m k h + mo c.2 m k
def dgM (c : Fx) : Nat → Int64 → Int64
  | 0, h => h
  | n + 1, h => dgW c n (2 * (c.1 (11 + n)).toInt.toNat) (dgM c n h)
def dgR (σ : Sx) : Int64 := dgM σ.1 (σ.1.1 0).toInt.toNat (dgB σ.1 (σ.1.1 1).toInt.toNat)
theorem dg_B {c : Fx} {n k : Nat} (h : k = n + 1) : dgB c k = dgK c n 8 (dgB c n) := by rw [h]; rfl
theorem dg_K {c : Fx} {b n k : Nat} {h : Int64} (e : k = n + 1) : dgK c b k h = 31 * dgK c b n h + (c.1 (19 + 8 * b + n)).toInt64 := by rw [e]; rfl
theorem dg_M {c : Fx} {n k : Nat} {h : Int64} (e : k = n + 1) : dgM c k h = dgW c n (2 * (c.1 (11 + n)).toInt.toNat) (dgM c n h) := by rw [e]; rfl
theorem dg_W {c : Fx} {m n k : Nat} {h : Int64} (e : k = n + 1) : dgW c m k h = 31 * dgW c m n h + mo c.2 m n := by rw [e]; rfl
/-- a letter of a mask's text -/
def ltM (w h : Int32) : Int32 := (w + 1) * h - 1
def ltX (w k : Int32) : Int32 := k - k / (w + 1) * (w + 1)
def ltR (σ : Sx) (m k : Int32) : Int := if mK σ m ∧ -1 ≤ k.toInt then (if k.toInt = -1 then (ltM (mW σ m) (mH σ m)).toInt else if (ltM (mW σ m) (mH σ m)).toInt ≤ k.toInt then -2 else if (ltX (mW σ m) k).toInt = (mW σ m).toInt then 47 else 46 - 11 * bi (hs (mW σ m).toInt (mH σ m).toInt (mF σ m) (ltX (mW σ m) k).toInt (k / (mW σ m + 1)).toInt)) else -1
theorem ltr0 {σ : Sx} {m k : Int32} (h : ¬ (mK σ m ∧ -1 ≤ k.toInt)) : ltR σ m k = -1 := if_neg h
theorem ltr1 {σ : Sx} {m k : Int32} (h : mK σ m ∧ -1 ≤ k.toInt) (q : k.toInt = -1) : ltR σ m k = (ltM (mW σ m) (mH σ m)).toInt := by unfold ltR; rw [if_pos h, if_pos q]
theorem ltr2 {σ : Sx} {m k : Int32} (h : mK σ m ∧ -1 ≤ k.toInt) (q : ¬ k.toInt = -1) (r : (ltM (mW σ m) (mH σ m)).toInt ≤ k.toInt) : ltR σ m k = -2 := by unfold ltR; rw [if_pos h, if_neg q, if_pos r]
theorem ltr3 {σ : Sx} {m k : Int32} (h : mK σ m ∧ -1 ≤ k.toInt) (q : ¬ k.toInt = -1) (r : ¬ (ltM (mW σ m) (mH σ m)).toInt ≤ k.toInt) (t : (ltX (mW σ m) k).toInt = (mW σ m).toInt) : ltR σ m k = 47 := by unfold ltR; rw [if_pos h, if_neg q, if_neg r, if_pos t]
theorem ltr4 {σ : Sx} {m k : Int32} {b : Int} (h : mK σ m ∧ -1 ≤ k.toInt) (q : ¬ k.toInt = -1) (r : ¬ (ltM (mW σ m) (mH σ m)).toInt ≤ k.toInt) (t : ¬ (ltX (mW σ m) k).toInt = (mW σ m).toInt) (e : b = bi (hs (mW σ m).toInt (mH σ m).toInt (mF σ m) (ltX (mW σ m) k).toInt (k / (mW σ m + 1)).toInt)) : ltR σ m k = 46 - 11 * b := by unfold ltR; rw [if_pos h, if_neg q, if_neg r, if_neg t, e]
/-- whom a body touches -/
def tcP (c : Fx) (b o : Nat) : Prop := o < (c.1 1).toInt.toNat ∧ ¬ b = o ∧ mayT c b o ∧ metM c b o 0 0
def tcR (σ : Sx) (b r : Int32) : Prop := ((0 ≤ b.toInt ∧ b.toInt < (σ.1.1 1).toInt) → ∀ o : Nat, hbt r o = true ↔ tcP σ.1 b.toInt.toNat o) ∧ (¬ (0 ≤ b.toInt ∧ b.toInt < (σ.1.1 1).toInt) → r.toInt = -1)
theorem tc_uni {σ : Sx} {b r s : Int32} (h : tcR σ b r) (k : tcR σ b s) : r = s := by
  by_cases q : 0 ≤ b.toInt ∧ b.toInt < (σ.1.1 1).toInt
  · exact hb_ext (fun i _ => Bool.eq_iff_iff.mpr ((h.1 q i).trans (k.1 q i).symm))
  · exact Int32.toInt_inj.mp ((h.2 q).trans (k.2 q).symm)
theorem tc_no {c : Fx} {b i j : Nat} {z : Int32} (h : ∀ o : Nat, hbt z o = true ↔ o < i ∧ tcP c b o) (hj : j = i + 1) (n : ¬ tcP c b i) : ∀ o : Nat, hbt z o = true ↔ o < j ∧ tcP c b o := fun o => by
  rw [h o, hj]
  constructor
  · exact fun q => ⟨by omega, q.2⟩
  · intro q
    by_cases e : o = i
    · exact absurd (e ▸ q.2) n
    · exact ⟨by omega, q.2⟩
theorem tc_yes {c : Fx} {b i j : Nat} {z y : Int32} (h : ∀ o : Nat, hbt z o = true ↔ o < i ∧ tcP c b o) (hj : j = i + 1) (e : ∀ o, hbt y o = (hbt z o || decide (o = i))) (n : tcP c b i) : ∀ o : Nat, hbt y o = true ↔ o < j ∧ tcP c b o := fun o => by
  rw [e o, Bool.or_eq_true, h o, decide_eq_true_iff, hj]
  constructor
  · rintro (q | q)
    · exact ⟨by omega, q.2⟩
    · exact ⟨by omega, q ▸ n⟩
  · intro q
    by_cases w : o = i
    · exact Or.inr w
    · exact Or.inl ⟨by omega, q.2⟩
/-- the k-th pair that touches: the pairs as both sides go through them -/
def prI (N i : Nat) : Nat → List (Nat × Nat)
  | 0 => []
  | k + 1 => (List.range' (i + 1) (N - (i + 1))).map (fun j => (i, j)) ++ prI N (i + 1) k
def prJ (N i j : Nat) : List (Nat × Nat) := (List.range' j (N - j)).map (fun j => (i, j)) ++ prI N (i + 1) (N - (i + 1))
theorem prJ_go {N i j : Nat} (h : j < N) : prJ N i j = (i, j) :: prJ N i (j + 1) := by
  unfold prJ
  rw [show N - j = (N - (j + 1)) + 1 by omega, List.range'_succ]; rfl
theorem prJ_end {N i j : Nat} (h : ¬ j < N) : prJ N i j = prI N (i + 1) (N - (i + 1)) := by
  unfold prJ
  rw [show N - j = 0 by omega]; rfl
theorem prI_go {N i : Nat} (h : i < N) : prI N i (N - i) = prJ N i (i + 1) := by
  unfold prJ
  rw [show N - i = (N - (i + 1)) + 1 by omega]; rfl
theorem prI_end {N i : Nat} (h : ¬ i < N) : prI N i (N - i) = [] := by rw [show N - i = 0 by omega]; rfl
noncomputable def cnL (P : Nat × Nat → Prop) (k : Int32) : List (Nat × Nat) → Int32 → Int32
  | [], n => if k = -1 then n else -2
  | p :: t, n => @ite _ (P p) (Classical.propDecidable _) (if n = k then Int32.ofInt (100 * (p.1 : Int) + p.2) else cnL P k t (n + 1)) (cnL P k t n)
theorem cn_no {P : Nat × Nat → Prop} {k n : Int32} {p : Nat × Nat} {t : List (Nat × Nat)} (h : ¬ P p) : cnL P k (p :: t) n = cnL P k t n := if_neg h
theorem cn_hit {P : Nat × Nat → Prop} {k n : Int32} {p : Nat × Nat} {t : List (Nat × Nat)} (h : P p) (e : n = k) : cnL P k (p :: t) n = Int32.ofInt (100 * (p.1 : Int) + p.2) := by
  unfold cnL; rw [if_pos h, if_pos e]
theorem cn_go {P : Nat × Nat → Prop} {k n : Int32} {p : Nat × Nat} {t : List (Nat × Nat)} (h : P p) (e : ¬ n = k) : cnL P k (p :: t) n = cnL P k t (n + 1) := by
  conv => lhs; unfold cnL
  rw [if_pos h, if_neg e]
def toP (c : Fx) (p : Nat × Nat) : Prop := mayT c p.1 p.2 ∧ metM c p.1 p.2 0 0
noncomputable def cnR (σ : Sx) (k : Int32) : Int32 := if k.toInt < -1 then -1 else cnL (toP σ.1) k (prI (σ.1.1 1).toInt.toNat 0 ((σ.1.1 1).toInt.toNat - 0)) 0
/-! who covers a place -/
theorem bt_no {P : Nat → Prop} {i j : Nat} {z : Int32} (h : ∀ o : Nat, hbt z o = true ↔ o < i ∧ P o) (hj : j = i + 1) (n : ¬ P i) : ∀ o : Nat, hbt z o = true ↔ o < j ∧ P o := fun o => by
  rw [h o, hj]
  constructor
  · exact fun q => ⟨by omega, q.2⟩
  · intro q
    by_cases e : o = i
    · exact absurd (e ▸ q.2) n
    · exact ⟨by omega, q.2⟩
theorem bt_yes {P : Nat → Prop} {i j : Nat} {z y : Int32} (h : ∀ o : Nat, hbt z o = true ↔ o < i ∧ P o) (hj : j = i + 1) (e : ∀ o, hbt y o = (hbt z o || decide (o = i))) (n : P i) : ∀ o : Nat, hbt y o = true ↔ o < j ∧ P o := fun o => by
  rw [e o, Bool.or_eq_true, h o, decide_eq_true_iff, hj]
  constructor
  · rintro (q | q)
    · exact ⟨by omega, q.2⟩
    · exact ⟨by omega, q ▸ n⟩
  · intro q
    by_cases w : o = i
    · exact Or.inr w
    · exact Or.inl ⟨by omega, q.2⟩
def cvP (c : Fx) (x y : Int32) (o : Nat) : Prop := o < (c.1 1).toInt.toNat ∧ shp c o (x - c.1 (19 + 8 * o + 1)).toInt (y - c.1 (19 + 8 * o + 2)).toInt = true
def atR (σ : Sx) (x y r : Int32) : Prop := ∀ o : Nat, hbt r o = true ↔ cvP σ.1 x y o
theorem at_uni {σ : Sx} {x y r s : Int32} (h : atR σ x y r) (k : atR σ x y s) : r = s := hb_ext (fun i _ => Bool.eq_iff_iff.mpr ((h i).trans (k i).symm))
theorem biT {b : Bool} : ¬ bi b = 0 ↔ b = true := by cases b <;> decide
theorem hs_shp {c : Fx} {b : Nat} (ok : okF c) (hb : b < (c.1 1).toInt.toNat) (x y : Int) : hs (bw_ c b).toInt (bh_ c b).toInt (mkw (shp c b)) x y = shp c b x y := by
  have o := okm_shp ok hb
  have o1 := o.1
  have o2 := o.2.1
  by_cases q : 0 ≤ x ∧ x < (bw_ c b).toInt ∧ 0 ≤ y ∧ y < (bh_ c b).toInt
  · unfold hs
    rw [decide_eq_true q, Bool.true_and, mkw_md (by omega) (by omega) (by omega) (by omega)]
  · rw [hs_n q]
    unfold shp flipD
    rw [decide_eq_false q, Bool.false_and]
theorem tq_subw {x y z : Int32} {k q : Int} (ez : z = x - y) (hx : x.toInt = k) (hy : y.toInt = q) : z.toInt = k - q ∨ z.toInt = k - q - 4294967296 ∨ z.toInt = k - q + 4294967296 := by
  have h1 := fb_rng x
  have h2 := fb_rng y
  rw [hx] at h1
  rw [hy] at h2
  rcases Int.lt_or_le (k - q) (-2147483648) with h | h
  · right; right
    rw [ez, Int32.toInt_sub, hx, hy, ← Int.add_bmod_right]
    exact fb_bmod (by simp; omega) (by simp; omega)
  · rcases Int.lt_or_le (k - q) 2147483648 with h3 | h3
    · left
      rw [ez, Int32.toInt_sub, hx, hy, fb_bmod h h3]
    · right; left
      rw [ez, Int32.toInt_sub, hx, hy, ← Int.sub_bmod_right]
      exact fb_bmod (by simp; omega) (by simp; omega)
def flW (w : Int) (q : Prop) (d e : Int32) : Prop := (q → e.toInt = w - 1 - d.toInt ∨ e.toInt = w - 1 - d.toInt - 4294967296 ∨ e.toInt = w - 1 - d.toInt + 4294967296) ∧ (¬ q → e = d)
theorem fl_hs {w h fl : Int} {f : Nat → Int64} {dx dy X Y : Int32} (hw : 1 ≤ w ∧ w ≤ 100) (hh : 1 ≤ h ∧ h ≤ 40) (A : flW w (fl % 2 = 1) dx X) (B : flW h (2 ≤ fl) dy Y) : hs w h f X.toInt Y.toInt = flipD w h fl f dx.toInt dy.toInt := by
  have r1 := fb_rng dx
  have r2 := fb_rng dy
  have r3 := fb_rng X
  have r4 := fb_rng Y
  have a : (0 ≤ X.toInt ∧ X.toInt < w ↔ 0 ≤ dx.toInt ∧ dx.toInt < w) ∧ (0 ≤ dx.toInt ∧ dx.toInt < w → X.toInt = flx w fl dx.toInt) := by
    unfold flx
    by_cases q : fl % 2 = 1
    · have k := A.1 q
      rw [if_pos q]
      constructor
      · constructor <;> omega
      · omega
    · rw [if_neg q, A.2 q]; exact ⟨Iff.rfl, fun _ => rfl⟩
  have b : (0 ≤ Y.toInt ∧ Y.toInt < h ↔ 0 ≤ dy.toInt ∧ dy.toInt < h) ∧ (0 ≤ dy.toInt ∧ dy.toInt < h → Y.toInt = fly h fl dy.toInt) := by
    unfold fly
    by_cases q : 2 ≤ fl
    · have k := B.1 q
      rw [if_pos q]
      constructor
      · constructor <;> omega
      · omega
    · rw [if_neg q, B.2 q]; exact ⟨Iff.rfl, fun _ => rfl⟩
  unfold hs flipD
  by_cases q : 0 ≤ dx.toInt ∧ dx.toInt < w ∧ 0 ≤ dy.toInt ∧ dy.toInt < h
  · rw [decide_eq_true q, decide_eq_true (show 0 ≤ X.toInt ∧ X.toInt < w ∧ 0 ≤ Y.toInt ∧ Y.toInt < h by have u := a.1.mpr ⟨q.1, q.2.1⟩; have v := b.1.mpr q.2.2; exact ⟨u.1, u.2, v⟩), a.2 ⟨q.1, q.2.1⟩, b.2 q.2.2]
  · rw [decide_eq_false q, decide_eq_false (fun s => q (by have u := a.1.mp ⟨s.1, s.2.1⟩; have v := b.1.mp s.2.2; exact ⟨u.1, u.2, v⟩)), Bool.false_and, Bool.false_and]
/-! the first step at which something holds -/
def gpR (P : Int → Prop) (n : Int) (r : Int32) : Prop := (∃ k : Int, (0 ≤ k ∧ k ≤ n) ∧ P k ∧ (∀ j, 0 ≤ j → j < k → ¬ P j) ∧ r.toInt = k) ∨ ((∀ j, 0 ≤ j → j ≤ n → ¬ P j) ∧ r.toInt = -2)
theorem gp_uni {P : Int → Prop} {n : Int} {r s : Int32} (h : gpR P n r) (k : gpR P n s) : r = s := by
  rcases h with ⟨a, b, c, d, e⟩ | ⟨a, e⟩ <;> rcases k with ⟨a2, b2, c2, d2, e2⟩ | ⟨a2, e2⟩
  · refine Int32.toInt_inj.mp (by rw [e, e2]; rcases Int.lt_trichotomy a a2 with w | w | w; exact absurd c (d2 a b.1 w); exact w; exact absurd c2 (d a2 b2.1 w))
  · exact absurd c (a2 a b.1 b.2)
  · exact absurd c2 (a a2 b2.1 b2.2)
  · exact Int32.toInt_inj.mp (e.trans e2.symm)
theorem gp_eq {P P2 : Int → Prop} {n : Int} {r : Int32} (e : P = P2) (h : gpR P n r) : gpR P2 n r := e ▸ h
theorem mul_1 {a b z : Int32} (e : z = a * b) (ha : 0 ≤ a.toInt ∧ a.toInt ≤ 501) (hb : -1 ≤ b.toInt ∧ b.toInt ≤ 1) : z.toInt = a.toInt * b.toInt ∧ -501 ≤ z.toInt ∧ z.toInt ≤ 501 := by
  have c : b.toInt = -1 ∨ b.toInt = 0 ∨ b.toInt = 1 := by omega
  have w : -501 ≤ a.toInt * b.toInt ∧ a.toInt * b.toInt ≤ 501 := by rcases c with q | q | q <;> rw [q] <;> omega
  have r := tq_mul e rfl rfl (by omega) (by omega)
  exact ⟨r, by omega, by omega⟩
def gx (w : Int) : Int := if w = 0 then 1 else if w = 1 then -1 else 0
def gy (w : Int) : Int := if w = 2 then 1 else if w = 3 then -1 else 0
def twV (σ : Sx) (a b : Int32) : Prop := ((0 ≤ a.toInt ∧ a.toInt < (σ.1.1 1).toInt) ∧ (0 ≤ b.toInt ∧ b.toInt < (σ.1.1 1).toInt)) ∧ ¬ a.toInt = b.toInt
def gpP (c : Fx) (a b : Nat) (x y : Int) (k : Int) : Prop := mayT c a b ∧ metM c a b (k * x) (k * y)
def gaR (σ : Sx) (a b w r : Int32) : Prop := (twV σ a b ∧ (0 ≤ w.toInt ∧ w.toInt ≤ 3) → gpR (gpP σ.1 a.toInt.toNat b.toInt.toNat (gx w.toInt) (gy w.toInt)) 500 r) ∧ (¬ (twV σ a b ∧ (0 ≤ w.toInt ∧ w.toInt ≤ 3)) → r.toInt = -1)
theorem ga_uni {σ : Sx} {a b w r s : Int32} (h : gaR σ a b w r) (k : gaR σ a b w s) : r = s := by
  by_cases q : twV σ a b ∧ (0 ≤ w.toInt ∧ w.toInt ≤ 3)
  · exact gp_uni (h.1 q) (k.1 q)
  · exact Int32.toInt_inj.mp ((h.2 q).trans (k.2 q).symm)
/-! the first step along both bodies' speeds -/
theorem mul_40 {a b z : Int32} (e : z = a * b) (ha : 0 ≤ a.toInt ∧ a.toInt ≤ 500) (hb : -40 ≤ b.toInt ∧ b.toInt ≤ 40) : z.toInt = a.toInt * b.toInt ∧ -20000 ≤ z.toInt ∧ z.toInt ≤ 20000 := by
  have h1 : a.toInt * b.toInt ≤ a.toInt * 40 := Int.mul_le_mul_of_nonneg_left hb.2 ha.1
  have h2 : a.toInt * (-40) ≤ a.toInt * b.toInt := Int.mul_le_mul_of_nonneg_left hb.1 ha.1
  have r := tq_mul e rfl rfl (by omega) (by omega)
  exact ⟨r, by omega, by omega⟩
def fv (σ : Sx) (k a b : Nat) : Int := (σ.1.1 (19 + 8 * a + k)).toInt - (σ.1.1 (19 + 8 * b + k)).toInt
def fsR (σ : Sx) (a b n r : Int32) : Prop := (twV σ a b ∧ (0 ≤ n.toInt ∧ n.toInt ≤ 300) → gpR (gpP σ.1 a.toInt.toNat b.toInt.toNat (fv σ 6 a.toInt.toNat b.toInt.toNat) (fv σ 7 a.toInt.toNat b.toInt.toNat)) n.toInt r) ∧ (¬ (twV σ a b ∧ (0 ≤ n.toInt ∧ n.toInt ≤ 300)) → r.toInt = -1)
theorem fs_uni {σ : Sx} {a b n r s : Int32} (h : fsR σ a b n r) (k : fsR σ a b n s) : r = s := by
  by_cases q : twV σ a b ∧ (0 ≤ n.toInt ∧ n.toInt ≤ 300)
  · exact gp_uni (h.1 q) (k.1 q)
  · exact Int32.toInt_inj.mp ((h.2 q).trans (k.2 q).symm)
theorem bd20 {a b : Int} (h : (-2000 ≤ a ∧ a ≤ 2000) ∧ -2000 ≤ b ∧ b ≤ 2000) : (-20000 ≤ a ∧ a ≤ 20000) ∧ -20000 ≤ b ∧ b ≤ 20000 := by omega
/-! the first place along a way that a body covers -/
theorem ry_of {z : Int32} {e : Int} (h : z.toInt = e) : z = Int32.ofInt e := by rw [← h, Int32.ofInt_toInt]
def ryP (σ : Sx) (x y dx dy : Int32) (k : Int) (o : Nat) : Prop := cvP σ.1 (Int32.ofInt (x.toInt + byI k dx.toInt (stI dx.toInt dy.toInt))) (Int32.ofInt (y.toInt + byI k dy.toInt (stI dx.toInt dy.toInt))) o
def ryV (x y dx dy : Int32) : Prop := ((-9999 ≤ x.toInt ∧ x.toInt ≤ 9999) ∧ -9999 ≤ y.toInt ∧ y.toInt ≤ 9999) ∧ (-300 ≤ dx.toInt ∧ dx.toInt ≤ 300) ∧ -300 ≤ dy.toInt ∧ dy.toInt ≤ 300
def raF (P : Int → Nat → Prop) (n : Int) (r : Int32) : Prop := (∃ (k : Int) (o : Nat), (0 ≤ k ∧ k ≤ n) ∧ P k o ∧ (∀ (j : Int) (q : Nat), 0 ≤ j → j < k → ¬ P j q) ∧ (∀ q : Nat, q < o → ¬ P k q) ∧ r.toInt = 100 * k + o) ∨ ((∀ (j : Int) (q : Nat), 0 ≤ j → j ≤ n → ¬ P j q) ∧ r.toInt = -2)
theorem ra_uni {P : Int → Nat → Prop} {n : Int} {r s : Int32} (h : raF P n r) (k : raF P n s) : r = s := by
  rcases h with ⟨a, o, b, c, d, f, e⟩ | ⟨a, e⟩ <;> rcases k with ⟨a2, o2, b2, c2, d2, f2, e2⟩ | ⟨a2, e2⟩
  · have q : a = a2 := by
      rcases Int.lt_trichotomy a a2 with w | w | w
      · exact absurd c (d2 a o b.1 w)
      · exact w
      · exact absurd c2 (d a2 o2 b2.1 w)
    subst q
    have q2 : o = o2 := by
      rcases Nat.lt_trichotomy o o2 with w | w | w
      · exact absurd c (f2 o w)
      · exact w
      · exact absurd c2 (f o2 w)
    exact Int32.toInt_inj.mp (by rw [e, e2, q2])
  · exact absurd c (a2 a o b.1 b.2)
  · exact absurd c2 (a a2 o2 b2.1 b2.2)
  · exact Int32.toInt_inj.mp (e.trans e2.symm)
def ryR (σ : Sx) (x y dx dy r : Int32) : Prop := (ryV x y dx dy → raF (ryP σ x y dx dy) (stI dx.toInt dy.toInt) r) ∧ (¬ ryV x y dx dy → r.toInt = -1)
theorem ry_uni {σ : Sx} {x y dx dy r s : Int32} (h : ryR σ x y dx dy r) (k : ryR σ x y dx dy s) : r = s := by
  by_cases q : ryV x y dx dy
  · exact ra_uni (h.1 q) (k.1 q)
  · exact Int32.toInt_inj.mp ((h.2 q).trans (k.2 q).symm)
/-! boxes of dots, and the sieve -/
def boxP (f g : Nat → Int64) (dx dy : Int) : Prop := (∃ x y u v : Int, md f x y = true ∧ md g u v = true ∧ x ≤ u + dx) ∧ (∃ x y u v : Int, md f x y = true ∧ md g u v = true ∧ u + dx ≤ x) ∧ (∃ x y u v : Int, md f x y = true ∧ md g u v = true ∧ y ≤ v + dy) ∧ ∃ x y u v : Int, md f x y = true ∧ md g u v = true ∧ v + dy ≤ y
theorem bxs_P {f g : Nat → Int64} {t0 l0 u0 r0 b0 t1 l1 u1 r1 b1 dx dy : Int} (m0 : msr f t0 l0 u0 r0 b0) (m1 : msr g t1 l1 u1 r1 b1) : bxs t0 l0 u0 r0 b0 t1 l1 u1 r1 b1 dx dy ↔ boxP f g dx dy := by
  constructor
  · rintro ⟨⟨p0, p1⟩, hx, hy⟩
    obtain ⟨⟨_, a1⟩, ⟨_, a2⟩, ⟨_, a3⟩, ⟨_, a4⟩, -⟩ := m0.2.1 (by omega)
    obtain ⟨⟨_, c1⟩, ⟨_, c2⟩, ⟨_, c3⟩, ⟨_, c4⟩, -⟩ := m1.2.1 (by omega)
    exact ⟨⟨_, _, _, _, a1, c3, hx.1⟩, ⟨_, _, _, _, a3, c1, hx.2⟩, ⟨_, _, _, _, a2, c4, hy.1⟩, ⟨_, _, _, _, a4, c2, hy.2⟩⟩
  · rintro ⟨⟨x, y, u, v, a, b, q⟩, ⟨x2, y2, u2, v2, a2, b2, q2⟩, ⟨x3, y3, u3, v3, a3, b3, q3⟩, ⟨x4, y4, u4, v4, a4, b4, q4⟩⟩
    have p := msr_pos m0 a
    have r := msr_pos m1 b
    have p2 := msr_pos m0 a2
    have r2 := msr_pos m1 b2
    have p3 := msr_pos m0 a3
    have r3 := msr_pos m1 b3
    have p4 := msr_pos m0 a4
    have r4 := msr_pos m1 b4
    unfold bxs
    omega
theorem ovl_boxP {f g : Nat → Int64} {dx dy : Int} (h : ovl f g dx dy) : boxP f g dx dy := by
  obtain ⟨x, y, a, b⟩ := h
  exact ⟨⟨x, y, _, _, a, b, by omega⟩, ⟨x, y, _, _, a, b, by omega⟩, ⟨x, y, _, _, a, b, by omega⟩, ⟨x, y, _, _, a, b, by omega⟩⟩
def boxM (c : Fx) (a b : Nat) : Prop := boxP (mkw (shp c a)) (mkw (shp c b)) (bX c b - bX c a) (bY c b - bY c a)
theorem met_box {c : Fx} {a b : Nat} (h : metM c a b 0 0) : boxM c a b := by
  unfold metM at h
  rw [Int.sub_zero, Int.sub_zero] at h
  exact ovl_boxP h
def svP (c : Fx) (w : Int) (a b : Nat) : Prop := mayT c a b ∧ (w = 0 ∨ boxM c a b ∧ (w = 1 ∨ metM c a b 0 0))
noncomputable def smL (P : Nat × Nat → Prop) : List (Nat × Nat) → Int32 → Int32
  | [], n => n
  | p :: t, n => @ite _ (P p) (Classical.propDecidable _) (smL P t (n + 1)) (smL P t n)
theorem sm_no {P : Nat × Nat → Prop} {n : Int32} {p : Nat × Nat} {t : List (Nat × Nat)} (h : ¬ P p) : smL P (p :: t) n = smL P t n := if_neg h
theorem sm_go {P : Nat × Nat → Prop} {n : Int32} {p : Nat × Nat} {t : List (Nat × Nat)} (h : P p) : smL P (p :: t) n = smL P t (n + 1) := if_pos h
def svT (σ : Sx) (w : Int) (p : Nat × Nat) : Prop := svP σ.1 w p.1 p.2
noncomputable def svR (σ : Sx) (w : Int32) : Int32 := if 0 ≤ w.toInt ∧ w.toInt ≤ 2 then smL (svT σ w.toInt) (prI (σ.1.1 1).toInt.toNat 0 ((σ.1.1 1).toInt.toNat - 0)) 0 else -1
/-- a mask's ends, flipped and moved, are its body's -/
theorem exD_sh {D : Int → Int → Bool} {w h fl l t r bt X Y : Int} (e : exD D (l, t, r, bt)) : exD (fun x y => D (flx w fl (x - X)) (fly h fl (y - Y))) (X + cutL fl w l r, Y + cutA fl h t bt, X + cutL fl w l r + r - l, Y + cutA fl h t bt + bt - t) := by
  obtain ⟨⟨y1, a1⟩, ⟨x2, a2⟩, ⟨y3, a3⟩, ⟨x4, a4⟩, al⟩ := e
  have a1 : D l y1 = true := a1
  have a2 : D x2 t = true := a2
  have a3 : D r y3 = true := a3
  have a4 : D x4 bt = true := a4
  have FX : ∀ x, flx w fl (X + flx w fl x - X) = x := by
    intro x; unfold flx
    by_cases p : fl % 2 = 1
    · rw [if_pos p, if_pos p]; omega
    · rw [if_neg p, if_neg p]; omega
  have FY : ∀ y, fly h fl (Y + fly h fl y - Y) = y := by
    intro y; unfold fly
    by_cases p : 2 ≤ fl
    · rw [if_pos p, if_pos p]; omega
    · rw [if_neg p, if_neg p]; omega
  have hx : (∃ y, D (flx w fl (X + cutL fl w l r - X)) y = true) ∧ (∃ y, D (flx w fl (X + cutL fl w l r + r - l - X)) y = true) ∧ ∀ x, l ≤ flx w fl (x - X) → flx w fl (x - X) ≤ r → X + cutL fl w l r ≤ x ∧ x ≤ X + cutL fl w l r + r - l := by
    unfold cutL flx
    by_cases p : fl % 2 = 1
    · simp only [if_pos p]
      refine ⟨⟨y3, ?_⟩, ⟨y1, ?_⟩, fun x h1 h2 => by omega⟩
      · rw [show w - 1 - (X + (w - 1 - r) - X) = r by omega]; exact a3
      · rw [show w - 1 - (X + (w - 1 - r) + r - l - X) = l by omega]; exact a1
    · simp only [if_neg p]
      refine ⟨⟨y1, ?_⟩, ⟨y3, ?_⟩, fun x h1 h2 => by omega⟩
      · rw [show X + l - X = l by omega]; exact a1
      · rw [show X + l + r - l - X = r by omega]; exact a3
  have hy : (∃ x, D x (fly h fl (Y + cutA fl h t bt - Y)) = true) ∧ (∃ x, D x (fly h fl (Y + cutA fl h t bt + bt - t - Y)) = true) ∧ ∀ y, t ≤ fly h fl (y - Y) → fly h fl (y - Y) ≤ bt → Y + cutA fl h t bt ≤ y ∧ y ≤ Y + cutA fl h t bt + bt - t := by
    unfold cutA fly
    by_cases p : 2 ≤ fl
    · simp only [if_pos p]
      refine ⟨⟨x4, ?_⟩, ⟨x2, ?_⟩, fun x h1 h2 => by omega⟩
      · rw [show h - 1 - (Y + (h - 1 - bt) - Y) = bt by omega]; exact a4
      · rw [show h - 1 - (Y + (h - 1 - bt) + bt - t - Y) = t by omega]; exact a2
    · simp only [if_neg p]
      refine ⟨⟨x2, ?_⟩, ⟨x4, ?_⟩, fun x h1 h2 => by omega⟩
      · rw [show Y + t - Y = t by omega]; exact a2
      · rw [show Y + t + bt - t - Y = bt by omega]; exact a4
  obtain ⟨⟨u1, b1⟩, ⟨u3, b3⟩, bx⟩ := hx
  obtain ⟨⟨v2, b2⟩, ⟨v4, b4⟩, bY⟩ := hy
  refine ⟨⟨Y + fly h fl u1, ?_⟩, ⟨X + flx w fl v2, ?_⟩, ⟨Y + fly h fl u3, ?_⟩, ⟨X + flx w fl v4, ?_⟩, fun x y q => ?_⟩
  · show D (flx w fl (X + cutL fl w l r - X)) (fly h fl (Y + fly h fl u1 - Y)) = true
    rw [FY]; exact b1
  · show D (flx w fl (X + flx w fl v2 - X)) (fly h fl (Y + cutA fl h t bt - Y)) = true
    rw [FX]; exact b2
  · show D (flx w fl (X + cutL fl w l r + r - l - X)) (fly h fl (Y + fly h fl u3 - Y)) = true
    rw [FY]; exact b3
  · show D (flx w fl (X + flx w fl v4 - X)) (fly h fl (Y + cutA fl h t bt + bt - t - Y)) = true
    rw [FX]; exact b4
  · have k := al _ _ q
    exact ⟨bx x k.1.1 k.1.2, bY y k.2.1 k.2.2⟩
/-- a body's dots where they lie -/
def atD (c : Fx) (b : Nat) (x y : Int) : Bool := shp c b (x - bX c b) (y - bY c b)
theorem shp_fl (c : Fx) (b : Nat) (x y : Int) : shp c b x y = hs (bw_ c b).toInt (bh_ c b).toInt (mo c.2 (c.1 (19 + 8 * b)).toInt.toNat) (flx (bw_ c b).toInt (c.1 (19 + 8 * b + 3)).toInt x) (fly (bh_ c b).toInt (c.1 (19 + 8 * b + 3)).toInt y) := by
  unfold shp flipD hs
  have e : (0 ≤ x ∧ x < (bw_ c b).toInt ∧ 0 ≤ y ∧ y < (bh_ c b).toInt) ↔ (0 ≤ flx (bw_ c b).toInt (c.1 (19 + 8 * b + 3)).toInt x ∧ flx (bw_ c b).toInt (c.1 (19 + 8 * b + 3)).toInt x < (bw_ c b).toInt ∧ 0 ≤ fly (bh_ c b).toInt (c.1 (19 + 8 * b + 3)).toInt y ∧ fly (bh_ c b).toInt (c.1 (19 + 8 * b + 3)).toInt y < (bh_ c b).toInt) := by
    unfold flx fly
    by_cases p : (c.1 (19 + 8 * b + 3)).toInt % 2 = 1 <;> by_cases q : 2 ≤ (c.1 (19 + 8 * b + 3)).toInt <;> simp only [p, q, if_true, if_false] <;> omega
  rw [decide_eq_decide.mpr e]
theorem exD_at {c : Fx} {b : Nat} {D : Int → Int → Bool} {l t r bt : Int} (eD : ∀ x y, D x y = hs (bw_ c b).toInt (bh_ c b).toInt (mo c.2 (c.1 (19 + 8 * b)).toInt.toNat) x y) (e : exD D (l, t, r, bt)) : exD (atD c b) (bX c b + cutL (c.1 (19 + 8 * b + 3)).toInt (bw_ c b).toInt l r, bY c b + cutA (c.1 (19 + 8 * b + 3)).toInt (bh_ c b).toInt t bt, bX c b + cutL (c.1 (19 + 8 * b + 3)).toInt (bw_ c b).toInt l r + r - l, bY c b + cutA (c.1 (19 + 8 * b + 3)).toInt (bh_ c b).toInt t bt + bt - t) := by
  obtain rfl : D = hs (bw_ c b).toInt (bh_ c b).toInt (mo c.2 (c.1 (19 + 8 * b)).toInt.toNat) := funext fun x => funext fun y => eD x y
  have q := exD_sh (w := (bw_ c b).toInt) (h := (bh_ c b).toInt) (fl := (c.1 (19 + 8 * b + 3)).toInt) (X := bX c b) (Y := bY c b) e
  have k : atD c b = fun x y => hs (bw_ c b).toInt (bh_ c b).toInt (mo c.2 (c.1 (19 + 8 * b)).toInt.toNat) (flx (bw_ c b).toInt (c.1 (19 + 8 * b + 3)).toInt (x - bX c b)) (fly (bh_ c b).toInt (c.1 (19 + 8 * b + 3)).toInt (y - bY c b)) := funext fun x => funext fun y => shp_fl c b _ _
  rw [k]; exact q
/-- bodies' boxes meet, out of their ends -/
theorem shp_md {c : Fx} {b : Nat} (ok : okF c) (hb : b < (c.1 1).toInt.toNat) (x y : Int) : md (mkw (shp c b)) x y = shp c b x y := (hs_of (okm_shp ok hb).2.2 x y).symm.trans (hs_shp ok hb x y)
theorem boxM_ex {c : Fx} {a b : Nat} {e f : Int × Int × Int × Int} (ok : okF c) (ha : a < (c.1 1).toInt.toNat) (hb : b < (c.1 1).toInt.toNat) (h : exD (atD c a) e) (k : exD (atD c b) f) : boxM c a b ↔ (f.1 ≤ e.2.2.1 ∧ e.1 ≤ f.2.2.1) ∧ f.2.1 ≤ e.2.2.2 ∧ e.2.1 ≤ f.2.2.2 := by
  have A : ∀ x y, md (mkw (shp c a)) x y = true ↔ atD c a (x + bX c a) (y + bY c a) = true := fun x y => by unfold atD; rw [shp_md ok ha, Int.add_sub_cancel, Int.add_sub_cancel]
  have B : ∀ x y, md (mkw (shp c b)) x y = true ↔ atD c b (x + bX c b) (y + bY c b) = true := fun x y => by unfold atD; rw [shp_md ok hb, Int.add_sub_cancel, Int.add_sub_cancel]
  have A2 : ∀ x y, atD c a x y = true → md (mkw (shp c a)) (x - bX c a) (y - bY c a) = true := fun x y q => (A _ _).mpr (by rw [Int.sub_add_cancel, Int.sub_add_cancel]; exact q)
  have B2 : ∀ x y, atD c b x y = true → md (mkw (shp c b)) (x - bX c b) (y - bY c b) = true := fun x y q => (B _ _).mpr (by rw [Int.sub_add_cancel, Int.sub_add_cancel]; exact q)
  obtain ⟨⟨y1, a1⟩, ⟨x2, a2⟩, ⟨y3, a3⟩, ⟨x4, a4⟩, al⟩ := h
  obtain ⟨⟨v1, b1⟩, ⟨u2, b2⟩, ⟨v3, b3⟩, ⟨u4, b4⟩, bl⟩ := k
  constructor
  · rintro ⟨⟨x, y, u, v, p, q, s⟩, ⟨x', y', u', v', p', q', s'⟩, ⟨x3', y3', u3', v3', p3, q3, s3⟩, ⟨x4', y4', u4', v4', p4, q4, s4⟩⟩
    have r1 := al _ _ ((A _ _).mp p)
    have r2 := bl _ _ ((B _ _).mp q)
    have r3 := al _ _ ((A _ _).mp p')
    have r4 := bl _ _ ((B _ _).mp q')
    have r5 := al _ _ ((A _ _).mp p3)
    have r6 := bl _ _ ((B _ _).mp q3)
    have r7 := al _ _ ((A _ _).mp p4)
    have r8 := bl _ _ ((B _ _).mp q4)
    omega
  · rintro ⟨⟨q1, q2⟩, q3, q4⟩
    exact ⟨⟨_, _, _, _, A2 _ _ a1, B2 _ _ b3, by omega⟩, ⟨_, _, _, _, A2 _ _ a3, B2 _ _ b1, by omega⟩, ⟨_, _, _, _, A2 _ _ a2, B2 _ _ b4, by omega⟩, ⟨_, _, _, _, A2 _ _ a4, B2 _ _ b2, by omega⟩⟩
theorem boxM_no {c : Fx} {a b : Nat} (ok : okF c) (ha : a < (c.1 1).toInt.toNat) (hb : b < (c.1 1).toInt.toNat) (h : (∀ x y, atD c a x y = false) ∨ ∀ x y, atD c b x y = false) : ¬ boxM c a b := by
  rintro ⟨⟨x, y, u, v, p, q, s⟩, -⟩
  rw [shp_md ok ha] at p
  rw [shp_md ok hb] at q
  rcases h with h | h
  · have k := h (x + bX c a) (y + bY c a)
    unfold atD at k
    rw [Int.add_sub_cancel, Int.add_sub_cancel, p] at k
    cases k
  · have k := h (u + bX c b) (v + bY c b)
    unfold atD at k
    rw [Int.add_sub_cancel, Int.add_sub_cancel, q] at k
    cases k
/-! where a body's dots end -/
theorem exD_m {c : Fx} {b : Nat} {tot l t r bt : Int} {e : Int × Int × Int × Int} (ok : okF c) (hb : b < (c.1 1).toInt.toNat) (m : msr (mkw (shp c b)) tot l t r bt) (h : exD (atD c b) e) : (e.1 = bX c b + l ∧ e.2.2.1 = bX c b + r) ∧ e.2.1 = bY c b + t ∧ e.2.2.2 = bY c b + bt := by
  have B : ∀ x y, md (mkw (shp c b)) x y = true → atD c b (x + bX c b) (y + bY c b) = true := fun x y q => by unfold atD; rw [← shp_md ok hb, Int.add_sub_cancel, Int.add_sub_cancel]; exact q
  have B2 : ∀ x y, atD c b x y = true → md (mkw (shp c b)) (x - bX c b) (y - bY c b) = true := fun x y q => by rw [shp_md ok hb]; exact q
  obtain ⟨⟨y1, a1⟩, ⟨x2, a2⟩, ⟨y3, a3⟩, ⟨x4, a4⟩, al⟩ := h
  have p1 := msr_pos m (B2 _ _ a1)
  have p2 := msr_pos m (B2 _ _ a2)
  have p3 := msr_pos m (B2 _ _ a3)
  have p4 := msr_pos m (B2 _ _ a4)
  obtain ⟨⟨_, c1⟩, ⟨_, c2⟩, ⟨_, c3⟩, ⟨_, c4⟩, -⟩ := m.2.1 (by omega)
  have q1 := al _ _ (B _ _ c1)
  have q2 := al _ _ (B _ _ c2)
  have q3 := al _ _ (B _ _ c3)
  have q4 := al _ _ (B _ _ c4)
  omega
theorem dots_m {c : Fx} {b : Nat} {tot l t r bt : Int} (ok : okF c) (hb : b < (c.1 1).toInt.toNat) (m : msr (mkw (shp c b)) tot l t r bt) : 0 < tot ↔ ∃ x y, atD c b x y = true := by
  constructor
  · intro q
    obtain ⟨⟨y, a⟩, -⟩ := m.2.1 (by omega)
    exact ⟨l + bX c b, y + bY c b, by unfold atD; rw [← shp_md ok hb, Int.add_sub_cancel, Int.add_sub_cancel]; exact a⟩
  · rintro ⟨x, y, q⟩
    exact (msr_pos m (x := x - bX c b) (y := y - bY c b) (by rw [shp_md ok hb]; exact q)).1
/-! the nearest move that leaves no place in common -/
def apS (d y t : Int) : Int := t * (d - max y (-y))
def apP (c : Fx) (a b : Nat) (d y t : Int) : Prop := ¬ metM c a b (apS d y t) y
theorem ap_e {c : Fx} {a b : Nat} {d y t s : Int} (e : s = apS d y t) : apP c a b d y t ↔ ¬ metM c a b s y := by rw [e]; exact Iff.rfl
def apB (P : Int → Int → Int → Prop) (d y : Int) : Prop := (∀ j z u : Int, 0 ≤ j → j < d → -j ≤ z → z ≤ j → (u = -1 ∨ u = 1) → ¬ P j z u) ∧ ∀ z u : Int, -d ≤ z → z < y → (u = -1 ∨ u = 1) → ¬ P d z u
def apF (P : Int → Int → Int → Prop) (d y t : Int) : Prop := ((0 ≤ d ∧ -d ≤ y ∧ y ≤ d) ∧ (t = -1 ∨ t = 1)) ∧ P d y t ∧ apB P d y ∧ (t = 1 → ¬ P d y (-1))
theorem ap_0 {P : Int → Int → Int → Prop} {y : Int} (h : y ≤ 0) : apB P 0 y := ⟨fun j z u a b => absurd a (by omega), fun z u a b => absurd a (by omega)⟩
theorem ap_nd {P : Int → Int → Int → Prop} {d y d1 y1 : Int} (h : apB P d y) (hy : d < y) (hd : d1 = d + 1) (h1 : y1 ≤ -d1) : apB P d1 y1 := by
  subst hd
  refine ⟨fun j z u a b c e f => ?_, fun z u a b => absurd a (by omega)⟩
  rcases Int.lt_or_le j d with q | q
  · exact h.1 j z u a q c e f
  · obtain rfl : j = d := by omega
    exact h.2 z u c (by omega) f
theorem ap_ny {P : Int → Int → Int → Prop} {d y y1 : Int} (h : apB P d y) (n1 : ¬ P d y (-1)) (n2 : ¬ P d y 1) (hy : y1 = y + 1) : apB P d y1 := by
  subst hy
  refine ⟨h.1, fun z u a b f => ?_⟩
  rcases Int.lt_or_le z y with q | q
  · exact h.2 z u a q f
  · obtain rfl : z = y := by omega
    rcases f with e | e
    · rw [e]; exact n1
    · rw [e]; exact n2
theorem ap_uni1 {P : Int → Int → Int → Prop} {d y t d2 y2 t2 : Int} (h : apF P d y t) (k : apF P d2 y2 t2) : d = d2 ∧ y = y2 ∧ t = t2 := by
  obtain ⟨⟨b, s⟩, p, ⟨n1, n2⟩, n3⟩ := h
  obtain ⟨⟨b', s'⟩, p', ⟨n1', n2'⟩, n3'⟩ := k
  have e : d = d2 := by
    rcases Int.lt_trichotomy d d2 with w | w | w
    · exact absurd p (n1' d y t b.1 w b.2.1 b.2.2 s)
    · exact w
    · exact absurd p' (n1 d2 y2 t2 b'.1 w b'.2.1 b'.2.2 s')
  subst e
  have e : y = y2 := by
    rcases Int.lt_trichotomy y y2 with w | w | w
    · exact absurd p (n2' y t b.2.1 w s)
    · exact w
    · exact absurd p' (n2 y2 t2 b'.2.1 w s')
  subst e
  refine ⟨rfl, rfl, ?_⟩
  rcases s with s | s <;> rcases s' with s' | s'
  · rw [s, s']
  · exact absurd (s ▸ p) (n3' s')
  · exact absurd (s' ▸ p') (n3 s)
  · rw [s, s']
theorem met_y {c : Fx} {a b : Nat} {dx dy : Int} (h : metM c a b dx dy) : -39 ≤ bY c b - bY c a - dy ∧ bY c b - bY c a - dy ≤ 39 := by
  obtain ⟨x, y, p, q⟩ := h
  have r := md_rng p
  have s := md_rng q
  omega
/-- some move by 40 at most is free -/
theorem ap_end {c : Fx} {a b : Nat} {d y : Int} (h : apB (apP c a b) d y) (hd : 40 < d) : False := by
  have k1 := h.1 40 40 1 (by omega) hd (by omega) (by omega) (Or.inr rfl)
  have k2 := h.1 40 (-40) 1 (by omega) hd (by omega) (by omega) (Or.inr rfl)
  have m1 := met_y (Classical.byContradiction k1)
  have m2 := met_y (Classical.byContradiction k2)
  omega
def apA (d y t w : Int) : Int := if w = 0 then d else if w = 1 then apS d y t else y
def apV (σ : Sx) (a b w : Int32) : Prop := twV σ a b ∧ (0 ≤ w.toInt ∧ w.toInt ≤ 2)
def apR (σ : Sx) (a b w r : Int32) : Prop := (apV σ a b w → ∃ d y t, apF (apP σ.1 a.toInt.toNat b.toInt.toNat) d y t ∧ r.toInt = apA d y t w.toInt) ∧ (¬ apV σ a b w → r.toInt = -2000)
theorem ap_uni {σ : Sx} {a b w r s : Int32} (h : apR σ a b w r) (k : apR σ a b w s) : r = s := by
  by_cases q : apV σ a b w
  · obtain ⟨d, y, t, f, e⟩ := h.1 q
    obtain ⟨d2, y2, t2, f2, e2⟩ := k.1 q
    obtain ⟨rfl, rfl, rfl⟩ := ap_uni1 f f2
    exact Int32.toInt_inj.mp (e.trans e2.symm)
  · exact Int32.toInt_inj.mp ((h.2 q).trans (k.2 q).symm)
/-! masks that are alike -/
def smM (Q : Nat → Nat → Option Nat) (I : Nat → Nat → Int32) (J : Nat → Nat → Int64) (a b : Nat) : Prop := I a 0 = I b 0 ∧ I a 1 = I b 1 ∧ ∀ x y, md (J (wo Q a)) x y = md (J (wo Q b)) x y
theorem sm_all {w h : Int} {f g : Nat → Int64} (a : okm w h f) (b : okm w h g) (e : ∀ k : Nat, (k : Int) < 2 * h → f k = g k) (x y : Int) : md f x y = md g x y := by
  have r := a.2.1
  by_cases q : 0 ≤ y ∧ y < h
  · rw [md_in q.1 (by omega), md_in q.1 (by omega), e (2 * y.toNat) (by omega), e (2 * y.toNat + 1) (by omega)]
  · have F : ∀ {f : Nat → Int64}, okm w h f → md f x y = false := fun {f} o => by
      cases k : md f x y with
      | false => rfl
      | true => exact absurd (md_b o.2.2 x y k).2 q
    rw [F a, F b]
theorem sm_tot {Q : Nat → Nat → Option Nat} {I : Nat → Nat → Int32} {J : Nat → Nat → Int64} {a b : Nat} (ha : mko Q I J a) (hb : mko Q I J b) (h : smM Q I J a b) : (I a 3).toInt = (I b 3).toInt := by
  have e := totr_congr (md_ext (f := J (wo Q a)) (g := J (wo Q b)) (fun x y _ _ _ _ => h.2.2 x y))
  rw [ha.2.1, hb.2.1, e]
theorem lc_eq {x y : Int64} {z : Int32} (e : z = lg_cmp x y) : z.toInt = 0 ↔ x = y := by
  have q := tq_lcmp (k := x.toInt) (q := y.toInt) e rfl rfl
  constructor
  · intro h; exact Int64.toInt_inj.mp (by omega)
  · intro h; rw [h] at q; omega
theorem bi_inj {a b : Bool} (h : bi a = bi b) : a = b := by revert h; revert a b; decide
theorem md_flip {w h fl : Int} {f : Nat → Int64} (hw : w ≤ 100) (hh : h ≤ 40) (x y : Int) : md (mkw (flipD w h fl f)) x y = flipD w h fl f x y := by
  by_cases q : 0 ≤ x ∧ x < w ∧ 0 ≤ y ∧ y < h
  · exact mkw_md (by omega) (by omega) (by omega) (by omega)
  · have e : flipD w h fl f x y = false := by unfold flipD; rw [decide_eq_false q, Bool.false_and]
    rw [e]
    cases k : md (mkw (flipD w h fl f)) x y with
    | false => rfl
    | true =>
      have r := md_rng k
      rw [mkw_md r.1.1 r.1.2 r.2.1 r.2.2, e] at k; cases k
def alM (c : Fx) (m o : Nat) (fl : Int) : Prop := (c.1 (3 + m) = c.1 (3 + o) ∧ c.1 (11 + m) = c.1 (11 + o)) ∧ ∀ x y, md (mo c.2 m) x y = flipD (c.1 (3 + o)).toInt (c.1 (11 + o)).toInt fl (mo c.2 o) x y
def alQ (c : Fx) (m o : Nat) (fl Y X : Int) : Prop := ∀ x y : Int, (0 ≤ x ∧ x < (c.1 (3 + m)).toInt) → (0 ≤ y ∧ y < (c.1 (11 + m)).toInt) → (y < Y ∨ (y = Y ∧ x < X)) → md (mo c.2 m) x y = flipD (c.1 (3 + o)).toInt (c.1 (11 + o)).toInt fl (mo c.2 o) x y
theorem al_0 {c : Fx} {m o : Nat} {fl : Int} : alQ c m o fl 0 0 := fun x y a b d => absurd d (by omega)
theorem al_nl {c : Fx} {m o : Nat} {fl Y X Y1 : Int} (h : alQ c m o fl Y X) (hx : (c.1 (3 + m)).toInt ≤ X) (hy : Y1 = Y + 1) : alQ c m o fl Y1 0 := fun x y a b d => h x y a b (by omega)
theorem al_st {c : Fx} {m o : Nat} {fl Y X X1 : Int} (h : alQ c m o fl Y X) (v : md (mo c.2 m) X Y = flipD (c.1 (3 + o)).toInt (c.1 (11 + o)).toInt fl (mo c.2 o) X Y) (hx : X1 = X + 1) : alQ c m o fl Y X1 := fun x y a b d => by
  by_cases q : y = Y ∧ x = X
  · rw [q.1, q.2]; exact v
  · exact h x y a b (by omega)
theorem al_end {c : Fx} {m o : Nat} {fl Y : Int} (h : alQ c m o fl Y 0) (hy : (c.1 (11 + m)).toInt ≤ Y) (w : c.1 (3 + m) = c.1 (3 + o) ∧ c.1 (11 + m) = c.1 (11 + o)) (ok : okm (c.1 (3 + m)).toInt (c.1 (11 + m)).toInt (mo c.2 m)) : alM c m o fl := by
  refine ⟨w, fun x y => ?_⟩
  by_cases q : 0 ≤ x ∧ x < (c.1 (3 + m)).toInt ∧ 0 ≤ y ∧ y < (c.1 (11 + m)).toInt
  · exact h x y ⟨q.1, q.2.1⟩ q.2.2 (by omega)
  · have e : flipD (c.1 (3 + o)).toInt (c.1 (11 + o)).toInt fl (mo c.2 o) x y = false := by unfold flipD; rw [← w.1, ← w.2, decide_eq_false q, Bool.false_and]
    rw [e]
    cases k : md (mo c.2 m) x y with
    | false => rfl
    | true => exact absurd (md_b ok.2.2 x y k) (fun r => q ⟨r.1.1, r.1.2, r.2⟩)
theorem al_v {c : Fx} {m o : Nat} {fl x y : Int} (w : c.1 (3 + m) = c.1 (3 + o) ∧ c.1 (11 + m) = c.1 (11 + o)) (hx : 0 ≤ x ∧ x < (c.1 (3 + m)).toInt) (hy : 0 ≤ y ∧ y < (c.1 (11 + m)).toInt) : hs (c.1 (3 + o)).toInt (c.1 (11 + o)).toInt (mo c.2 o) (flx (c.1 (3 + m)).toInt fl x) (fly (c.1 (11 + m)).toInt fl y) = flipD (c.1 (3 + o)).toInt (c.1 (11 + o)).toInt fl (mo c.2 o) x y := by
  rw [w.1] at hx
  rw [w.2] at hy
  unfold hs flipD
  rw [w.1, w.2, decide_eq_true (show 0 ≤ x ∧ x < _ ∧ 0 ≤ y ∧ y < _ from ⟨hx.1, hx.2, hy⟩), decide_eq_true]
  unfold flx fly
  by_cases p : fl % 2 = 1 <;> by_cases q : 2 ≤ fl <;> simp only [p, q, if_true, if_false] <;> omega
theorem al_of {Q : Nat → Nat → Option Nat} {I I1 : Nat → Nat → Int32} {J J1 : Nat → Nat → Int64} {x s a b : Nat} {σ : Sx} {m o z : Int32} {fl : Int} (A : cxA Q I J x σ) (A1 : cxA Q I1 J1 x σ) (hm : mK σ m) (ho : mK σ o) (ea : fm Q (an Q x) m.toInt.toNat = a) (eb : fm Q (an Q x) o.toInt.toNat = b) (hj : okm (I b 0).toInt (I b 1).toInt (J (wo Q b)) → msr (J (wo Q b)) (I b 3).toInt (I b 4).toInt (I b 5).toInt (I b 6).toInt (I b 7).toInt → mkd Q I1 J1 s (I b 0) (I b 1) (flipD (I b 0).toInt (I b 1).toInt fl (J (wo Q b)))) (w : mko Q I1 J1 s → mko Q I1 J1 a → (¬ z.toInt = 0 ↔ smM Q I1 J1 s a)) : ¬ z.toInt = 0 ↔ alM σ.1 m.toInt.toNat o.toInt.toNat fl := by
  have cb := cxA_m A ho
  have ca := cxA_m A1 hm
  rw [eb] at cb
  rw [ea] at ca
  have kb := cxM_ok cb.1 cb.2
  have D := hj kb.1 kb.2
  have e : flipD (I b 0).toInt (I b 1).toInt fl (J (wo Q b)) = flipD (mW σ o).toInt (mH σ o).toInt fl (mF σ o) := by
    funext X Y
    unfold flipD
    rw [cb.1.1, cb.1.2.1, md_congr cb.1.2.2.1]
  rw [e, cb.1.1, cb.1.2.1] at D
  have cs := cxM_mk D
  have os : okm (mW σ o).toInt (mH σ o).toInt (mkw (flipD (mW σ o).toInt (mH σ o).toInt fl (mF σ o))) := okm_mk cb.2.1 cb.2.2.1 (fun x y h => flipD_in x y h)
  refine (w (cxM_ok cs os) (cxM_ok ca.1 ca.2)).trans ?_
  have q : ∀ X Y, md (J1 (wo Q s)) X Y = flipD (mW σ o).toInt (mH σ o).toInt fl (mF σ o) X Y := fun X Y => (md_congr cs.2.2.1 X Y).trans (md_flip cb.2.1.2 cb.2.2.1.2 X Y)
  have p : ∀ X Y, md (J1 (wo Q a)) X Y = md (mF σ m) X Y := fun X Y => md_congr ca.1.2.2.1 X Y
  unfold smM alM
  rw [cs.1, cs.2.1, ca.1.1, ca.1.2.1]
  constructor
  · rintro ⟨r1, r2, r3⟩; exact ⟨⟨r1.symm, r2.symm⟩, fun X Y => by rw [← p, ← q]; exact (r3 X Y).symm⟩
  · rintro ⟨⟨r1, r2⟩, r3⟩; exact ⟨r1.symm, r2.symm, fun X Y => by rw [p, q]; exact (r3 X Y).symm⟩
def alV (σ : Sx) (a b fl : Int32) : Prop := mK σ a ∧ mK σ b ∧ (0 ≤ fl.toInt ∧ fl.toInt ≤ 3)
noncomputable def alR (σ : Sx) (a b fl : Int32) : Int := @ite _ (alV σ a b fl) (Classical.propDecidable _) (@ite _ (alM σ.1 a.toInt.toNat b.toInt.toNat fl.toInt) (Classical.propDecidable _) 1 0) (-1)
theorem alr_n {σ : Sx} {a b fl : Int32} (h : ¬ alV σ a b fl) : alR σ a b fl = -1 := if_neg h
theorem alr_0 {σ : Sx} {a b fl : Int32} (h : alV σ a b fl) (k : ¬ alM σ.1 a.toInt.toNat b.toInt.toNat fl.toInt) : alR σ a b fl = 0 := (if_pos h).trans (if_neg k)
theorem alr_1 {σ : Sx} {a b fl : Int32} (h : alV σ a b fl) (k : alM σ.1 a.toInt.toNat b.toInt.toNat fl.toInt) : alR σ a b fl = 1 := (if_pos h).trans (if_pos k)
def lkR (σ : Sx) (m r : Int32) : Prop := (mK σ m → ∀ o : Nat, hbt r o = true ↔ o < 4 ∧ alM σ.1 m.toInt.toNat m.toInt.toNat (o : Int)) ∧ (¬ mK σ m → r.toInt = -1)
theorem lk_uni {σ : Sx} {m r s : Int32} (h : lkR σ m r) (k : lkR σ m s) : r = s := by
  by_cases q : mK σ m
  · exact hb_ext (fun i _ => Bool.eq_iff_iff.mpr ((h.1 q i).trans (k.1 q i).symm))
  · exact Int32.toInt_inj.mp ((h.2 q).trans (k.2 q).symm)
/-! the first place that two bodies have in common -/
theorem sh_row {p q s0 s1 : Int64} {k : Int} (h0 : ∀ i : Nat, i < 64 → b64 s0 i = dt p q ((i : Int) - k)) (h1 : ∀ i : Nat, i < 64 → b64 s1 i = dt p q ((i : Int) + 64 - k)) {x : Int} (hx : 0 ≤ x) (hy : x < 128) : dt s0 s1 x = dt p q (x - k) := by
  rcases Int.lt_or_le x 64 with w | w
  · rw [dt_a hx w, h0 _ (by omega)]; congr 1; omega
  · rw [dt_b w, h1 _ (by omega)]; congr 1; omega
theorem low_dt {a b : Int64} {z : Int32} (h : (¬ a = 0 → ∀ t, lowB a t → z.toInt = (t : Int)) ∧ (a = 0 → ∀ t, lowB b t → z.toInt = 64 + (t : Int))) (n : ¬ (a = 0 ∧ b = 0)) : (0 ≤ z.toInt ∧ z.toInt < 128) ∧ dt a b z.toInt = true ∧ ∀ x, x < z.toInt → dt a b x = false := by
  by_cases q : a = 0
  · obtain ⟨t, l1, l2, l3⟩ := low_ex (x := b) (fun w => n ⟨q, w⟩)
    have e := h.2 q t ⟨l1, l2, l3⟩
    refine ⟨by omega, by rw [dt_b (by omega), show z.toInt.toNat - 64 = t by omega]; exact l2, fun x hx => ?_⟩
    rcases Int.lt_or_le x 0 with w | w
    · unfold dt; rw [if_pos w]
    · rcases Int.lt_or_le x 64 with v | v
      · rw [dt_a w v, q]; exact b64_0 _
      · rw [dt_b v]; exact l3 _ (by omega)
  · obtain ⟨t, l1, l2, l3⟩ := low_ex (x := a) q
    have e := h.1 q t ⟨l1, l2, l3⟩
    refine ⟨by omega, by rw [dt_a (by omega) (by omega), show z.toInt.toNat = t by omega]; exact l2, fun x hx => ?_⟩
    rcases Int.lt_or_le x 0 with w | w
    · unfold dt; rw [if_pos w]
    · rw [dt_a w (by omega)]; exact l3 _ (by omega)
def inC (c : Fx) (a b : Nat) (x y : Int) : Prop := atD c a x y = true ∧ atD c b x y = true
theorem in_rel {c : Fx} {a b : Nat} {dx dy : Int} (ok : okF c) (ha : a < (c.1 1).toInt.toNat) (hb : b < (c.1 1).toInt.toNat) (ex : dx = bX c b - bX c a) (ey : dy = bY c b - bY c a) (u v : Int) : inC c a b u v ↔ md (mkw (shp c a)) (u - bX c a) (v - bY c a) = true ∧ md (mkw (shp c b)) (u - bX c a - dx) (v - bY c a - dy) = true := by
  unfold inC atD
  rw [shp_md ok ha, shp_md ok hb, show u - bX c a - dx = u - bX c b by omega, show v - bY c a - dy = v - bY c b by omega]
def mtF (P : Int → Int → Prop) (x y : Int) : Prop := P x y ∧ (∀ u v, v < y → ¬ P u v) ∧ ∀ u, u < x → ¬ P u y
theorem mt_uni1 {P : Int → Int → Prop} {x y x2 y2 : Int} (h : mtF P x y) (k : mtF P x2 y2) : x = x2 ∧ y = y2 := by
  obtain ⟨p, n1, n2⟩ := h
  obtain ⟨p', n1', n2'⟩ := k
  have e : y = y2 := by
    rcases Int.lt_trichotomy y y2 with w | w | w
    · exact absurd p (n1' _ _ w)
    · exact w
    · exact absurd p' (n1 _ _ w)
  subst e
  rcases Int.lt_trichotomy x x2 with w | w | w
  · exact absurd p (n2' _ w)
  · exact ⟨w, rfl⟩
  · exact absurd p' (n2 _ w)
def mtV (σ : Sx) (a b w : Int32) : Prop := twV σ a b ∧ (0 ≤ w.toInt ∧ w.toInt ≤ 1)
def mtA (P : Int → Int → Prop) (w r : Int) : Prop := (∃ x y, mtF P x y ∧ r = if w = 0 then x else y) ∨ ((∀ x y, ¬ P x y) ∧ r = -2000)
def mtR (σ : Sx) (a b w r : Int32) : Prop := (mtV σ a b w → mtA (inC σ.1 a.toInt.toNat b.toInt.toNat) w.toInt r.toInt) ∧ (¬ mtV σ a b w → r.toInt = -2000)
theorem mt_uni {σ : Sx} {a b w r s : Int32} (h : mtR σ a b w r) (k : mtR σ a b w s) : r = s := by
  apply Int32.toInt_inj.mp
  by_cases q : mtV σ a b w
  · rcases h.1 q with ⟨x, y, f, e⟩ | ⟨f, e⟩ <;> rcases k.1 q with ⟨x2, y2, f2, e2⟩ | ⟨f2, e2⟩
    · obtain ⟨rfl, rfl⟩ := mt_uni1 f f2
      exact e.trans e2.symm
    · exact absurd f.1 (f2 _ _)
    · exact absurd f2.1 (f _ _)
    · exact e.trans e2.symm
  · exact (h.2 q).trans (k.2 q).symm
theorem at_in {c : Fx} {b : Nat} {x y : Int} (h : atD c b x y = true) : (bX c b ≤ x ∧ x < bX c b + (bw_ c b).toInt) ∧ (bY c b ≤ y ∧ y < bY c b + (bh_ c b).toInt) := by
  unfold atD shp flipD at h
  rw [Bool.and_eq_true, decide_eq_true_iff] at h
  omega
theorem at_e {c : Fx} {b : Nat} {X Y : Int32} (ok : okF c) (hb : b < (c.1 1).toInt.toNat) (hx : -2000000000 ≤ X.toInt ∧ X.toInt ≤ 2000000000) (hy : -2000000000 ≤ Y.toInt ∧ Y.toInt ≤ 2000000000) : shp c b (X - c.1 (19 + 8 * b + 1)).toInt (Y - c.1 (19 + 8 * b + 2)).toInt = atD c b X.toInt Y.toInt := by
  have q := bXY ok hb
  unfold bX bY at q
  unfold atD bX bY
  rw [tq_sub (z := X - c.1 (19 + 8 * b + 1)) rfl rfl rfl (by omega) (by omega), tq_sub (z := Y - c.1 (19 + 8 * b + 2)) rfl rfl rfl (by omega) (by omega)]
