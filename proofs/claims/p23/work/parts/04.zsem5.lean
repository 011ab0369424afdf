/-! what questions answer -/
def dtR (σ : Sx) (m x y : Int32) : Int := if mK σ m then bi (hs (mW σ m).toInt (mH σ m).toInt (mF σ m) x.toInt y.toInt) else -1
def rwR (σ : Sx) (m y w : Int32) : Int64 := if mK σ m ∧ (0 ≤ y.toInt ∧ y.toInt < (mH σ m).toInt) ∧ (0 ≤ w.toInt ∧ w.toInt ≤ 1) then mF σ m (2 * y.toInt.toNat + w.toInt.toNat) else 0
def bdR (σ : Sx) (b k : Int32) : Int := if (0 ≤ b.toInt ∧ b.toInt < (σ.1.1 1).toInt) ∧ (0 ≤ k.toInt ∧ k.toInt ≤ 7) then (σ.1.1 (19 + 8 * b.toInt.toNat + k.toInt.toNat)).toInt else -2000
section QS
variable {L : List Nat} {K G : Nat → Nat} {Q : Nat → Nat → Option Nat} {I : Nat → Nat → Int32} {J : Nat → Nat → Int64} {x m : Nat} {σ : Sx} {p : Int32}
theorem cx_0 (A : cxA Q I J x σ) : I (an Q x) 2 = σ.1.1 0 := A.1.1.2.1
theorem cx_1 (A : cxA Q I J x σ) : I (an Q x) 3 = σ.1.1 1 := A.1.1.2.2.1
theorem cm_0 (A : cmA Q I J m σ) : I (a0 Q m 0) 0 = σ.1.1 0 := cmA_n A (k := 0) (by decide)
theorem cm_1 (A : cmA Q I J m σ) : I (a0 Q m 0) 1 = σ.1.1 1 := cmA_n A (k := 1) (by decide)
theorem cx_b (A : cxA Q I J x σ) {b : Nat} (hb : b < (σ.1.1 1).toInt.toNat) {k : Nat} (hk : k < 8) : I (fb Q (an Q x) b) k = σ.1.1 (19 + 8 * b + k) := A.1.1.2.2.2.2.2 b hb k hk
end QS
/-- all masks' dots, as both sides add them up -/
def sumT (c : Fx) : Nat → Int32
  | 0 => 0
  | n + 1 => sumT c n + Int32.ofInt (totr (mo c.2 n) 40 : Int)
def ctB (o : Option Fx) (k : Int) : Int := match o with
  | none => 0
  | some _ => k
def ctR (σ : Sx) (tp : Int) (k : Int32) : Int := if k.toInt = 0 then (σ.1.1 0).toInt else if k.toInt = 1 then (σ.1.1 1).toInt else if k.toInt = 2 then (sumT σ.1 (σ.1.1 0).toInt.toNat).toInt else if k.toInt = 3 then (σ.2.1 : Int) else if k.toInt = 4 then tp else if k.toInt = 5 then ctB (σ.2.2.2 0) 1 + ctB (σ.2.2.2 1) 2 else if k.toInt = 6 then (σ.1.1 2).toInt else -1
section CT
variable {L : List Nat} {K G : Nat → Nat} {Q : Nat → Nat → Option Nat} {I : Nat → Nat → Int32} {J : Nat → Nat → Int64} {x m : Nat} {σ : Sx} {p : Int32} {tp : Int}
theorem ct0 (h : p.toInt = 0) : ctR σ tp p = (σ.1.1 0).toInt := if_pos h
theorem ct1 (h : p.toInt = 1) : ctR σ tp p = (σ.1.1 1).toInt := by unfold ctR; rw [if_neg (by omega), if_pos h]
theorem ct2 (h : p.toInt = 2) : ctR σ tp p = (sumT σ.1 (σ.1.1 0).toInt.toNat).toInt := by unfold ctR; rw [if_neg (by omega), if_neg (by omega), if_pos h]
theorem ct3 (h : p.toInt = 3) : ctR σ tp p = (σ.2.1 : Int) := by unfold ctR; rw [if_neg (by omega), if_neg (by omega), if_neg (by omega), if_pos h]
theorem ct4 (h : p.toInt = 4) : ctR σ tp p = tp := by unfold ctR; rw [if_neg (by omega), if_neg (by omega), if_neg (by omega), if_neg (by omega), if_pos h]
theorem ct5 (h : p.toInt = 5) : ctR σ tp p = ctB (σ.2.2.2 0) 1 + ctB (σ.2.2.2 1) 2 := by unfold ctR; rw [if_neg (by omega), if_neg (by omega), if_neg (by omega), if_neg (by omega), if_neg (by omega), if_pos h]
theorem ct6 (h : p.toInt = 6) : ctR σ tp p = (σ.1.1 2).toInt := by unfold ctR; rw [if_neg (by omega), if_neg (by omega), if_neg (by omega), if_neg (by omega), if_neg (by omega), if_neg (by omega), if_pos h]
theorem ct7 (h : p.toInt < 0 ∨ 6 < p.toInt) : ctR σ tp p = -1 := by unfold ctR; rw [if_neg (by omega), if_neg (by omega), if_neg (by omega), if_neg (by omega), if_neg (by omega), if_neg (by omega), if_neg (by omega)]
theorem cx_sh (A : cxA Q I J x σ) {s : Nat} (hs : s < 2) {k : Int} : (Q (sa Q x) s = none → ctB (σ.2.2.2 s) k = 0) ∧ (∀ y, Q (sa Q x) s = some y → ctB (σ.2.2.2 s) k = k) := by
  rcases A.1.2.2.2.1 s hs with ⟨a, b⟩ | ⟨F, c, a, b, _, _⟩
  · exact ⟨fun _ => (by rw [b]; rfl), fun y h => (by rw [a] at h; cases h)⟩
  · exact ⟨fun h => (by rw [a] at h; cases h), fun y _ => (by rw [b]; rfl)⟩
theorem cm_sh (A : cmA Q I J m σ) {s : Nat} (hs : s < 2) {k : Int} : (I (a0 Q m 10) s = 0 → ctB (σ.2.2.2 s) k = 0) ∧ (¬ I (a0 Q m 10) s = 0 → ctB (σ.2.2.2 s) k = k) := by
  rcases A.2.2.2 s hs with ⟨a, b⟩ | ⟨a, c, b, _⟩
  · exact ⟨fun _ => by rw [b]; rfl, fun h => absurd a h⟩
  · exact ⟨fun h => absurd h a, fun _ => by rw [b]; rfl⟩
end CT
/-- the digest, as both sides go through it -/
def dgK (c : Fx) (b : Nat) : Nat → Int64 → Int64
  | 0, h => h
  | k + 1, h => 31 * dgK c b k h + (c.1 (19 + 8 * b + k)).toInt64
def dgB (c : Fx) : Nat → Int64
  | 0 => 17
  | n + 1 => dgK c n 8 (dgB c n)
def dgW (c : Fx) (m : Nat) : Nat → Int64 → Int64
  | 0, h => h
  | k + 1, h => 31 * dgW c m k h + mo c.2 m k
def dgM (c : Fx) : Nat → Int64 → Int64
  | 0, h => h
  | n + 1, h => dgW c n (2 * (c.1 (11 + n)).toInt.toNat) (dgM c n h)
def dgR (σ : Sx) : Int64 := dgM σ.1 (σ.1.1 0).toInt.toNat (dgB σ.1 (σ.1.1 1).toInt.toNat)
theorem dg_B {c : Fx} {n k : Nat} (h : k = n + 1) : dgB c k = dgK c n 8 (dgB c n) := by rw [h]; rfl
theorem dg_K {c : Fx} {b n k : Nat} {h : Int64} (e : k = n + 1) : dgK c b k h = 31 * dgK c b n h + (c.1 (19 + 8 * b + n)).toInt64 := by rw [e]; rfl
theorem dg_M {c : Fx} {n k : Nat} {h : Int64} (e : k = n + 1) : dgM c k h = dgW c n (2 * (c.1 (11 + n)).toInt.toNat) (dgM c n h) := by rw [e]; rfl
theorem dg_W {c : Fx} {m n k : Nat} {h : Int64} (e : k = n + 1) : dgW c m k h = 31 * dgW c m n h + mo c.2 m n := by rw [e]; rfl
/-- a letter of a mask's text -/
def ltM (w h : Int32) : Int32 := (w + 1) * h - 1
def ltX (w k : Int32) : Int32 := k - k / (w + 1) * (w + 1)
def ltR (σ : Sx) (m k : Int32) : Int := if mK σ m ∧ -1 ≤ k.toInt then (if k.toInt = -1 then (ltM (mW σ m) (mH σ m)).toInt else if (ltM (mW σ m) (mH σ m)).toInt ≤ k.toInt then -2 else if (ltX (mW σ m) k).toInt = (mW σ m).toInt then 47 else 46 - 11 * bi (hs (mW σ m).toInt (mH σ m).toInt (mF σ m) (ltX (mW σ m) k).toInt (k / (mW σ m + 1)).toInt)) else -1
theorem ltr0 {σ : Sx} {m k : Int32} (h : ¬ (mK σ m ∧ -1 ≤ k.toInt)) : ltR σ m k = -1 := if_neg h
theorem ltr1 {σ : Sx} {m k : Int32} (h : mK σ m ∧ -1 ≤ k.toInt) (q : k.toInt = -1) : ltR σ m k = (ltM (mW σ m) (mH σ m)).toInt := by unfold ltR; rw [if_pos h, if_pos q]
theorem ltr2 {σ : Sx} {m k : Int32} (h : mK σ m ∧ -1 ≤ k.toInt) (q : ¬ k.toInt = -1) (r : (ltM (mW σ m) (mH σ m)).toInt ≤ k.toInt) : ltR σ m k = -2 := by unfold ltR; rw [if_pos h, if_neg q, if_pos r]
theorem ltr3 {σ : Sx} {m k : Int32} (h : mK σ m ∧ -1 ≤ k.toInt) (q : ¬ k.toInt = -1) (r : ¬ (ltM (mW σ m) (mH σ m)).toInt ≤ k.toInt) (t : (ltX (mW σ m) k).toInt = (mW σ m).toInt) : ltR σ m k = 47 := by unfold ltR; rw [if_pos h, if_neg q, if_neg r, if_pos t]
theorem ltr4 {σ : Sx} {m k : Int32} {b : Int} (h : mK σ m ∧ -1 ≤ k.toInt) (q : ¬ k.toInt = -1) (r : ¬ (ltM (mW σ m) (mH σ m)).toInt ≤ k.toInt) (t : ¬ (ltX (mW σ m) k).toInt = (mW σ m).toInt) (e : b = bi (hs (mW σ m).toInt (mH σ m).toInt (mF σ m) (ltX (mW σ m) k).toInt (k / (mW σ m + 1)).toInt)) : ltR σ m k = 46 - 11 * b := by unfold ltR; rw [if_pos h, if_neg q, if_neg r, if_neg t, e]
/-- whom a body touches -/
def tcP (c : Fx) (b o : Nat) : Prop := o < (c.1 1).toInt.toNat ∧ ¬ b = o ∧ mayT c b o ∧ metM c b o 0 0
def tcR (σ : Sx) (b r : Int32) : Prop := ((0 ≤ b.toInt ∧ b.toInt < (σ.1.1 1).toInt) → ∀ o : Nat, hbt r o = true ↔ tcP σ.1 b.toInt.toNat o) ∧ (¬ (0 ≤ b.toInt ∧ b.toInt < (σ.1.1 1).toInt) → r.toInt = -1)
theorem tc_uni {σ : Sx} {b r s : Int32} (h : tcR σ b r) (k : tcR σ b s) : r = s := by
  by_cases q : 0 ≤ b.toInt ∧ b.toInt < (σ.1.1 1).toInt
  · exact hb_ext (fun i _ => Bool.eq_iff_iff.mpr ((h.1 q i).trans (k.1 q i).symm))
  · exact Int32.toInt_inj.mp ((h.2 q).trans (k.2 q).symm)
theorem tc_no {c : Fx} {b i j : Nat} {z : Int32} (h : ∀ o : Nat, hbt z o = true ↔ o < i ∧ tcP c b o) (hj : j = i + 1) (n : ¬ tcP c b i) : ∀ o : Nat, hbt z o = true ↔ o < j ∧ tcP c b o := fun o => by
  rw [h o, hj]
  constructor
  · exact fun q => ⟨by omega, q.2⟩
  · intro q
    by_cases e : o = i
    · exact absurd (e ▸ q.2) n
    · exact ⟨by omega, q.2⟩
theorem tc_yes {c : Fx} {b i j : Nat} {z y : Int32} (h : ∀ o : Nat, hbt z o = true ↔ o < i ∧ tcP c b o) (hj : j = i + 1) (e : ∀ o, hbt y o = (hbt z o || decide (o = i))) (n : tcP c b i) : ∀ o : Nat, hbt y o = true ↔ o < j ∧ tcP c b o := fun o => by
  rw [e o, Bool.or_eq_true, h o, decide_eq_true_iff, hj]
  constructor
  · rintro (q | q)
    · exact ⟨by omega, q.2⟩
    · exact ⟨by omega, q ▸ n⟩
  · intro q
    by_cases w : o = i
    · exact Or.inr w
    · exact Or.inl ⟨by omega, q.2⟩
/-- the k-th pair that touches: the pairs as both sides go through them -/
def prI (N i : Nat) : Nat → List (Nat × Nat)
  | 0 => []
  | k + 1 => (List.range' (i + 1) (N - (i + 1))).map (fun j => (i, j)) ++ prI N (i + 1) k
def prJ (N i j : Nat) : List (Nat × Nat) := (List.range' j (N - j)).map (fun j => (i, j)) ++ prI N (i + 1) (N - (i + 1))
theorem prJ_go {N i j : Nat} (h : j < N) : prJ N i j = (i, j) :: prJ N i (j + 1) := by
  unfold prJ
  rw [show N - j = (N - (j + 1)) + 1 by omega, List.range'_succ]; rfl
theorem prJ_end {N i j : Nat} (h : ¬ j < N) : prJ N i j = prI N (i + 1) (N - (i + 1)) := by
  unfold prJ
  rw [show N - j = 0 by omega]; rfl
theorem prI_go {N i : Nat} (h : i < N) : prI N i (N - i) = prJ N i (i + 1) := by
  unfold prJ
  rw [show N - i = (N - (i + 1)) + 1 by omega]; rfl
theorem prI_end {N i : Nat} (h : ¬ i < N) : prI N i (N - i) = [] := by rw [show N - i = 0 by omega]; rfl
noncomputable def cnL (P : Nat × Nat → Prop) (k : Int32) : List (Nat × Nat) → Int32 → Int32
  | [], n => if k = -1 then n else -2
  | p :: t, n => @ite _ (P p) (Classical.propDecidable _) (if n = k then Int32.ofInt (100 * (p.1 : Int) + p.2) else cnL P k t (n + 1)) (cnL P k t n)
theorem cn_no {P : Nat × Nat → Prop} {k n : Int32} {p : Nat × Nat} {t : List (Nat × Nat)} (h : ¬ P p) : cnL P k (p :: t) n = cnL P k t n := if_neg h
theorem cn_hit {P : Nat × Nat → Prop} {k n : Int32} {p : Nat × Nat} {t : List (Nat × Nat)} (h : P p) (e : n = k) : cnL P k (p :: t) n = Int32.ofInt (100 * (p.1 : Int) + p.2) := by
  unfold cnL; rw [if_pos h, if_pos e]
theorem cn_go {P : Nat × Nat → Prop} {k n : Int32} {p : Nat × Nat} {t : List (Nat × Nat)} (h : P p) (e : ¬ n = k) : cnL P k (p :: t) n = cnL P k t (n + 1) := by
  conv => lhs; unfold cnL
  rw [if_pos h, if_neg e]
def toP (c : Fx) (p : Nat × Nat) : Prop := mayT c p.1 p.2 ∧ metM c p.1 p.2 0 0
noncomputable def cnR (σ : Sx) (k : Int32) : Int32 := if k.toInt < -1 then -1 else cnL (toP σ.1) k (prI (σ.1.1 1).toInt.toNat 0 ((σ.1.1 1).toInt.toNat - 0)) 0
/-! who covers a place -/
theorem bt_no {P : Nat → Prop} {i j : Nat} {z : Int32} (h : ∀ o : Nat, hbt z o = true ↔ o < i ∧ P o) (hj : j = i + 1) (n : ¬ P i) : ∀ o : Nat, hbt z o = true ↔ o < j ∧ P o := fun o => by
  rw [h o, hj]
  constructor
  · exact fun q => ⟨by omega, q.2⟩
  · intro q
    by_cases e : o = i
    · exact absurd (e ▸ q.2) n
    · exact ⟨by omega, q.2⟩
theorem bt_yes {P : Nat → Prop} {i j : Nat} {z y : Int32} (h : ∀ o : Nat, hbt z o = true ↔ o < i ∧ P o) (hj : j = i + 1) (e : ∀ o, hbt y o = (hbt z o || decide (o = i))) (n : P i) : ∀ o : Nat, hbt y o = true ↔ o < j ∧ P o := fun o => by
  rw [e o, Bool.or_eq_true, h o, decide_eq_true_iff, hj]
  constructor
  · rintro (q | q)
    · exact ⟨by omega, q.2⟩
    · exact ⟨by omega, q ▸ n⟩
  · intro q
    by_cases w : o = i
    · exact Or.inr w
    · exact Or.inl ⟨by omega, q.2⟩
def cvP (c : Fx) (x y : Int32) (o : Nat) : Prop := o < (c.1 1).toInt.toNat ∧ shp c o (x - c.1 (19 + 8 * o + 1)).toInt (y - c.1 (19 + 8 * o + 2)).toInt = true
def atR (σ : Sx) (x y r : Int32) : Prop := ∀ o : Nat, hbt r o = true ↔ cvP σ.1 x y o
theorem at_uni {σ : Sx} {x y r s : Int32} (h : atR σ x y r) (k : atR σ x y s) : r = s := hb_ext (fun i _ => Bool.eq_iff_iff.mpr ((h i).trans (k i).symm))
theorem biT {b : Bool} : ¬ bi b = 0 ↔ b = true := by cases b <;> decide
theorem hs_shp {c : Fx} {b : Nat} (ok : okF c) (hb : b < (c.1 1).toInt.toNat) (x y : Int) : hs (bw_ c b).toInt (bh_ c b).toInt (mkw (shp c b)) x y = shp c b x y := by
  have o := okm_shp ok hb
  have o1 := o.1
  have o2 := o.2.1
  by_cases q : 0 ≤ x ∧ x < (bw_ c b).toInt ∧ 0 ≤ y ∧ y < (bh_ c b).toInt
  · unfold hs
    rw [decide_eq_true q, Bool.true_and, mkw_md (by omega) (by omega) (by omega) (by omega)]
  · rw [hs_n q]
    unfold shp flipD
    rw [decide_eq_false q, Bool.false_and]
theorem tq_subw {x y z : Int32} {k q : Int} (ez : z = x - y) (hx : x.toInt = k) (hy : y.toInt = q) : z.toInt = k - q ∨ z.toInt = k - q - 4294967296 ∨ z.toInt = k - q + 4294967296 := by
  have h1 := fb_rng x
  have h2 := fb_rng y
  rw [hx] at h1
  rw [hy] at h2
  rcases Int.lt_or_le (k - q) (-2147483648) with h | h
  · right; right
    rw [ez, Int32.toInt_sub, hx, hy, ← Int.add_bmod_right]
    exact fb_bmod (by simp; omega) (by simp; omega)
  · rcases Int.lt_or_le (k - q) 2147483648 with h3 | h3
    · left
      rw [ez, Int32.toInt_sub, hx, hy, fb_bmod h h3]
    · right; left
      rw [ez, Int32.toInt_sub, hx, hy, ← Int.sub_bmod_right]
      exact fb_bmod (by simp; omega) (by simp; omega)
def flW (w : Int) (q : Prop) (d e : Int32) : Prop := (q → e.toInt = w - 1 - d.toInt ∨ e.toInt = w - 1 - d.toInt - 4294967296 ∨ e.toInt = w - 1 - d.toInt + 4294967296) ∧ (¬ q → e = d)
theorem fl_hs {w h fl : Int} {f : Nat → Int64} {dx dy X Y : Int32} (hw : 1 ≤ w ∧ w ≤ 100) (hh : 1 ≤ h ∧ h ≤ 40) (A : flW w (fl % 2 = 1) dx X) (B : flW h (2 ≤ fl) dy Y) : hs w h f X.toInt Y.toInt = flipD w h fl f dx.toInt dy.toInt := by
  have r1 := fb_rng dx
  have r2 := fb_rng dy
  have r3 := fb_rng X
  have r4 := fb_rng Y
  have a : (0 ≤ X.toInt ∧ X.toInt < w ↔ 0 ≤ dx.toInt ∧ dx.toInt < w) ∧ (0 ≤ dx.toInt ∧ dx.toInt < w → X.toInt = flx w fl dx.toInt) := by
    unfold flx
    by_cases q : fl % 2 = 1
    · have k := A.1 q
      rw [if_pos q]
      constructor
      · constructor <;> omega
      · omega
    · rw [if_neg q, A.2 q]; exact ⟨Iff.rfl, fun _ => rfl⟩
  have b : (0 ≤ Y.toInt ∧ Y.toInt < h ↔ 0 ≤ dy.toInt ∧ dy.toInt < h) ∧ (0 ≤ dy.toInt ∧ dy.toInt < h → Y.toInt = fly h fl dy.toInt) := by
    unfold fly
    by_cases q : 2 ≤ fl
    · have k := B.1 q
      rw [if_pos q]
      constructor
      · constructor <;> omega
      · omega
    · rw [if_neg q, B.2 q]; exact ⟨Iff.rfl, fun _ => rfl⟩
  unfold hs flipD
  by_cases q : 0 ≤ dx.toInt ∧ dx.toInt < w ∧ 0 ≤ dy.toInt ∧ dy.toInt < h
  · rw [decide_eq_true q, decide_eq_true (show 0 ≤ X.toInt ∧ X.toInt < w ∧ 0 ≤ Y.toInt ∧ Y.toInt < h by have u := a.1.mpr ⟨q.1, q.2.1⟩; have v := b.1.mpr q.2.2; exact ⟨u.1, u.2, v⟩), a.2 ⟨q.1, q.2.1⟩, b.2 q.2.2]
  · rw [decide_eq_false q, decide_eq_false (fun s => q (by have u := a.1.mp ⟨s.1, s.2.1⟩; have v := b.1.mp s.2.2; exact ⟨u.1, u.2, v⟩)), Bool.false_and, Bool.false_and]
