/-! what a text tells: masks -/
def boxD (w h x y : Int) : Bool := decide ((0 ≤ x ∧ x < w) ∧ (0 ≤ y ∧ y < h))
def frmD (w h x y : Int) : Bool := decide (((0 ≤ x ∧ x < w) ∧ (0 ≤ y ∧ y < h)) ∧ (x = 0 ∨ y = 0 ∨ x = w - 1 ∨ y = h - 1))
def dskD (r x y : Int) : Bool := decide (((0 ≤ x ∧ x < 2 * r + 1) ∧ (0 ≤ y ∧ y < 2 * r + 1)) ∧ (x - r) * (x - r) + (y - r) * (y - r) ≤ r * r)
theorem boxD_in {w h x y : Int} (q : boxD w h x y = true) : (0 ≤ x ∧ x < w) ∧ (0 ≤ y ∧ y < h) := of_decide_eq_true q
theorem frmD_in {w h x y : Int} (q : frmD w h x y = true) : (0 ≤ x ∧ x < w) ∧ (0 ≤ y ∧ y < h) := (of_decide_eq_true q).1
theorem dskD_in {r x y : Int} (q : dskD r x y = true) : (0 ≤ x ∧ x < 2 * r + 1) ∧ (0 ≤ y ∧ y < 2 * r + 1) := (of_decide_eq_true q).1
theorem box_row {w h x : Int} {r : Nat} {u v : Int64} (hw : w ≤ 128) (hr : (r : Int) < h) (hu : ∀ i : Nat, i < 64 → b64 u i = decide ((i : Int) < w)) (hv : ∀ i : Nat, i < 64 → b64 v i = decide ((i : Int) + 64 < w)) : dt u v x = boxD w h x (r : Int) := by
  rw [dt_of (P := fun x => decide (x < w)) hu hv]
  unfold boxD
  rw [← Bool.decide_and]
  exact decide_eq_decide.mpr (by omega)
/-- laid row by row, dot by dot -/
def rowI (D : Int → Int → Bool) (f : Nat → Int64) (Y X : Int) : Prop := ∀ x y : Int, md f x y = (D x y && decide (y < Y ∨ (y = Y ∧ x < X)))
section RI
variable {D : Int → Int → Bool} {f g : Nat → Int64} {X Y X2 Y2 a b : Int}
theorem ri_0 (hD : ∀ x y, D x y = true → 0 ≤ x ∧ 0 ≤ y) (hz : ∀ k, k < 80 → f k = 0) (hY : Y = 0) (hX : X = 0) : rowI D f Y X := fun x y => by
  rw [md_z hz]
  cases q : D x y with
  | false => rfl
  | true => have := hD x y q; rw [decide_eq_false (by omega)]; rfl
theorem ri_nl (hD : ∀ x y, D x y = true → 0 ≤ x) (h : rowI D f Y X) (hX : ∀ x, D x Y = true → x < X) (hY : Y2 = Y + 1) (h0 : X2 = 0) : rowI D f Y2 X2 := fun x y => by
  rw [h x y]
  cases q : D x y with
  | false => rfl
  | true =>
    have a := hD x y q
    by_cases e : y = Y
    · have b := hX x (by rw [← e]; exact q)
      rw [decide_eq_true (by omega), decide_eq_true (by omega)]
    · exact congrArg _ (decide_eq_decide.mpr (by omega))
theorem ri_skip (h : rowI D f Y X) (n : D X Y = false) (hX : X2 = X + 1) : rowI D f Y X2 := fun x y => by
  rw [h x y]
  by_cases e : x = X ∧ y = Y
  · rw [e.1, e.2, n, Bool.false_and, Bool.false_and]
  · exact congrArg _ (decide_eq_decide.mpr (by omega))
theorem ri_put {P : Prop} [Decidable P] (h : rowI D f Y X) (n : D X Y = true) (ht : ∀ x y : Int, md g x y = (md f x y ^^ decide (P ∧ x = a ∧ y = b))) (hP : P) (ha : a = X) (hb : b = Y) (hX : X2 = X + 1) : rowI D g Y X2 := fun x y => by
  rw [ht, h x y]
  by_cases e : x = a ∧ y = b
  · rw [decide_eq_true (show P ∧ x = a ∧ y = b from ⟨hP, e⟩), e.1, e.2, ha, hb, n, decide_eq_false (by omega), decide_eq_true (by omega)]; rfl
  · rw [show decide (P ∧ x = a ∧ y = b) = false from decide_eq_false (fun w => e w.2), Bool.xor_false]
    exact congrArg _ (decide_eq_decide.mpr (by omega))
theorem ri_or (h : rowI D f Y X) (n : D X Y = true) (ht : ∀ x y : Int, md g x y = (md f x y || decide (x = a ∧ y = b))) (ha : a = X) (hb : b = Y) (hX : X2 = X + 1) : rowI D g Y X2 := fun x y => by
  rw [ht, h x y]
  by_cases e : x = a ∧ y = b
  · rw [decide_eq_true e, e.1, e.2, ha, hb, n, decide_eq_true (show Y < Y ∨ Y = Y ∧ X < X2 by omega), Bool.or_true]; rfl
  · rw [decide_eq_false e, Bool.or_false]
    exact congrArg _ (decide_eq_decide.mpr (by omega))
theorem ri_fin (h : rowI D f Y X) (hD : ∀ x y, D x y = true → y < Y) (x y : Int) : md f x y = D x y := by
  rw [h x y]
  cases q : D x y with
  | false => rfl
  | true => have := hD x y q; rw [decide_eq_true (by omega)]; rfl
theorem ri_eq {f2 : Nat → Int64} (h : rowI D f Y X) (e : f2 = f) (hY : Y2 = Y) (hX : X2 = X) : rowI D f2 Y2 X2 := by rw [e, hY, hX]; exact h
theorem rws_fin {k : Int} (h : rws f D k) (hD : ∀ x y, D x y = true → 0 ≤ y ∧ y < k) (x y : Int) : md f x y = D x y := by
  rw [h x y]
  cases q : D x y with
  | false => rw [Bool.and_false]
  | true => rw [decide_eq_true (hD x y q)]; rfl
end RI
theorem sq_bd {a m : Int} (h : -m ≤ a ∧ a ≤ m) : 0 ≤ a * a ∧ a * a ≤ m * m := by
  have l : a.natAbs * a.natAbs ≤ m.natAbs * m.natAbs := Nat.mul_le_mul (by omega) (by omega)
  have e := Int.natAbs_mul_self (a := a)
  have e2 := Int.natAbs_mul_self (a := m)
  have l2 : ((a.natAbs * a.natAbs : Nat) : Int) ≤ ((m.natAbs * m.natAbs : Nat) : Int) := Int.ofNat_le.mpr l
  rw [e, e2] at l2
  have l3 : (0 : Int) ≤ ((a.natAbs * a.natAbs : Nat) : Int) := Int.natCast_nonneg _
  rw [e] at l3
  exact ⟨l3, l2⟩
theorem dsk_q {a a2 b b2 r u v s t : Int32} {x y k : Int} (e1 : u = a * a2) (e2 : v = b * b2) (e3 : s = u + v) (e4 : t = r * r) (ha : a.toInt = x - k) (ha2 : a2.toInt = x - k) (hb : b.toInt = y - k) (hb2 : b2.toInt = y - k) (hr : r.toInt = k) (bx : -300 ≤ x - k ∧ x - k ≤ 300) (by_ : -300 ≤ y - k ∧ y - k ≤ 300) (bk : 0 ≤ k ∧ k ≤ 300) : s.toInt = (x - k) * (x - k) + (y - k) * (y - k) ∧ t.toInt = k * k := by
  have p := sq_bd (m := 300) bx
  have q := sq_bd (m := 300) by_
  have w := sq_bd (a := k) (m := 300) (by omega)
  have r1 := tq_mul e1 ha ha2 (by omega) (by omega)
  have r2 := tq_mul e2 hb hb2 (by omega) (by omega)
  exact ⟨tq_add e3 r1 r2 (by omega) (by omega), tq_mul e4 hr hr (by omega) (by omega)⟩
/-- what the reference lays of a box (u: all of it) or a frame -/
def lbxD (w h u x y : Int) : Bool := decide (((0 ≤ x ∧ x < w) ∧ (0 ≤ y ∧ y < h)) ∧ (¬ u = 0 ∨ x = 0 ∨ y = 0 ∨ x = w - 1 ∨ y = h - 1))
theorem lbxD_in {w h u x y : Int} (q : lbxD w h u x y = true) : (0 ≤ x ∧ x < w) ∧ (0 ≤ y ∧ y < h) := (of_decide_eq_true q).1
theorem lbxD_1 {w h u x y : Int} (hu : ¬ u = 0) : lbxD w h u x y = boxD w h x y := decide_eq_decide.mpr (by omega)
theorem lbxD_0 {w h u x y : Int} (hu : u = 0) : lbxD w h u x y = frmD w h x y := decide_eq_decide.mpr (by omega)
/-- the number that comes next, the signed one -/
def nv (t : Int → Int) (i : Int) : Int := vl t (sk t i) (dg t (sk t i) - sk t i).toNat
def sv (t : Int → Int) (i : Int) : Int := if t (sk t i) = 45 then -nv t (sk t i + 1) else nv t (sk t i)
theorem sv_of {f : Nat → Int32} {I Ia : Nat → Nat → Int32} {p : Nat} {b : Int32} {n r : Int} (h : (tb f (I p 1).toInt (sk (tb f (I p 1).toInt) (I p 2).toInt) = 45 → b.toInt = 1 ∧ rdA I Ia p (sk (tb f (I p 1).toInt) (I p 2).toInt + 1)) ∧ (¬ tb f (I p 1).toInt (sk (tb f (I p 1).toInt) (I p 2).toInt) = 45 → b.toInt = 0 ∧ rdA I Ia p (sk (tb f (I p 1).toInt) (I p 2).toInt))) (hn : n = nv (tb f (Ia p 1).toInt) (Ia p 2).toInt) (hr : (b.toInt = 0 → r = n) ∧ (¬ b.toInt = 0 → r = -n)) : r = sv (tb f (I p 1).toInt) (I p 2).toInt := by
  unfold sv
  by_cases q : tb f (I p 1).toInt (sk (tb f (I p 1).toInt) (I p 2).toInt) = 45
  · have k := h.1 q
    rw [if_pos q, hr.2 (by omega), hn, k.2.1, k.2.2.1]
  · have k := h.2 q
    rw [if_neg q, hr.1 (by omega), hn, k.2.1, k.2.2.1]
theorem rdP_go {I Ia : Nat → Nat → Int32} {p : Nat} {u : Int32} {a : Int × Int} (h : rdP I Ia p u a) (hu : ¬ u.toInt = 0) : rdA I Ia p a.2 ∧ a.1 = 0 := by
  by_cases q : a.1 = 0
  · exact ⟨(h.1 q).2, q⟩
  · exact absurd (h.2 q).1 hu
/-- rows: where the y-th begins (ahead of its blanks), its dots, how long and how many they are -/
def rp (t : Int → Int) (i : Int) : Nat → Int
  | 0 => i
  | y + 1 => sk t (sr t (sk t (rp t i y))) + 1
def rD (t : Int → Int) (w i x y : Int) : Bool := decide ((0 ≤ x ∧ x < w) ∧ 0 ≤ y) && decide (t (sk t (rp t i y.toNat) + x) = 35)
def nwd (t : Int → Int) (i : Int) : Int := sr t (sk t i) - sk t i
def nrw (t : Int → Int) : Nat → Int → Int
  | 0, _ => 0
  | k + 1, i => if t (sk t (sr t (sk t i))) = 47 then nrw t k (sk t (sr t (sk t i)) + 1) + 1 else 1
def rwD (t : Int → Int) (w h i x y : Int) : Bool := boxD w h x y && decide (t (sk t (rp t i y.toNat) + x) = 35)
def rrI (t : Int → Int) (i : Int) (f : Nat → Int64) (y v s : Int) : Prop := s = rp t i y.toNat ∧ nrw t 41 i = nrw t (41 - y).toNat s + y ∧ (0 < y → v = nwd t i) ∧ ∀ w, (0 < y → w = nwd t i) → rowI (rD t w i) f y 0
section RR
variable {t : Int → Int} {w i y v s z s2 y2 x : Int} {f g : Nat → Int64}
theorem rD_in (q : rD t w i x y = true) : (0 ≤ x ∧ x < w) ∧ 0 ≤ y := of_decide_eq_true (Bool.and_eq_true_iff.mp q).1
theorem rD_at (hx : 0 ≤ x) (hw : x < w) (hy : 0 ≤ y) (e : s = sk t (rp t i y.toNat)) : rD t w i x y = decide (t (s + x) = 35) := by
  unfold rD; rw [decide_eq_true (show (0 ≤ x ∧ x < w) ∧ 0 ≤ y by omega), Bool.true_and, e]
theorem rr_0 (hz : ∀ k, k < 80 → f k = 0) (hy : y = 0) (hs : s = i) : rrI t i f y v s := by
  refine ⟨by rw [hy, hs]; rfl, by rw [hy, hs]; exact (Int.add_zero _).symm, fun q => by omega, fun w _ => ri_0 (fun x y q => ?_) hz hy rfl⟩
  have := rD_in q; omega
theorem rr_w (h : rrI t i f y v s) (hw : z = sr t (sk t s) - sk t s) (hv : 0 < y → z = v) (hy : 0 ≤ y) : z = nwd t i := by
  rcases Int.lt_or_le 0 y with q | q
  · rw [hv q]; exact h.2.2.1 q
  · have e := h.1
    rw [show y.toNat = 0 by omega] at e
    have e : s = i := e
    rw [hw, e]; rfl
theorem rr_nl (h2 : rowI (rD t z i) g y z) (hy2 : y2 = y + 1) : rowI (rD t z i) g y2 0 := ri_nl (fun x y q => (rD_in q).1.1) h2 (fun x q => (rD_in q).1.2) hy2 rfl
theorem rr_go (h : rrI t i f y v s) (hz : z = nwd t i) (h2 : rowI (rD t z i) g y z) (hy : 0 ≤ y ∧ y < 40) (hg : t (sk t (sr t (sk t s))) = 47) (hs2 : s2 = sk t (sr t (sk t s)) + 1) (hy2 : y2 = y + 1) : rrI t i g y2 z s2 := by
  refine ⟨?_, ?_, fun _ => hz, fun w q => by rw [q (by omega), ← hz]; exact rr_nl h2 hy2⟩
  · rw [show y2.toNat = y.toNat + 1 by omega, hs2, h.1]; rfl
  · have e : nrw t (41 - y).toNat s = nrw t (41 - y2).toNat s2 + 1 := by
      rw [show (41 - y).toNat = (41 - y2).toNat + 1 by omega, hs2]; exact if_pos hg
    rw [h.2.1, e, hy2]; omega
theorem rr_end (h : rrI t i f y v s) (hz : z = nwd t i) (h2 : rowI (rD t z i) g y z) (hy : 0 ≤ y ∧ y < 40) (hg : ¬ t (sk t (sr t (sk t s))) = 47) (hy2 : y2 = y + 1) : y2 = nrw t 41 i ∧ ∀ a b : Int, md g a b = rwD t (nwd t i) (nrw t 41 i) i a b := by
  have e : nrw t (41 - y).toNat s = 1 := by
    rw [show (41 - y).toNat = (41 - y2).toNat + 1 by omega]; exact if_neg hg
  have e2 : y2 = nrw t 41 i := by rw [h.2.1, e, hy2]; omega
  refine ⟨e2, fun a b => ?_⟩
  rw [rr_nl h2 rfl a b, ← hz, ← e2]
  unfold rD rwD boxD
  by_cases q : t (sk t (rp t i b.toNat) + a) = 35
  · rw [decide_eq_true q, Bool.and_true, Bool.and_true, ← Bool.decide_and]
    exact decide_eq_decide.mpr (by omega)
  · rw [decide_eq_false q, Bool.and_false, Bool.and_false]; rfl
end RR
/-- what a mask's words tell: wide, high, dots -/
def szT (D : Int → Int → Int → Int → Bool) (t : Int → Int) (j : Int) : Int × Int × (Int → Int → Bool) := (nv t j, nv t (pn t 1 100 j).2, D (nv t j) (nv t (pn t 1 100 j).2))
def dkT (t : Int → Int) (j : Int) : Int × Int × (Int → Int → Bool) := (2 * nv t j + 1, 2 * nv t j + 1, dskD (nv t j))
def rwT (t : Int → Int) (i : Int) : Int × Int × (Int → Int → Bool) := (nwd t i, nrw t 41 i, rwD t (nwd t i) (nrw t 41 i) i)
def fmT (t : Int → Int) (i : Int) : Int × Int × (Int → Int → Bool) := if tw t wBox i then szT boxD t (wr t (sk t i)) else if tw t wFrame i then szT frmD t (wr t (sk t i)) else if tw t wDisk i then dkT t (wr t (sk t i)) else rwT t i
theorem rwT_sk {t : Int → Int} {i : Int} (h : sk t (sk t i) = sk t i) : rwT t (sk t i) = rwT t i := by
  have e1 : nwd t (sk t i) = nwd t i := by unfold nwd; rw [h]
  have e2 : nrw t 41 (sk t i) = nrw t 41 i := by
    show nrw t (40 + 1) (sk t i) = nrw t (40 + 1) i
    unfold nrw; rw [h]
  have e3 : ∀ y, sk t (rp t (sk t i) y) = sk t (rp t i y) := by
    intro y
    induction y with
    | zero => exact h
    | succ y ih =>
      show sk t (sk t (sr t (sk t (rp t (sk t i) y))) + 1) = _
      rw [ih]; rfl
  have e4 : ∀ w hh, rwD t w hh (sk t i) = rwD t w hh i := fun w hh => by
    funext x y; unfold rwD; rw [e3]
  unfold rwT; rw [e1, e2, e4]
theorem fmT_in {t : Int → Int} {i x y : Int} (q : (fmT t i).2.2 x y = true) : x < (fmT t i).1 ∧ y < (fmT t i).2.1 := by
  unfold fmT at q ⊢
  split at q
  · next h => rw [if_pos h]; have a := boxD_in q; exact ⟨a.1.2, a.2.2⟩
  · next h =>
    rw [if_neg h]
    split at q
    · next h => rw [if_pos h]; have a := frmD_in q; exact ⟨a.1.2, a.2.2⟩
    · next h =>
      rw [if_neg h]
      split at q
      · next h => rw [if_pos h]; have a := dskD_in q; exact ⟨a.1.2, a.2.2⟩
      · next h => rw [if_neg h]; have a := boxD_in (Bool.and_eq_true_iff.mp q).1; exact ⟨a.1.2, a.2.2⟩
section FMT
variable {f : Nat → Int32} {I Ia Ib Ic I1 : Nat → Nat → Int32} {p : Nat} {u u1 u2 u3 : Int32}
theorem fmT_a (h : rdW f I Ia p u wBox) (hu : ¬ u.toInt = 0) : fmT (tb f (I p 1).toInt) (I p 2).toInt = szT boxD (tb f (Ia p 1).toInt) (Ia p 2).toInt := by
  have k := rdW_yes h hu
  unfold fmT; rw [if_pos k.1, k.2.1.1, k.2.1.2.1]
theorem fmT_b (h : rdW f I Ia p u wBox) (hu : u.toInt = 0) (h0 : 0 ≤ (I p 2).toInt) (hn : (I p 1).toInt ≤ 400) (g : rdW f Ia Ib p u1 wFrame) (gu : ¬ u1.toInt = 0) : fmT (tb f (I p 1).toInt) (I p 2).toInt = szT frmD (tb f (Ib p 1).toInt) (Ib p 2).toInt := by
  have k := rdW_no h hu
  have y := rdW_yes (rdW_next k.2 h0 hn g) gu
  unfold fmT; rw [if_neg k.1, if_pos y.1, y.2.1.1, y.2.1.2.1]
theorem fmT_c (h : rdW f I Ia p u wBox) (hu : u.toInt = 0) (h0 : 0 ≤ (I p 2).toInt) (hn : (I p 1).toInt ≤ 400) (g : rdW f Ia Ib p u1 wFrame) (gu : u1.toInt = 0) (k : rdW f Ib Ic p u2 wDisk) (ku : ¬ u2.toInt = 0) : fmT (tb f (I p 1).toInt) (I p 2).toInt = dkT (tb f (Ic p 1).toInt) (Ic p 2).toInt := by
  have a := rdW_no h hu
  have b := rdW_no (rdW_next a.2 h0 hn g) gu
  have y := rdW_yes (rdW_next b.2 h0 hn k) ku
  unfold fmT; rw [if_neg a.1, if_neg b.1, if_pos y.1, y.2.1.1, y.2.1.2.1]
theorem fmT_d (h : rdW f I Ia p u wBox) (hu : u.toInt = 0) (h0 : 0 ≤ (I p 2).toInt) (hn : (I p 1).toInt ≤ 400) (g : rdW f Ia Ib p u1 wFrame) (gu : u1.toInt = 0) (k : rdW f Ib Ic p u2 wDisk) (ku : u2.toInt = 0) : fmT (tb f (I p 1).toInt) (I p 2).toInt = rwT (tb f (Ic p 1).toInt) (Ic p 2).toInt := by
  have a := rdW_no h hu
  have b := rdW_no (rdW_next a.2 h0 hn g) gu
  have d := rdW_no (rdW_next b.2 h0 hn k) ku
  unfold fmT; rw [if_neg a.1, if_neg b.1, if_neg d.1, d.2.1, d.2.2.1, rwT_sk (sk_idem h0 hn)]
end FMT
def fmH (Q : Nat → Nat → Option Nat) (I : Nat → Nat → Int32) (J : Nat → Nat → Int64) (a : Nat) (T : Int × Int × (Int → Int → Bool)) : Prop := (I a 0).toInt = T.1 ∧ (I a 1).toInt = T.2.1 ∧ ∀ x y : Int, md (J (wo Q a)) x y = T.2.2 x y
theorem fmH_mk {Q : Nat → Nat → Option Nat} {I I1 : Nat → Nat → Int32} {J : Nat → Nat → Int64} {a : Nat} {t : Int → Int} {i : Int} (h : fmH Q I J a (fmT t i)) (e0 : I1 a 0 = I a 0) (e1 : I1 a 1 = I a 1) (hm : mcl (I a 0).toInt (I a 1).toInt (J (wo Q a)) → msr (J (wo Q a)) (I1 a 3).toInt (I1 a 4).toInt (I1 a 5).toInt (I1 a 6).toInt (I1 a 7).toInt) : mkd Q I1 J a (Int32.ofInt (fmT t i).1) (Int32.ofInt (fmT t i).2.1) (fmT t i).2.2 :=
  ⟨by rw [e0, ← h.1, Int32.ofInt_toInt], by rw [e1, ← h.2.1, Int32.ofInt_toInt], fun x y _ _ _ _ => h.2.2 x y, hm (fun x y q => by rw [h.2.2] at q; rw [h.1, h.2.1]; exact fmT_in q)⟩
theorem oi_eq {z : Int32} {k : Int} (h : z.toInt = k) : z = Int32.ofInt k := by rw [← h, Int32.ofInt_toInt]
/-- what a body's words tell behind its place -/
def flT (t : Int → Int) (i : Int) (f : Nat → Int32) : Nat → Int32 := if tw t wFlip i then upd f 3 (Int32.ofInt (nv t (wr t (sk t i)))) else f
def lyT (t : Int → Int) (i : Int) (f : Nat → Int32) : Nat → Int32 := if tw t wLayer i then upd (upd f 4 (Int32.ofInt (nv t (wr t (sk t i))))) 5 (Int32.ofInt (nv t (pn t 0 15 (wr t (sk t i))).2)) else f
def mvT (t : Int → Int) (i : Int) (f : Nat → Int32) : Nat → Int32 := if tw t wMoves i then upd (upd f 6 (Int32.ofInt (sv t (wr t (sk t i))))) 7 (Int32.ofInt (sv t (ps t 20 (wr t (sk t i))).2)) else f
def stB (a b c : Int32) (f : Nat → Int32) : Nat → Int32 := upd (upd (upd (upd (upd (upd (upd (upd f 0 a) 1 b) 2 c) 3 0) 4 1) 5 1) 6 0) 7 0
def bdT (t : Int → Int) (M i : Int) (f : Nat → Int32) : Nat → Int32 := mvT t (ply t (pfl t (ps t 999 (ps t 999 (pn t 0 (M - 1) i).2).2).2).2).2 (lyT t (pfl t (ps t 999 (ps t 999 (pn t 0 (M - 1) i).2).2).2).2 (flT t (ps t 999 (ps t 999 (pn t 0 (M - 1) i).2).2).2 (stB (Int32.ofInt (nv t i)) (Int32.ofInt (sv t (pn t 0 (M - 1) i).2)) (Int32.ofInt (sv t (ps t 999 (pn t 0 (M - 1) i).2).2)) f)))
theorem bd_mk {f : Nat → Int32} {I Ia Ib Ic Id Ie Ig Ih : Nat → Nat → Int32} {p b : Nat} {u1 u2 u3 u4 u5 z1 z2 z3 : Int32} {M : Int} {g : Nat → Int32} (h1 : rdP I Ia p u1 (pn (tb f (I p 1).toInt) 0 (M - 1) (I p 2).toInt)) (n1 : ¬ u1.toInt = 0) (h2 : rdP Ia Ib p u2 (ps (tb f (Ia p 1).toInt) 999 (Ia p 2).toInt)) (n2 : ¬ u2.toInt = 0) (h3 : rdP Ib Ic p u3 (ps (tb f (Ib p 1).toInt) 999 (Ib p 2).toInt)) (n3 : ¬ u3.toInt = 0) (e : Id p = Ic p) (h4 : rdP Id Ie p u4 (pfl (tb f (Id p 1).toInt) (Id p 2).toInt)) (n4 : ¬ u4.toInt = 0) (h5 : rdP Ie Ig p u5 (ply (tb f (Ie p 1).toInt) (Ie p 2).toInt)) (n5 : ¬ u5.toInt = 0) (v1 : z1.toInt = nv (tb f (I p 1).toInt) (I p 2).toInt) (v2 : z2.toInt = sv (tb f (Ia p 1).toInt) (Ia p 2).toInt) (v3 : z3.toInt = sv (tb f (Ib p 1).toInt) (Ib p 2).toInt) (w : Id b = stB z1 z2 z3 g) (w4 : Ie b = flT (tb f (Id p 1).toInt) (Id p 2).toInt (Id b)) (w5 : Ig b = lyT (tb f (Ie p 1).toInt) (Ie p 2).toInt (Ie b)) (w6 : Ih b = mvT (tb f (Ig p 1).toInt) (Ig p 2).toInt (Ig b)) : Ih b = bdT (tb f (I p 1).toInt) M (I p 2).toInt g := by
  have a1 := (rdP_ok h1 n1).2
  have a2 := (rdP_ok h2 n2).2
  have a3 := (rdP_ok h3 n3).2
  have a4 := (rdP_ok h4 n4).2
  have a5 := (rdP_ok h5 n5).2
  have t1 : Ia p 1 = I p 1 := a1.2.1
  have t2 : Ib p 1 = I p 1 := a2.2.1.trans t1
  have t3 : Id p 1 = I p 1 := (congrFun e 1).trans (a3.2.1.trans t2)
  have t4 : Ie p 1 = I p 1 := a4.2.1.trans t3
  have t5 : Ig p 1 = I p 1 := a5.2.1.trans t4
  have s1 := a1.1
  have s2 := a2.1
  rw [t1, s1] at s2
  have s3 := (congrArg Int32.toInt (congrFun e 2)).trans a3.1
  rw [t2, s2] at s3
  have s4 := a4.1
  rw [t3, s3] at s4
  have s5 := a5.1
  rw [t4, s4] at s5
  rw [t1, s1] at v2
  rw [t2, s2] at v3
  rw [w6, w5, w4, w, t5, s5, t4, s4, t3, s3, oi_eq v1, oi_eq v2, oi_eq v3]; rfl
/-- the field that a text tells, part by part -/
def adM (c : Fx) (T : Int × Int × (Int → Int → Bool)) : Fx := (upd (setM c (c.1 0).toInt.toNat (Int32.ofInt T.1) (Int32.ofInt T.2.1) (mkw T.2.2)).1 0 (c.1 0 + 1), (setM c (c.1 0).toInt.toNat (Int32.ofInt T.1) (Int32.ofInt T.2.1) (mkw T.2.2)).2)
def adB (c : Fx) (g : Nat → Int32) : Fx := (upd (fun k => if 19 + 8 * (c.1 1).toInt.toNat ≤ k ∧ k < 19 + 8 * (c.1 1).toInt.toNat + 8 then g (k - (19 + 8 * (c.1 1).toInt.toNat)) else c.1 k) 1 (c.1 1 + 1), c.2)
def fx0 : Fx := (fun _ => 0, fun _ => 0)
def pcT (t : Int → Int) (c : Fx) (i : Int) : Fx := if tw t wMask i then adM c (fmT t (wr t (sk t i))) else adB c (bdT t (c.1 0).toInt (wr t (sk t i)) (fun _ => 0))
def toT (t : Int → Int) : Nat → Fx → Int → Fx
  | 0, c, _ => c
  | k + 1, c, i => if t (sk t (ppt t (c.1 0).toInt (c.1 1).toInt i).1.2) = 59 then toT t k (pcT t c i) (sk t (ppt t (c.1 0).toInt (c.1 1).toInt i).1.2 + 1) else pcT t c i
def tellF (t : Int → Int) : Fx := if t (sk t 0) = -1000 then fx0 else toT t 401 fx0 0
theorem okF_0 : okF fx0 := by
  have e : (fx0.1 0).toInt = 0 := by show (0 : Int32).toInt = 0; decide +kernel
  have e1 : (fx0.1 1).toInt = 0 := by show (0 : Int32).toInt = 0; decide +kernel
  refine ⟨by omega, by omega, fun i hi => ?_, fun b hb => ?_⟩
  · rw [e] at hi; omega
  · rw [e1] at hb; omega
theorem bdT_k {t : Int → Int} {M i : Int} {f g : Nat → Int32} : ∀ k, k < 8 → bdT t M i f k = bdT t M i g k := by
  intro k hk
  have a : ∀ x y z : Int32, ∀ k, k < 8 → stB x y z f k = stB x y z g k := fun x y z k hk => by
    unfold stB upd
    rcases (show k = 0 ∨ k = 1 ∨ k = 2 ∨ k = 3 ∨ k = 4 ∨ k = 5 ∨ k = 6 ∨ k = 7 by omega) with q | q | q | q | q | q | q | q <;> rw [q] <;> rfl
  have up : ∀ (u v : Nat → Int32) (j : Nat) (w : Int32), (∀ k, k < 8 → u k = v k) → ∀ k, k < 8 → upd u j w k = upd v j w k := fun u v j w h k hk => by
    unfold upd; rw [h k hk]
  have fl : ∀ (u v : Nat → Int32) (j : Int), (∀ k, k < 8 → u k = v k) → ∀ k, k < 8 → flT t j u k = flT t j v k := fun u v j h k hk => by
    unfold flT; split
    · exact up _ _ _ _ h k hk
    · exact h k hk
  have ly : ∀ (u v : Nat → Int32) (j : Int), (∀ k, k < 8 → u k = v k) → ∀ k, k < 8 → lyT t j u k = lyT t j v k := fun u v j h k hk => by
    unfold lyT; split
    · exact up _ _ _ _ (up _ _ _ _ h) k hk
    · exact h k hk
  have mv : ∀ (u v : Nat → Int32) (j : Int), (∀ k, k < 8 → u k = v k) → ∀ k, k < 8 → mvT t j u k = mvT t j v k := fun u v j h k hk => by
    unfold mvT; split
    · exact up _ _ _ _ (up _ _ _ _ h) k hk
    · exact h k hk
  exact mv _ _ _ (ly _ _ _ (fl _ _ _ (a _ _ _))) k hk
theorem pn_in {t : Int → Int} {lo hi i : Int} (h : (pn t lo hi i).1 = 0) : lo ≤ nv t i ∧ nv t i ≤ hi := by
  unfold pn at h
  unfold nv
  split at h
  · have h2 : 8 * sk t i + 1 = 0 := h
    omega
  · split at h
    · next q => exact q
    · have h2 : 8 * sk t i + 2 = 0 := h
      omega
theorem ps_in {t : Int → Int} {m i : Int} (h : (ps t m i).1 = 0) : -m ≤ sv t i ∧ sv t i ≤ m := by
  unfold ps at h
  unfold sv
  split at h
  · next q => rw [if_pos q]; have := pn_in h; omega
  · next q => rw [if_neg q]; have := pn_in h; omega
theorem sq_in {a : Int × Int} {f : Int → Int × Int} (h : (sq a f).1 = 0) : a.1 = 0 ∧ (f a.2).1 = 0 := by
  unfold sq at h
  split at h
  · next q => exact ⟨q, h⟩
  · next q => exact absurd h q
theorem prw_in {t : Int → Int} : ∀ (k : Nat) {y w i : Int}, (k : Int) + y = 41 → 0 ≤ y → y ≤ 40 → (prw t k y w i).1 = 0 → (y = 0 → 1 ≤ nwd t i ∧ nwd t i ≤ 100) ∧ 1 ≤ nrw t k i ∧ nrw t k i + y ≤ 40 := by
  intro k
  induction k with
  | zero => intro y w i a b c _; omega
  | succ k ih =>
    intro y w i a b c h
    have g : sk t i ≤ sr t (sk t i) := rn_le
    unfold prw at h
    split at h
    · have h2 : 8 * sk t i + 1 = 0 := h
      omega
    · split at h
      · have h2 : 8 * sk t i + 3 = 0 := h
        omega
      · split at h
        · have h2 : 8 * (sk t i + 100) + 4 = 0 := h
          omega
        · split at h
          · have h2 : 8 * sk t i + 4 = 0 := h
            omega
          · unfold nrw nwd
            split at h
            · next q =>
              rw [if_pos q]
              have := (ih (by omega) (by omega) (by omega) h).2
              omega
            · next q => rw [if_neg q]; omega
theorem fm_ok {t : Int → Int} {i : Int} (h : (pfm t i).1 = 0) : (1 ≤ (fmT t i).1 ∧ (fmT t i).1 ≤ 100) ∧ 1 ≤ (fmT t i).2.1 ∧ (fmT t i).2.1 ≤ 40 := by
  have sz : ∀ (D : Int → Int → Int → Int → Bool) j, (psz t j).1 = 0 → (1 ≤ (szT D t j).1 ∧ (szT D t j).1 ≤ 100) ∧ 1 ≤ (szT D t j).2.1 ∧ (szT D t j).2.1 ≤ 40 := fun D j q => by
    have a := sq_in q
    exact ⟨pn_in a.1, pn_in a.2⟩
  unfold pfm at h
  unfold fmT
  split at h
  · next q => rw [if_pos q]; exact sz _ _ h
  · next q =>
    rw [if_neg q]
    split at h
    · next q => rw [if_pos q]; exact sz _ _ h
    · next q =>
      rw [if_neg q]
      split at h
      · next q =>
        rw [if_pos q]
        have a := pn_in h
        unfold dkT
        exact ⟨⟨by show 1 ≤ 2 * nv t _ + 1; omega, by show 2 * nv t _ + 1 ≤ 100; omega⟩, by show 1 ≤ 2 * nv t _ + 1; omega, by show 2 * nv t _ + 1 ≤ 40; omega⟩
      · next q =>
        rw [if_neg q]
        have a := prw_in 41 (by decide) (by decide) (by decide) h
        exact ⟨a.1 rfl, a.2.1, by have := a.2.2; show nrw t 41 i ≤ 40; omega⟩
theorem oi_to {k : Int} (h : -2147483648 ≤ k) (h2 : k < 2147483648) : (Int32.ofInt k).toInt = k := by
  rw [Int32.toInt_ofInt]; exact fb_bmod h h2
theorem okm_T {t : Int → Int} {i : Int} (h : (pfm t i).1 = 0) : okm (Int32.ofInt (fmT t i).1).toInt (Int32.ofInt (fmT t i).2.1).toInt (mkw (fmT t i).2.2) := by
  have a := fm_ok h
  rw [oi_to (by omega) (by omega), oi_to (by omega) (by omega)]
  exact okm_mk a.1 a.2 (fun x y q => fmT_in q)
theorem sq_2 {a : Int × Int} {f : Int → Int × Int} (h : a.1 = 0) : (sq a f).2 = (f a.2).2 := by unfold sq; rw [if_pos h]
theorem vo_u {M : Int} {f : Nat → Int32} {j : Nat} {v : Int32} (h : ∀ k, k < 8 → vok M k (f k).toInt) (hv : vok M j v.toInt) : ∀ k, k < 8 → vok M k (upd f j v k).toInt := fun k hk => by
  unfold upd
  split
  · next q => rw [q]; exact hv
  · exact h k hk
theorem st_ok {M : Int} {a b c : Int32} {f : Nat → Int32} (ha : 0 ≤ a.toInt ∧ a.toInt < M) (hb : -999 ≤ b.toInt ∧ b.toInt ≤ 999) (hc : -999 ≤ c.toInt ∧ c.toInt ≤ 999) : ∀ k, k < 8 → vok M k (stB a b c f k).toInt := fun k hk => by
  have e0 : (0 : Int32).toInt = 0 := by decide +kernel
  have e1 : (1 : Int32).toInt = 1 := by decide +kernel
  have m : (k = 0 ∧ stB a b c f k = a) ∨ (k = 1 ∧ stB a b c f k = b) ∨ (k = 2 ∧ stB a b c f k = c) ∨ ((k = 4 ∨ k = 5) ∧ stB a b c f k = 1) ∨ ((k = 3 ∨ k = 6 ∨ k = 7) ∧ stB a b c f k = 0) := by
    rcases (show k = 0 ∨ k = 1 ∨ k = 2 ∨ k = 3 ∨ k = 4 ∨ k = 5 ∨ k = 6 ∨ k = 7 by omega) with q | q | q | q | q | q | q | q <;> rw [q]
    · exact Or.inl ⟨rfl, rfl⟩
    · exact Or.inr (Or.inl ⟨rfl, rfl⟩)
    · exact Or.inr (Or.inr (Or.inl ⟨rfl, rfl⟩))
    · exact Or.inr (Or.inr (Or.inr (Or.inr ⟨Or.inl rfl, rfl⟩)))
    · exact Or.inr (Or.inr (Or.inr (Or.inl ⟨Or.inl rfl, rfl⟩)))
    · exact Or.inr (Or.inr (Or.inr (Or.inl ⟨Or.inr rfl, rfl⟩)))
    · exact Or.inr (Or.inr (Or.inr (Or.inr ⟨Or.inr (Or.inl rfl), rfl⟩)))
    · exact Or.inr (Or.inr (Or.inr (Or.inr ⟨Or.inr (Or.inr rfl), rfl⟩)))
  unfold vok
  rcases m with ⟨q, e⟩ | ⟨q, e⟩ | ⟨q, e⟩ | ⟨q, e⟩ | ⟨q, e⟩ <;> rw [e] <;> refine ⟨fun w => ?_, fun w => ?_, fun w => ?_, fun w => ?_, fun w => ?_⟩ <;> omega
theorem bd_ok {t : Int → Int} {M i : Int} {g : Nat → Int32} (hM : M ≤ 8) (h : (pbd t M i).1 = 0) : ∀ k, k < 8 → vok M k (bdT t M i g k).toInt := by
  have a6 := sq_in h
  have a5 := sq_in a6.1
  have a4 := sq_in a5.1
  have a3 := sq_in a4.1
  have a2 := sq_in a3.1
  have p1 := pn_in a2.1
  have p2 := ps_in a2.2
  have c3 := a3.2
  rw [sq_2 a2.1] at c3
  have p3 := ps_in c3
  have c4 := a4.2
  rw [sq_2 a3.1, sq_2 a2.1] at c4
  have c5 := a5.2
  rw [sq_2 a4.1, sq_2 a3.1, sq_2 a2.1] at c5
  have c6 := a6.2
  rw [sq_2 a5.1, sq_2 a4.1, sq_2 a3.1, sq_2 a2.1] at c6
  have s := st_ok (M := M) (f := g) (a := Int32.ofInt (nv t i)) (b := Int32.ofInt (sv t (pn t 0 (M - 1) i).2)) (c := Int32.ofInt (sv t (ps t 999 (pn t 0 (M - 1) i).2).2)) (by rw [oi_to (by omega) (by omega)]; omega) (by rw [oi_to (by omega) (by omega)]; omega) (by rw [oi_to (by omega) (by omega)]; omega)
  have v3 : ∀ x : Int, 0 ≤ x → x ≤ 3 → vok M 3 (Int32.ofInt x).toInt := fun x a b => by
    rw [oi_to (by omega) (by omega)]; unfold vok; refine ⟨fun w => ?_, fun w => ?_, fun w => ?_, fun w => ?_, fun w => ?_⟩ <;> omega
  have v4 : ∀ (x : Int) (j : Nat), (j = 4 ∨ j = 5) → 0 ≤ x → x ≤ 15 → vok M j (Int32.ofInt x).toInt := fun x j hj a b => by
    rw [oi_to (by omega) (by omega)]; unfold vok; refine ⟨fun w => ?_, fun w => ?_, fun w => ?_, fun w => ?_, fun w => ?_⟩ <;> omega
  have v6 : ∀ (x : Int) (j : Nat), (j = 6 ∨ j = 7) → -20 ≤ x → x ≤ 20 → vok M j (Int32.ofInt x).toInt := fun x j hj a b => by
    rw [oi_to (by omega) (by omega)]; unfold vok; refine ⟨fun w => ?_, fun w => ?_, fun w => ?_, fun w => ?_, fun w => ?_⟩ <;> omega
  have fl : ∀ (j : Int) (f : Nat → Int32), (pfl t j).1 = 0 → (∀ k, k < 8 → vok M k (f k).toInt) → ∀ k, k < 8 → vok M k (flT t j f k).toInt := fun j f q hf => by
    unfold pfl at q
    unfold flT
    split at q
    · next w => rw [if_pos w]; have := pn_in q; exact vo_u hf (v3 _ this.1 this.2)
    · next w => rw [if_neg w]; exact hf
  have ly : ∀ (j : Int) (f : Nat → Int32), (ply t j).1 = 0 → (∀ k, k < 8 → vok M k (f k).toInt) → ∀ k, k < 8 → vok M k (lyT t j f k).toInt := fun j f q hf => by
    unfold ply at q
    unfold lyT
    split at q
    · next w =>
      rw [if_pos w]
      have y := sq_in q
      have y1 := pn_in y.1
      have y2 := pn_in y.2
      exact vo_u (vo_u hf (v4 _ 4 (Or.inl rfl) y1.1 y1.2)) (v4 _ 5 (Or.inr rfl) y2.1 y2.2)
    · next w => rw [if_neg w]; exact hf
  have mv : ∀ (j : Int) (f : Nat → Int32), (pmv t j).1 = 0 → (∀ k, k < 8 → vok M k (f k).toInt) → ∀ k, k < 8 → vok M k (mvT t j f k).toInt := fun j f q hf => by
    unfold pmv at q
    unfold mvT
    split at q
    · next w =>
      rw [if_pos w]
      have y := sq_in q
      have y1 := ps_in y.1
      have y2 := ps_in y.2
      exact vo_u (vo_u hf (v6 _ 6 (Or.inl rfl) y1.1 y1.2)) (v6 _ 7 (Or.inr rfl) y2.1 y2.2)
    · next w => rw [if_neg w]; exact hf
  exact mv _ _ c6 (ly _ _ c5 (fl _ _ c4 s))
theorem in1 {x : Int32} (h : 0 ≤ x.toInt ∧ x.toInt ≤ 100) : (x + 1).toInt = x.toInt + 1 := tq_add rfl rfl (by decide +kernel) (by omega) (by omega)
section AD
variable {c : Fx} {T : Int × Int × (Int → Int → Bool)} {t : Int → Int} {i : Int} {g : Nat → Int32}
theorem adM_0 : (adM c T).1 0 = c.1 0 + 1 := by simp [adM, upd]
theorem adM_k {k : Nat} (hk : ¬ k = 0) : (adM c T).1 k = (setM c (c.1 0).toInt.toNat (Int32.ofInt T.1) (Int32.ofInt T.2.1) (mkw T.2.2)).1 k := if_neg hk
theorem adB_1 : (adB c g).1 1 = c.1 1 + 1 := by simp [adB, upd]
theorem adB_k {k : Nat} (hk : ¬ k = 1) : (adB c g).1 k = if 19 + 8 * (c.1 1).toInt.toNat ≤ k ∧ k < 19 + 8 * (c.1 1).toInt.toNat + 8 then g (k - (19 + 8 * (c.1 1).toInt.toNat)) else c.1 k := if_neg hk
theorem okF_adM (ok : okF c) (hm : (c.1 0).toInt < 8) (hp : (pfm t i).1 = 0) : okF (adM c (fmT t i)) := by
  have o0 := ok.1
  have z := in1 (x := c.1 0) (by omega)
  have T := okm_T hp
  refine ⟨by rw [adM_0, z]; omega, by rw [adM_k (by decide), setM_lo (Or.inl (by decide)) (by omega)]; exact ok.2.1, fun j hj => ?_, fun b hb => ?_⟩
  · rw [adM_0, z] at hj
    rw [adM_k (by omega), adM_k (by omega), setM_w (by omega), setM_h (by omega)]
    by_cases e : j = (c.1 0).toInt.toNat
    · rw [if_pos e, if_pos e]
      exact okm_congr (fun k hk => by
        show _ = mo (setM c (c.1 0).toInt.toNat (Int32.ofInt (fmT t i).1) (Int32.ofInt (fmT t i).2.1) (mkw (fmT t i).2.2)).2 j k
        rw [setM_mo hk, if_pos e]) T
    · rw [if_neg e, if_neg e]
      exact okm_congr (fun k hk => by
        show _ = mo (setM c (c.1 0).toInt.toNat (Int32.ofInt (fmT t i).1) (Int32.ofInt (fmT t i).2.1) (mkw (fmT t i).2.2)).2 j k
        rw [setM_mo hk, if_neg e]) (ok.2.2.1 j (by omega))
  · rw [adM_k (by decide), setM_lo (Or.inl (by decide)) (by omega)] at hb
    rw [bdok_iff]
    intro k hk
    have q := bdok_iff.mp (ok.2.2.2 b hb) k hk
    rw [adM_0, z, adM_k (by omega), setM_lo (Or.inr (by omega)) (by omega)]
    unfold vok at q ⊢
    exact ⟨fun w => by have := q.1 w; omega, q.2⟩
theorem okF_adB (ok : okF c) (hn : (c.1 1).toInt < 10) (hp : (pbd t (c.1 0).toInt i).1 = 0) : okF (adB c (bdT t (c.1 0).toInt i g)) := by
  have o0 := ok.1
  have o1 := ok.2.1
  have z := in1 (x := c.1 1) (by omega)
  have lo : ∀ k, ¬ k = 1 → k < 19 → (adB c (bdT t (c.1 0).toInt i g)).1 k = c.1 k := fun k h1 h2 => by rw [adB_k h1, if_neg (by omega)]
  refine ⟨by rw [lo 0 (by decide) (by decide)]; exact o0, by rw [adB_1, z]; omega, fun j hj => ?_, fun b hb => ?_⟩
  · rw [lo 0 (by decide) (by decide)] at hj
    rw [lo _ (by omega) (by omega), lo _ (by omega) (by omega)]
    exact ok.2.2.1 j hj
  · rw [adB_1, z] at hb
    rw [bdok_iff]
    intro k hk
    rw [lo 0 (by decide) (by decide), adB_k (by omega)]
    by_cases e : b = (c.1 1).toInt.toNat
    · rw [if_pos (by omega), show 19 + 8 * b + k - (19 + 8 * (c.1 1).toInt.toNat) = k by omega]
      exact bd_ok (by omega) hp k hk
    · rw [if_neg (by omega)]
      exact bdok_iff.mp (ok.2.2.2 b (by omega)) k hk
end AD
section CAD
variable {L : List Nat} {K G : Nat → Nat} {Q : Nat → Nat → Option Nat} {I I1 : Nat → Nat → Int32} {J J1 : Nat → Nat → Int64} {F : Nat} {c : Fx} {T : Int × Int × (Int → Int → Bool)} {g : Nat → Int32}
theorem cxF_adM (hQ : Sv L K G Q) (hL : F ∈ L) (hK : K F = 1) (ok : okF c) (hm : (c.1 0).toInt < 8) (hM : mkd Q I1 J1 (fm Q F (c.1 0).toInt.toNat) (Int32.ofInt T.1) (Int32.ofInt T.2.1) T.2.2) (e2 : (I1 F 2).toInt = (I F 2).toInt + 1) (eF : ∀ k, ¬ k = 2 → I1 F k = I F k) (fI : ∀ b, K b = 0 ∨ K b = 3 → ¬ b = fm Q F (c.1 0).toInt.toNat → I1 b = I b) (fJ : ∀ b, ¬ (K b = 12 ∧ G b = G (fm Q F (c.1 0).toInt.toNat)) → J1 b = J b) (q : cxF Q I J F c) : cxF Q I1 J1 F (adM c T) := by
  have o0 := ok.1
  have m8 : (c.1 0).toInt.toNat < 8 := by omega
  have gm := fm_g hQ hL hK m8
  have z := in1 (x := c.1 0) (by omega)
  refine ⟨by rw [adM_0]; exact Int32.toInt_inj.mp (by rw [z, e2, q.1]), by rw [eF 3 (by decide), adM_k (by decide), setM_lo (by omega) m8]; exact q.2.1, by rw [eF 4 (by decide), adM_k (by decide), setM_lo (by omega) m8]; exact q.2.2.1, fun i hi => ?_, fun i hi k hk => ?_⟩
  · rw [adM_0, z] at hi
    have i8 : i < 8 := by omega
    rw [adM_k (by omega), adM_k (by omega), setM_w i8, setM_h m8]
    show cxM Q I1 J1 (fm Q F i) _ _ (mo (setM c (c.1 0).toInt.toNat (Int32.ofInt T.1) (Int32.ofInt T.2.1) (mkw T.2.2)).2 i)
    by_cases w : i = (c.1 0).toInt.toNat
    · rw [if_pos w, if_pos w]
      exact cxM_congr (fun k hk => by rw [setM_mo hk, if_pos w]) (by rw [w]; exact cxM_mk hM)
    · rw [if_neg w, if_neg w]
      have gi := fm_g (i := i) hQ hL hK i8
      have wi := wo_g hQ gi.1 gi.2.1
      exact cxM_congr (fun k hk => by rw [setM_mo hk, if_neg w]) (cxM_fr hQ extW_refl gi.1 gi.2.1 (fI _ (Or.inr gi.2.1) (fun y => by have := gi.2.2; rw [y] at this; have := gm.2.2; omega)) (fJ _ (fun y => by have := y.2; have := gm.2.2; have := gi.2.2; have := wi.2.2; omega)) (q.2.2.2.1 i (by omega)))
  · rw [adM_k (by decide), setM_lo (by omega) m8] at hi
    have gb := fb_g (i := i) hQ hL hK (by have := ok.2.1; omega)
    rw [fI _ (Or.inl gb.2.1) (ne_k gb.2.1 gm.2.1 (by decide)), adM_k (by omega), setM_lo (by omega) m8]; exact q.2.2.2.2 i hi k hk
theorem cxF_adB (hQ : Sv L K G Q) (hL : F ∈ L) (hK : K F = 1) (ok : okF c) (hn : (c.1 1).toInt < 10) (hB : ∀ k, k < 8 → I1 (fb Q F (c.1 1).toInt.toNat) k = g k) (e3 : (I1 F 3).toInt = (I F 3).toInt + 1) (eF : ∀ k, ¬ k = 3 → I1 F k = I F k) (fI : ∀ b, K b = 0 ∨ K b = 3 → ¬ b = fb Q F (c.1 1).toInt.toNat → I1 b = I b) (q : cxF Q I J F c) : cxF Q I1 J F (adB c g) := by
  have o0 := ok.1
  have o1 := ok.2.1
  have z := in1 (x := c.1 1) (by omega)
  have lo : ∀ k, ¬ k = 1 → k < 19 → (adB c g).1 k = c.1 k := fun k h1 h2 => by rw [adB_k h1, if_neg (by omega)]
  refine ⟨by rw [lo 0 (by decide) (by decide), eF 2 (by decide)]; exact q.1, by rw [adB_1]; exact Int32.toInt_inj.mp (by rw [z, e3, q.2.1]), by rw [lo 2 (by decide) (by decide), eF 4 (by decide)]; exact q.2.2.1, fun i hi => ?_, fun i hi k hk => ?_⟩
  · rw [lo 0 (by decide) (by decide)] at hi
    have i8 : i < 8 := by omega
    have gi := fm_g (i := i) hQ hL hK i8
    have gb := fb_g (i := (c.1 1).toInt.toNat) hQ hL hK (by omega)
    rw [lo _ (by omega) (by omega), lo _ (by omega) (by omega)]
    exact cxM_fr hQ extW_refl gi.1 gi.2.1 (fI _ (Or.inr gi.2.1) (ne_k gi.2.1 gb.2.1 (by decide))) rfl (q.2.2.2.1 i hi)
  · rw [adB_1, z] at hi
    rw [adB_k (by omega)]
    by_cases w : i = (c.1 1).toInt.toNat
    · rw [w, if_pos (by omega), show 19 + 8 * (c.1 1).toInt.toNat + k - (19 + 8 * (c.1 1).toInt.toNat) = k by omega]
      exact hB k hk
    · rw [if_neg (by omega)]
      have gi := fb_g (i := i) hQ hL hK (by omega)
      rw [fI _ (Or.inl gi.2.1) (fun y => w (fb_inj hQ hL hK (by omega) (by omega) y))]
      exact q.2.2.2.2 i (by omega) k hk
end CAD
/-! the parts of a text, read -/
section RF
variable {L : List Nat} {K G : Nat → Nat} {Q : Nat → Nat → Option Nat} {f : Nat → Int32} {I Ia Ib I1 : Nat → Nat → Int32} {J J1 : Nat → Nat → Int64} {F p : Nat} {c : Fx} {u u0 u1 : Int32} {X : Int} {t : Int → Int} {i : Int} {k : Nat}
theorem pcT_m (h : rdW f I Ia p u wMask) (hu : ¬ u.toInt = 0) : pcT (tb f (I p 1).toInt) c (I p 2).toInt = adM c (fmT (tb f (Ia p 1).toInt) (Ia p 2).toInt) := by
  have k := rdW_yes h hu
  unfold pcT; rw [if_pos k.1, k.2.1.1, k.2.1.2.1]
theorem pcT_b (h : rdW f I Ia p u0 wMask) (hu : u0.toInt = 0) (h0 : 0 ≤ (I p 2).toInt) (hn : (I p 1).toInt ≤ 400) (g : rdW f Ia Ib p u wBody) (gu : ¬ u.toInt = 0) : pcT (tb f (I p 1).toInt) c (I p 2).toInt = adB c (bdT (tb f (Ib p 1).toInt) (c.1 0).toInt (Ib p 2).toInt (fun _ => 0)) := by
  have k := rdW_no h hu
  have y := rdW_yes (rdW_next k.2 h0 hn g) gu
  unfold pcT; rw [if_neg k.1, y.2.1.1, y.2.1.2.1]
theorem cxF_0 (h2 : I F 2 = 0) (h3 : I F 3 = 0) (h4 : I F 4 = 0) : cxF Q I J F fx0 := by
  have z : ((0 : Int32)).toInt.toNat = 0 := by decide +kernel
  refine ⟨h2, h3, h4, fun i hi => ?_, fun i hi => ?_⟩
  · have hi : i < ((0 : Int32)).toInt.toNat := hi
    omega
  · have hi : i < ((0 : Int32)).toInt.toNat := hi
    omega
theorem toT_end (h : ¬ t (sk t (ppt t (c.1 0).toInt (c.1 1).toInt i).1.2) = 59) : toT t (k + 1) c i = pcT t c i := if_neg h
theorem toT_go (h : t (sk t (ppt t (c.1 0).toInt (c.1 1).toInt i).1.2) = 59) : toT t (k + 1) c i = toT t k (pcT t c i) (sk t (ppt t (c.1 0).toInt (c.1 1).toInt i).1.2 + 1) := if_pos h
theorem rf_fr (hQ : Sv L K G Q) (hL : F ∈ L) (hK : K F = 1) (hKp : K p = 4) (ok : okF c) (fr : ∀ b, ¬ b = p → I1 b = I b) (q : cxF Q I J F c) : cxF Q I1 J F c :=
  cxF_fr hQ extW_refl hL hK ok (fun b _ _ hb => fr b (fun y => by rw [y, hKp] at hb; omega)) (fun _ _ _ _ => rfl) q
theorem rf_m (hQ : Sv L K G Q) (hL : F ∈ L) (hK : K F = 1) (hKp : K p = 4) (ok : okF c) (q : cxF Q I J F c) (w : rdW f I Ia p u wMask) (hu : ¬ u.toInt = 0) (fa : ∀ b, ¬ b = p → Ia b = I b) (z : (8 ≤ (Ia F 2).toInt → u1.toInt = 0 ∧ rdF Ia I1 p X) ∧ ((Ia F 2).toInt < 8 → rdP Ia I1 p u1 (pfm (tb f (Ia p 1).toInt) (Ia p 2).toInt) ∧ (I1 F 2).toInt = (Ia F 2).toInt + 1 ∧ I1 F 3 = Ia F 3)) (jz : (¬ u1.toInt = 0 → mkd Q I1 J1 (fm Q F ((Ia F 2).toInt.toNat % 8)) (Int32.ofInt (fmT (tb f (Ia p 1).toInt) (Ia p 2).toInt).1) (Int32.ofInt (fmT (tb f (Ia p 1).toInt) (Ia p 2).toInt).2.1) (fmT (tb f (Ia p 1).toInt) (Ia p 2).toInt).2.2) ∧ ∀ k, ¬ k = 2 → I1 F k = Ia F k) (fr : ∀ b, ¬ (b = p ∨ b = F ∨ b = fm Q F ((Ia F 2).toInt.toNat % 8)) → I1 b = Ia b) (dj : ∀ b, ¬ (K b = 12 ∧ (G b = G (fm Q F ((Ia F 2).toInt.toNat % 8)))) → J1 b = J b) (hu1 : ¬ u1.toInt = 0) : cxF Q I1 J1 F (pcT (tb f (I p 1).toInt) c (I p 2).toInt) ∧ okF (pcT (tb f (I p 1).toInt) c (I p 2).toInt) := by
  have aF : Ia F = I F := fa F (ne_k hK hKp (by decide))
  have m8 : (Ia F 2).toInt < 8 := by
    rcases Int.lt_or_le (Ia F 2).toInt 8 with y | y
    · exact y
    · exact absurd (z.1 y).1 hu1
  have z2 := z.2 m8
  have g := rdP_go z2.1 hu1
  have e0 : Ia F 2 = c.1 0 := by rw [aF]; exact q.1
  have cb := ok.1
  rw [e0] at m8 z2 jz fr dj
  have em : (c.1 0).toInt.toNat % 8 = (c.1 0).toInt.toNat := Nat.mod_eq_of_lt (by omega)
  rw [em] at jz fr dj
  rw [pcT_m w hu]
  refine ⟨cxF_adM hQ hL hK ok m8 (jz.1 hu1) (by rw [show I F 2 = c.1 0 from q.1]; exact z2.2.1) (fun k hk => by rw [jz.2 k hk, aF]) (fun b hb hn => ?_) dj q, okF_adM ok m8 g.2⟩
  have np : ¬ b = p := fun y => by rw [y, hKp] at hb; omega
  rw [fr b (fun y => by rcases y with y | y | y; exact np y; (rw [y, hK] at hb; omega); exact hn y), fa b np]
theorem rf_b (hQ : Sv L K G Q) (hL : F ∈ L) (hK : K F = 1) (hKp : K p = 4) (ok : okF c) (q : cxF Q I J F c) (w : rdW f I Ia p u0 wMask) (hu : u0.toInt = 0) (h0 : 0 ≤ (I p 2).toInt) (hn : (I p 1).toInt ≤ 400) (g : rdW f Ia Ib p u wBody) (gu : ¬ u.toInt = 0) (fa : ∀ b, ¬ b = p → Ib b = I b) (z : (10 ≤ (Ib F 3).toInt → u1.toInt = 0 ∧ rdF Ib I1 p X) ∧ ((Ib F 3).toInt < 10 → rdP Ib I1 p u1 (pbd (tb f (Ib p 1).toInt) (Ib F 2).toInt (Ib p 2).toInt) ∧ (u1.toInt = 1 → (I1 F 3).toInt = (Ib F 3).toInt + 1 ∧ I1 F 2 = Ib F 2))) (jz : (¬ u1.toInt = 0 → I1 (fb Q F ((Ib F 3).toInt.toNat % 10)) = bdT (tb f (Ib p 1).toInt) (Ib F 2).toInt (Ib p 2).toInt (Ib (fb Q F ((Ib F 3).toInt.toNat % 10)))) ∧ ∀ k, ¬ k = 3 → I1 F k = Ib F k) (fr : ∀ b, ¬ (b = p ∨ b = F ∨ b = fb Q F ((Ib F 3).toInt.toNat % 10)) → I1 b = Ib b) (hu1 : ¬ u1.toInt = 0) : cxF Q I1 J F (pcT (tb f (I p 1).toInt) c (I p 2).toInt) ∧ okF (pcT (tb f (I p 1).toInt) c (I p 2).toInt) := by
  have aF : Ib F = I F := fa F (ne_k hK hKp (by decide))
  have m8 : (Ib F 3).toInt < 10 := by
    rcases Int.lt_or_le (Ib F 3).toInt 10 with y | y
    · exact y
    · exact absurd (z.1 y).1 hu1
  have z2 := z.2 m8
  have gg := rdP_go z2.1 hu1
  have h1 := (z2.1.1 gg.2).1
  have e0 : Ib F 3 = c.1 1 := by rw [aF]; exact q.2.1
  have e2 : Ib F 2 = c.1 0 := by rw [aF]; exact q.1
  have cb := ok.2.1
  have zz := (z2.2 h1).1
  rw [e0] at m8 zz jz fr
  rw [e2] at jz gg
  have em : (c.1 1).toInt.toNat % 10 = (c.1 1).toInt.toNat := Nat.mod_eq_of_lt (by omega)
  rw [em] at jz fr
  rw [pcT_b w hu h0 hn g gu]
  refine ⟨cxF_adB hQ hL hK ok m8 (fun k hk => by rw [jz.1 hu1]; exact bdT_k k hk) (by rw [show I F 3 = c.1 1 from q.2.1]; exact zz) (fun k hk => by rw [jz.2 k hk, aF]) (fun b hb hn => ?_) q, okF_adB ok m8 gg.2⟩
  have np : ¬ b = p := fun y => by rw [y, hKp] at hb; omega
  rw [fr b (fun y => by rcases y with y | y | y; exact np y; (rw [y, hK] at hb; omega); exact hn y), fa b np]
end RF
theorem pcT_sk {t : Int → Int} {c : Fx} {i : Int} (h : sk t (sk t i) = sk t i) : pcT t c (sk t i) = pcT t c i := by
  unfold pcT; simp only [tw_sk h, h]
theorem toT_sk {t : Int → Int} {k : Nat} {c : Fx} {i : Int} (h : sk t (sk t i) = sk t i) : toT t (k + 1) c (sk t i) = toT t (k + 1) c i := by
  unfold toT; rw [ppt_sk h, pcT_sk h]
/-- telling -/
def teA (σ : Sx) (t : Int → Int) : Int × Sx := if tellR t < 0 then (tellR t, σ) else (tellR t, (tellF t, 0, σ.2.2))
section TE
variable {L : List Nat} {K G : Nat → Nat} {Q : Nat → Nat → Option Nat} {I I1 : Nat → Nat → Int32} {J J1 : Nat → Nat → Int64} {x d r : Nat} {σ : Sx} {v : Int32} {t : Int → Int}
theorem te_1 : (teA σ t).1 = tellR t := by unfold teA; split <;> rfl
theorem te_n (h : tellR t < 0) : (teA σ t).2 = σ := by unfold teA; rw [if_pos h]
theorem te_y (h : ¬ tellR t < 0) : (teA σ t).2 = (tellF t, 0, σ.2.2) := by unfold teA; rw [if_neg h]
theorem cxA_dr (hQ : Sv L K G Q) (hL : x ∈ L) (hK : K x = 6) (hd : G d = 3) (hr : K r = 4) (fI : ∀ b, ¬ (b = r ∨ ((K b = 0 ∨ K b = 1 ∨ K b = 3) ∧ (G b = G d ∨ G b / 100 = G d))) → I1 b = I b) (fJ : ∀ b, ¬ (K b = 12 ∧ (G b / 100 = G d)) → J1 b = J b) (h : cxA Q I J x σ) : cxA Q I1 J1 x σ := by
  have nx : I1 x = I x := fI x (fun z => by rcases z with z | z; (rw [z, hr] at hK; omega); omega)
  exact cxA_fr (P := fun g => g = 1 ∨ g = 2 ∨ g = 6 ∨ g = 7 ∨ (20 ≤ g ∧ g < 30)) hQ extW_refl hL hK (fun _ _ => rfl) rfl (by rw [nx]) (by rw [nx]) (by omega) (by omega) (by omega) (by omega) (fun j _ => by show _ ∨ _ ∨ _ ∨ _ ∨ _; omega) (fun b _ hb hp => fI b (fun z => by
    rcases z with z | z
    · rw [z, hr] at hb; omega
    · omega)) (fun b _ hb hp => fJ b (fun z => by omega)) h
theorem cxA_tp (hQ : Sv L K G Q) (hL : x ∈ L) (hK : K x = 6) (e : I1 = va_up I x (upd (I x) 1 v)) (h : cxA Q I J x σ) : cxA Q I1 J x σ := by
  have nx : ∀ k, ¬ k = 1 → I1 x k = I x k := fun k hk => by rw [e, va_up_self]; simp [upd, hk]
  exact cxA_fr (P := fun _ => True) hQ extW_refl hL hK (fun _ _ => rfl) rfl (nx 9 (by decide)) (nx 10 (by decide)) trivial trivial trivial trivial (fun _ _ => trivial) (fun b _ hb _ => by rw [e, va_up_ne _ _ (fun z => by rw [z, hK] at hb; omega)]) (fun _ _ _ _ => rfl) h
theorem cxA_ta (hQ : Sv L K G Q) (hL : x ∈ L) (hK : K x = 6) {a : Nat} (ha : K a = 10) {g : Nat → Int32} (e : I1 = va_up I a g) (h : cxA Q I J x σ) : cxA Q I1 J x σ := by
  have nx : I1 x = I x := by rw [e, va_up_ne _ _ (ne_k hK ha (by decide))]
  exact cxA_fr (P := fun _ => True) hQ extW_refl hL hK (fun _ _ => rfl) rfl (by rw [nx]) (by rw [nx]) trivial trivial trivial trivial (fun _ _ => trivial) (fun b _ hb _ => by rw [e, va_up_ne _ _ (fun z => by rw [z, ha] at hb; omega)]) (fun _ _ _ _ => rfl) h
theorem cxF_tp {F : Nat} {c : Fx} (hQ : Sv L K G Q) (hL : F ∈ L) (hK : K F = 1) (hKx : K x = 6) (ok : okF c) {g : Nat → Int32} (e : I1 = va_up I x g) (q : cxF Q I J F c) : cxF Q I1 J F c :=
  cxF_fr hQ extW_refl hL hK ok (fun b _ _ hb => by rw [e, va_up_ne _ _ (fun y => by rw [y, hKx] at hb; omega)]) (fun _ _ _ _ => rfl) q
end TE
section TM
variable {L : List Nat} {K G : Nat → Nat} {Q : Nat → Nat → Option Nat} {I I1 : Nat → Nat → Int32} {J J1 : Nat → Nat → Int64} {m a k : Nat} {σ : Sx} {v : Int32} {g : Nat → Int32}
theorem cmA_tp (hQ : Sv L K G Q) (hL : m ∈ L) (hK : K m = 7) (e : I1 = va_up I m (upd (I m) k v)) (hk : ¬ 11 = k) (h : cmA Q I J m σ) : cmA Q I1 J m σ :=
  cmA_fr hQ hL hK (fun b hb => by rw [e, va_up_ne _ _ (fun z => by rw [z, hK] at hb; omega)]) (fun _ _ => rfl) (by rw [e, va_up_self]; simp [upd, hk]) h
theorem cmA_ha (hQ : Sv L K G Q) (hL : m ∈ L) (hK : K m = 7) (ha : K a = 28) (e : I1 = va_up I a g) (h : cmA Q I J m σ) : cmA Q I1 J m σ :=
  cmA_fr hQ hL hK (fun b hb => by rw [e, va_up_ne _ _ (fun z => by rw [z, ha] at hb; omega)]) (fun _ _ => rfl) (by rw [e, va_up_ne _ _ (ne_k hK ha (by decide))]) h
theorem cmA_h0 (hQ : Sv L K G Q) (hL : m ∈ L) (hK : K m = 7) (fr : ∀ b, ¬ (b = m) → I1 b = I b) (e : I1 m 11 = I m 11) (h : cmA Q I J m σ) : cmA Q I1 J m σ :=
  cmA_fr hQ hL hK (fun b hb => fr b (fun z => by rw [z, hK] at hb; omega)) (fun _ _ => rfl) e h
theorem cmA_hr (hQ : Sv L K G Q) (hL : m ∈ L) (hK : K m = 7) (fr : ∀ b, ¬ (K b = 7 ∨ K b = 28) → I1 b = I b) (fj : ∀ b, ¬ (K b = 32) → J1 b = J b) (e : I1 m 11 = I m 11) (h : cmA Q I J m σ) : cmA Q I1 J1 m σ :=
  cmA_fr hQ hL hK (fun b hb => fr b (fun z => by omega)) (fun b hb => fj b (fun z => by omega)) e h
theorem cmA_ta (hQ : Sv L K G Q) (hL : m ∈ L) (hK : K m = 7) (ha : K a = 31) (e : I1 = va_up I a g) (h : cmA Q I J m σ) : cmA Q I1 J m σ :=
  cmA_fr hQ hL hK (fun b hb => by rw [e, va_up_ne _ _ (fun z => by rw [z, ha] at hb; omega)]) (fun _ _ => rfl) (by rw [e, va_up_ne _ _ (ne_k hK ha (by decide))]) h
end TM
theorem sv_m {f : Nat → Int32} {I Ia : Nat → Nat → Int32} {p : Nat} {b n r : Int} (h13 : Ia p 13 = I p 13) (h : (tb f (I p 13).toInt (sk (tb f (I p 13).toInt) (I p 14).toInt) = 45 ∧ b = 1 ∧ (Ia p 14).toInt = sk (tb f (I p 13).toInt) (I p 14).toInt + 1) ∨ (¬ tb f (I p 13).toInt (sk (tb f (I p 13).toInt) (I p 14).toInt) = 45 ∧ b = 0 ∧ (Ia p 14).toInt = sk (tb f (I p 13).toInt) (I p 14).toInt)) (hn : n = nv (tb f (Ia p 13).toInt) (Ia p 14).toInt) (hr : (b = 0 → r = n) ∧ (¬ b = 0 → r = -n)) : r = sv (tb f (I p 13).toInt) (I p 14).toInt := by
  rw [h13] at hn
  unfold sv
  rcases h with ⟨q, e, a⟩ | ⟨q, e, a⟩
  · rw [if_pos q, ← a, ← hn]; exact hr.2 (by omega)
  · rw [if_neg q, ← a, ← hn]; exact hr.1 e
/-- what the reference hears of a mask -/
def hdM (Q : Nat → Nat → Option Nat) (I I1 : Nat → Nat → Int32) (J1 : Nat → Nat → Int64) (p m : Nat) (T : Int × Int × (Int → Int → Bool)) : Prop := I1 (a0 Q p 1) = upd (upd (I (a0 Q p 1)) (3 + m) (Int32.ofInt T.1)) (11 + m) (Int32.ofInt T.2.1) ∧ ∀ x y : Int, md (mo (J1 (a0 Q p 6)) m) x y = T.2.2 x y
theorem hd_upd {f g : Nat → Int32} {m : Nat} {v : Int32} {a b : Int} (hW : (g (3 + m)).toInt = a) (fr : ∀ k, ¬ k = 3 + m → g k = f k) (hv : v.toInt = b) : upd g (11 + m) v = upd (upd f (3 + m) (Int32.ofInt a)) (11 + m) (Int32.ofInt b) := by
  funext k
  unfold upd
  by_cases e : k = 11 + m
  · rw [if_pos e, if_pos e]; exact oi_eq hv
  · rw [if_neg e, if_neg e]
    by_cases e2 : k = 3 + m
    · rw [if_pos e2, e2]; exact oi_eq hW
    · rw [if_neg e2]; exact fr k e2
theorem rr_c {f : Nat → Int32} {n k : Int} {z : Int32} (h : pS (tb f n k) = true) (hz : z = f k.toNat) : tb f n k = z.toInt := by
  unfold tb at h ⊢
  split
  · rw [hz]
  · next q =>
    rw [if_neg q] at h
    exact absurd h (by decide)
/-! what the reference hears of a mask -/
section HF
variable {f : Nat → Int32} {Q : Nat → Nat → Option Nat} {I Ia Ib I1 : Nat → Nat → Int32} {J J1 : Nat → Nat → Int64} {p a b m : Nat} {t : Int → Int} {i j : Int} {z z1 z2 : Int32} {c : Fx} {T : Int × Int × (Int → Int → Bool)}
theorem box_x (h : tw t wBox i) : t (wr t (sk t i) - 1) = 120 := by
  have k := h.2 2 (by decide)
  have e : wr t (sk t i) - sk t i = 3 := h.1
  rw [show wr t (sk t i) - 1 = sk t i + ((2 : Nat) : Int) by omega, k]; decide +kernel
theorem frm_e (h : tw t wFrame i) : t (wr t (sk t i) - 1) = 101 := by
  have k := h.2 4 (by decide)
  have e : wr t (sk t i) - sk t i = 5 := h.1
  rw [show wr t (sk t i) - 1 = sk t i + ((4 : Nat) : Int) by omega, k]; decide +kernel
theorem tb_c {n k v : Int} (h : tb f n k = v) (hv : ¬ v = -1000) (hz : z = f k.toNat) : z.toInt = v := by
  unfold tb at h
  by_cases q : 0 ≤ k ∧ k < n
  · rw [if_pos q] at h; rw [hz]; exact h
  · rw [if_neg q] at h; exact absurd h.symm hv
theorem fmT_sign (h : pS (t (sk t i)) = true) : fmT t i = rwT t i := by
  have e : wr t (sk t i) = sk t i := rn_stay (by
    have h : t (sk t i) = 35 ∨ t (sk t i) = 46 := of_decide_eq_true h
    exact decide_eq_false (by omega))
  have n : ∀ w : List Int32, 0 < w.length → ¬ tw t w i := fun w hw q => by have := q.1; omega
  unfold fmT
  rw [if_neg (n _ (by decide)), if_neg (n _ (by decide)), if_neg (n _ (by decide))]
theorem hf_pn {s v : Int × Int} {F : Nat} (q1 : mdQ Ia Ib p s) (r : (Ib p 15).toInt = -1) (h : (Ia p 15).toInt = -1) : s.1 = 0 ∧ (Ib p 14).toInt = s.2 := by
  have k := q1.2.1 h
  by_cases e : s.1 = 0
  · exact ⟨e, (k.1 e).2⟩
  · exact absurd ((k.2 e).1.symm.trans r) (k.2 e).2
theorem hf_sz {D : Int → Int → Int → Int → Bool} (A : mdA I Ia p j) (hf : (I p 15).toInt = -1) (n1 : z1.toInt = nv (tb f (Ia p 13).toInt) (Ia p 14).toInt) (q1 : mdQ Ia Ib p (pn (tb f (Ia p 13).toInt) 1 100 (Ia p 14).toInt)) (r : (Ib p 15).toInt = -1) (n2 : z2.toInt = nv (tb f (Ib p 13).toInt) (Ib p 14).toInt) : z1 = Int32.ofInt (szT D (tb f (I p 13).toInt) j).1 ∧ z2 = Int32.ofInt (szT D (tb f (I p 13).toInt) j).2.1 ∧ D z1.toInt z2.toInt = (szT D (tb f (I p 13).toInt) j).2.2 := by
  have k := hf_pn (v := (0, 0)) (F := 0) q1 r (by rw [A.2.1]; exact hf)
  rw [q1.1, k.2] at n2
  rw [A.1, A.2.2] at n1 n2
  exact ⟨oi_eq n1, oi_eq n2, by rw [n1, n2]; rfl⟩
theorem hf_dk (A : mdA I Ia p j) (b : 0 ≤ z.toInt ∧ z.toInt ≤ 19) (n1 : z.toInt = nv (tb f (Ia p 13).toInt) (Ia p 14).toInt) : 2 * z + 1 = Int32.ofInt (dkT (tb f (I p 13).toInt) j).1 ∧ 2 * z + 1 = Int32.ofInt (dkT (tb f (I p 13).toInt) j).2.1 ∧ dskD z.toInt = (dkT (tb f (I p 13).toInt) j).2.2 := by
  rw [A.1, A.2.2] at n1
  have e1 : (2 * z).toInt = 2 * z.toInt := tq_mul rfl (by decide +kernel) rfl (by omega) (by omega)
  have e2 : (2 * z + 1).toInt = 2 * z.toInt + 1 := tq_add rfl e1 (by decide +kernel) (by omega) (by omega)
  rw [n1] at e2
  exact ⟨oi_eq e2, oi_eq e2, by rw [n1]; rfl⟩
theorem hd_mk {w h : Int32} {D : Int → Int → Bool} (e : I1 (a0 Q p 1) = upd (upd (Ia (a0 Q p 1)) (3 + m) w) (11 + m) h) (ea : Ia (a0 Q p 1) = I (a0 Q p 1)) (ew : w = Int32.ofInt T.1) (eh : h = Int32.ofInt T.2.1) (eD : D = T.2.2) (hd : ∀ x y : Int, md (mo (J1 (a0 Q p 6)) m) x y = D x y) : hdM Q I I1 J1 p m T := ⟨by rw [e, ea, ew, eh], fun x y => by rw [hd, eD]⟩
/-- no dots behind the masks that are told -/
def zF (c : Fx) : Prop := ∀ k, 80 * (c.1 0).toInt.toNat ≤ k → k < 640 → c.2 k = 0
theorem zF_0 : zF fx0 := fun _ _ _ => rfl
theorem isF_z (h : isF I J a b 0 c) (z : zF c) (h0 : 0 ≤ (c.1 0).toInt ∧ (c.1 0).toInt ≤ 7) : ∀ k, k < 80 → mo (J b) (c.1 0).toInt.toNat k = 0 := fun k hk => by
  have q := h.2 (80 * (c.1 0).toInt.toNat + k) (by omega)
  rw [show 640 * 0 + (80 * (c.1 0).toInt.toNat + k) = 80 * (c.1 0).toInt.toNat + k by omega] at q
  show J b (80 * (c.1 0).toInt.toNat + k) = 0
  rw [q]; exact z _ (by omega) (by omega)
theorem isF_adM (h : isF I J (a0 Q p 1) (a0 Q p 6) 0 c) (h0 : 0 ≤ (c.1 0).toInt ∧ (c.1 0).toInt ≤ 7) (hm : m = (c.1 0).toInt.toNat) (H : hdM Q I Ia J1 p m T) (he : ∀ k, (k < 80 * m ∨ 80 * m + 80 ≤ k) → J1 (a0 Q p 6) k = J (a0 Q p 6) k) (e : I1 (a0 Q p 1) = upd (Ia (a0 Q p 1)) 0 z) (ez : z = c.1 0 + 1) : isF I1 J1 (a0 Q p 1) (a0 Q p 6) 0 (adM c T) := by
  refine ⟨fun k hk => ?_, fun k hk => ?_⟩
  · have q := h.1 k hk
    rw [show 99 * 0 + k = k by omega] at q ⊢
    rw [e, H.1]
    show _ = (upd (upd (upd c.1 (3 + (c.1 0).toInt.toNat) (Int32.ofInt T.1)) (11 + (c.1 0).toInt.toNat) (Int32.ofInt T.2.1)) 0 (c.1 0 + 1)) k
    rw [← hm, ez]
    unfold upd
    split
    · rfl
    · split
      · rfl
      · split
        · rfl
        · exact q
  · have q := h.2 k hk
    rw [show 640 * 0 + k = k by omega] at q ⊢
    show _ = (if 80 * (c.1 0).toInt.toNat ≤ k ∧ k < 80 * (c.1 0).toInt.toNat + 80 then mkw T.2.2 (k - 80 * (c.1 0).toInt.toNat) else c.2 k)
    rw [← hm]
    split
    · next w =>
      have r := mkw_of (fun x y _ _ _ _ => H.2 x y) (k - 80 * m) (by omega)
      rw [← r]
      show _ = J1 (a0 Q p 6) (80 * m + (k - 80 * m))
      rw [show 80 * m + (k - 80 * m) = k by omega]
    · next w => rw [he k (by omega)]; exact q
theorem zF_adM (z : zF c) (h0 : 0 ≤ (c.1 0).toInt ∧ (c.1 0).toInt ≤ 7) : zF (adM c T) := fun k hk h6 => by
  rw [adM_0, in1 (x := c.1 0) (by omega)] at hk
  show (if 80 * (c.1 0).toInt.toNat ≤ k ∧ k < 80 * (c.1 0).toInt.toNat + 80 then mkw T.2.2 (k - 80 * (c.1 0).toInt.toNat) else c.2 k) = 0
  rw [if_neg (by omega)]
  exact z k (by omega) h6
theorem zF_adB {g : Nat → Int32} (z : zF c) (h1 : ∀ k, k = 0 → True) : zF (adB c g) := fun k hk h6 => by
  have e : (adB c g).1 0 = c.1 0 := by rw [adB_k (by decide), if_neg (by omega)]
  rw [e] at hk
  exact z k hk h6
end HF
/-! what the reference hears of a body -/
section HB
variable {f : Nat → Int32} {I Ia Ib I1 : Nat → Nat → Int32} {J J1 : Nat → Nat → Int64} {p a b n : Nat} {t : Int → Int} {i M p1 p2 p3 p4 p5 : Int} {c : Fx} {g : Nat → Int32}
def fl0 (t : Int → Int) (i : Int) : Int32 := if tw t wFlip i then Int32.ofInt (nv t (wr t (sk t i))) else 0
def ly1 (t : Int → Int) (i : Int) : Int32 := if tw t wLayer i then Int32.ofInt (nv t (wr t (sk t i))) else 1
def ly2 (t : Int → Int) (i : Int) : Int32 := if tw t wLayer i then Int32.ofInt (nv t (pn t 0 15 (wr t (sk t i))).2) else 1
def mv1 (t : Int → Int) (i : Int) : Int32 := if tw t wMoves i then Int32.ofInt (sv t (wr t (sk t i))) else 0
def mv2 (t : Int → Int) (i : Int) : Int32 := if tw t wMoves i then Int32.ofInt (sv t (ps t 20 (wr t (sk t i))).2) else 0
theorem bd8 (e1 : p1 = (pn t 0 (M - 1) i).2) (e2 : p2 = (ps t 999 p1).2) (e3 : p3 = (ps t 999 p2).2) (e4 : p4 = (pfl t p3).2) (e5 : p5 = (ply t p4).2) : bdT t M i g 0 = Int32.ofInt (nv t i) ∧ bdT t M i g 1 = Int32.ofInt (sv t p1) ∧ bdT t M i g 2 = Int32.ofInt (sv t p2) ∧ bdT t M i g 3 = fl0 t p3 ∧ bdT t M i g 4 = ly1 t p4 ∧ bdT t M i g 5 = ly2 t p4 ∧ bdT t M i g 6 = mv1 t p5 ∧ bdT t M i g 7 = mv2 t p5 := by
  unfold bdT
  rw [← e1, ← e2, ← e3, ← e4, ← e5]
  unfold mvT lyT flT fl0 ly1 ly2 mv1 mv2
  by_cases h3 : tw t wFlip p3 <;> by_cases h4 : tw t wLayer p4 <;> by_cases h5 : tw t wMoves p5
  · rw [if_pos h3, if_pos h3, if_pos h4, if_pos h4, if_pos h4, if_pos h5, if_pos h5, if_pos h5]; exact ⟨rfl, rfl, rfl, rfl, rfl, rfl, rfl, rfl⟩
  · rw [if_pos h3, if_pos h3, if_pos h4, if_pos h4, if_pos h4, if_neg h5, if_neg h5, if_neg h5]; exact ⟨rfl, rfl, rfl, rfl, rfl, rfl, rfl, rfl⟩
  · rw [if_pos h3, if_pos h3, if_neg h4, if_neg h4, if_neg h4, if_pos h5, if_pos h5, if_pos h5]; exact ⟨rfl, rfl, rfl, rfl, rfl, rfl, rfl, rfl⟩
  · rw [if_pos h3, if_pos h3, if_neg h4, if_neg h4, if_neg h4, if_neg h5, if_neg h5, if_neg h5]; exact ⟨rfl, rfl, rfl, rfl, rfl, rfl, rfl, rfl⟩
  · rw [if_neg h3, if_neg h3, if_pos h4, if_pos h4, if_pos h4, if_pos h5, if_pos h5, if_pos h5]; exact ⟨rfl, rfl, rfl, rfl, rfl, rfl, rfl, rfl⟩
  · rw [if_neg h3, if_neg h3, if_pos h4, if_pos h4, if_pos h4, if_neg h5, if_neg h5, if_neg h5]; exact ⟨rfl, rfl, rfl, rfl, rfl, rfl, rfl, rfl⟩
  · rw [if_neg h3, if_neg h3, if_neg h4, if_neg h4, if_neg h4, if_pos h5, if_pos h5, if_pos h5]; exact ⟨rfl, rfl, rfl, rfl, rfl, rfl, rfl, rfl⟩
  · rw [if_neg h3, if_neg h3, if_neg h4, if_neg h4, if_neg h4, if_neg h5, if_neg h5, if_neg h5]; exact ⟨rfl, rfl, rfl, rfl, rfl, rfl, rfl, rfl⟩
theorem mdQ_r {s : Int × Int} (h : mdQ Ia Ib p s) (r : (Ib p 15).toInt = -1) : (Ia p 15).toInt = -1 := by
  by_cases q : (Ia p 15).toInt = -1
  · exact q
  · rw [← h.2.2 q]; exact r
theorem isF_adB {v0 v1 v2 v3 v4 v5 v6 v7 z : Int32} {i0 i1 i2 i3 i4 i5 i6 i7 : Nat} (h : isF I J a b 0 c) (hn : n = (c.1 1).toInt.toNat) (e : I1 a = upd (upd (upd (upd (upd (upd (upd (upd (upd (I a) i0 v0) i1 v1) i2 v2) i3 v3) i4 v4) i5 v5) i6 v6) i7 v7) 1 z) (hi : i0 = 19 + 8 * n ∧ i1 = 19 + 8 * n + 1 ∧ i2 = 19 + 8 * n + 2 ∧ i3 = 19 + 8 * n + 3 ∧ i4 = 19 + 8 * n + 4 ∧ i5 = 19 + 8 * n + 5 ∧ i6 = 19 + 8 * n + 6 ∧ i7 = 19 + 8 * n + 7) (ez : z = c.1 1 + 1) (hg : g 0 = v0 ∧ g 1 = v1 ∧ g 2 = v2 ∧ g 3 = v3 ∧ g 4 = v4 ∧ g 5 = v5 ∧ g 6 = v6 ∧ g 7 = v7) : isF I1 J a b 0 (adB c g) := by
  obtain ⟨h0, h1, h2, h3, h4, h5, h6, h7⟩ := hi
  obtain ⟨g0, g1, g2, g3, g4, g5, g6, g7⟩ := hg
  refine ⟨fun k hk => ?_, h.2⟩
  have q := h.1 k hk
  rw [show 99 * 0 + k = k by omega] at q ⊢
  rw [e]
  by_cases e1 : k = 1
  · rw [e1, adB_1, ← ez]; simp only [upd, if_true]
  · rw [adB_k e1, ← hn]
    unfold upd
    by_cases r : 19 + 8 * n ≤ k ∧ k < 19 + 8 * n + 8
    · rw [if_pos r, if_neg e1]
      rcases (show k = i0 ∨ k = i1 ∨ k = i2 ∨ k = i3 ∨ k = i4 ∨ k = i5 ∨ k = i6 ∨ k = i7 by omega) with w | w | w | w | w | w | w | w
      · rw [if_neg (by omega), if_neg (by omega), if_neg (by omega), if_neg (by omega), if_neg (by omega), if_neg (by omega), if_neg (by omega), if_pos w, ← g0]; congr 1; omega
      · rw [if_neg (by omega), if_neg (by omega), if_neg (by omega), if_neg (by omega), if_neg (by omega), if_neg (by omega), if_pos w, ← g1]; congr 1; omega
      · rw [if_neg (by omega), if_neg (by omega), if_neg (by omega), if_neg (by omega), if_neg (by omega), if_pos w, ← g2]; congr 1; omega
      · rw [if_neg (by omega), if_neg (by omega), if_neg (by omega), if_neg (by omega), if_pos w, ← g3]; congr 1; omega
      · rw [if_neg (by omega), if_neg (by omega), if_neg (by omega), if_pos w, ← g4]; congr 1; omega
      · rw [if_neg (by omega), if_neg (by omega), if_pos w, ← g5]; congr 1; omega
      · rw [if_neg (by omega), if_pos w, ← g6]; congr 1; omega
      · rw [if_pos w, ← g7]; congr 1; omega
    · rw [if_neg r, if_neg e1, if_neg (by omega), if_neg (by omega), if_neg (by omega), if_neg (by omega), if_neg (by omega), if_neg (by omega), if_neg (by omega), if_neg (by omega)]
      exact q
end HB
/-! what the reference hears, part by part -/
section HR
variable {f : Nat → Int32} {Q : Nat → Nat → Option Nat} {I Ia I1 : Nat → Nat → Int32} {J J1 : Nat → Nat → Int64} {p a b a2 b2 : Nat} {t : Int → Int} {i u x : Int} {c : Fx}
theorem zl_upd {g : Nat → Int64} {v : Int32} {i : Nat} (h : i < v.toInt.toNat → g i = 0) (hi : i < (v.toInt + 1).toNat) : vp_updL g v.toNatClampNeg 0 i = 0 := by
  unfold vp_updL
  split
  · rfl
  · next q =>
    have e : ¬ i = v.toInt.toNat := q
    exact h (by omega)
theorem isF_mv {oi : Nat → Int32} {oj : Nat → Int64} (ci : cpd 99 (0 : Int32).toInt.toNat (0 : Int32).toInt.toNat (I a) oi (I1 a2)) (cj : cpd 640 (0 : Int32).toInt.toNat (0 : Int32).toInt.toNat (J b) oj (J1 b2)) (h : isF I J a b 0 c) : isF I1 J1 a2 b2 0 c := by
  have z : (0 : Int32).toInt.toNat = 0 := by decide +kernel
  rw [z] at ci cj
  exact ⟨fun k hk => (ci.1 k hk).trans (h.1 k hk), fun k hk => (cj.1 k hk).trans (h.2 k hk)⟩
theorem rp_m (A : mdA I Ia p (wr (tb f (I p 13).toInt) (sk (tb f (I p 13).toInt) (I p 14).toInt))) (w : tw (tb f (I p 13).toInt) wMask (I p 14).toInt) (ok : okF c) (zc : zF c) (m : (c.1 0).toInt < 8) (fz : mdQ Ia I1 p (pfm (tb f (Ia p 13).toInt) (Ia p 14).toInt)) (hf : (I p 15).toInt = -1) (r : (I1 p 15).toInt = -1) (q : isF I1 J1 a b 0 (adM c (fmT (tb f (Ia p 13).toInt) (Ia p 14).toInt))) : isF I1 J1 a b 0 (pcT (tb f (I p 13).toInt) c (I p 14).toInt) ∧ okF (pcT (tb f (I p 13).toInt) c (I p 14).toInt) ∧ zF (pcT (tb f (I p 13).toInt) c (I p 14).toInt) := by
  have k := (hf_pn (v := (0, 0)) (F := 0) fz r (by rw [A.2.1]; exact hf)).1
  have o := ok.1
  rw [A.1, A.2.2] at q k
  unfold pcT
  rw [if_pos w]
  exact ⟨q, okF_adM ok m k, zF_adM zc (by omega)⟩
theorem rp_b {yh : Nat} (nm : ¬ tw (tb f (I p 13).toInt) wMask (I p 14).toInt) (A : mdA I Ia p (wr (tb f (I p 13).toInt) (sk (tb f (I p 13).toInt) (I p 14).toInt))) (ok : okF c) (zc : zF c) (m : (c.1 1).toInt < 10) (ey : Ia yh = I yh) (h : isF I J yh b2 0 c) (fz : mdQ Ia I1 p (pbd (tb f (Ia p 13).toInt) (Ia yh 0).toInt (Ia p 14).toInt)) (hf : (I p 15).toInt = -1) (r : (I1 p 15).toInt = -1) (q : isF I1 J1 a b 0 (adB c (bdT (tb f (Ia p 13).toInt) (c.1 0).toInt (Ia p 14).toInt (fun _ => 0)))) : isF I1 J1 a b 0 (pcT (tb f (I p 13).toInt) c (I p 14).toInt) ∧ okF (pcT (tb f (I p 13).toInt) c (I p 14).toInt) ∧ zF (pcT (tb f (I p 13).toInt) c (I p 14).toInt) := by
  have k := (hf_pn (v := (0, 0)) (F := 0) fz r (by rw [A.2.1]; exact hf)).1
  have e0 : I yh 0 = c.1 0 := h.1 0 (by decide)
  rw [A.1, A.2.2] at q k
  rw [ey, e0] at k
  unfold pcT
  rw [if_neg nm]
  exact ⟨q, okF_adB ok m k, zF_adB zc (fun _ _ => trivial)⟩
def hrG (Q : Nat → Nat → Option Nat) (I : Nat → Nat → Int32) (J : Nat → Nat → Int64) (p : Nat) (t : Int → Int) (u x : Int) : Prop := ∃ c : Fx, isF I J (a0 Q p 1) (a0 Q p 6) 0 c ∧ okF c ∧ zF c ∧ (u = 1 → ∃ k : Nat, 401 ≤ (k : Int) + x ∧ tellF t = toT t k c x) ∧ (u = 0 → tellF t = c)
theorem hrG_fr (e : I1 (a0 Q p 1) = I (a0 Q p 1)) (h : hrG Q I J p t u x) : hrG Q I1 J p t u x := by
  obtain ⟨c, q, r⟩ := h
  exact ⟨c, isF_fr e rfl q, r⟩
theorem hrG_0 {y z : Int} (hu : u = 0) (h : hrG Q I J p t 0 z) : hrG Q I J p t u y := by
  obtain ⟨c, q, o, z, _, e⟩ := h
  exact ⟨c, q, o, z, fun w => by omega, fun _ => e rfl⟩
theorem hr_part {x2 : Int} (h : hrG Q I J p t u x) (hu : u = 1) (hx : 0 ≤ x ∧ x ≤ 400) (j : ∀ c : Fx, okF c → isF I J (a0 Q p 1) (a0 Q p 6) 0 c → zF c → isF I1 J1 (a0 Q p 1) (a0 Q p 6) 0 (pcT t c x) ∧ okF (pcT t c x) ∧ zF (pcT t c x)) (P : (ppt t (I ((Q p 1).getD 0) 0).toInt (I ((Q p 1).getD 0) 1).toInt x).1.1 = 0 ∧ x2 = (ppt t (I ((Q p 1).getD 0) 0).toInt (I ((Q p 1).getD 0) 1).toInt x).1.2) : (¬ t (sk t x2) = 59 → ∀ y, hrG Q I1 J1 p t 0 y) ∧ (t (sk t x2) = 59 → hrG Q I1 J1 p t 1 (sk t x2 + 1)) := by
  obtain ⟨c, q, o, z, e, _⟩ := h
  obtain ⟨k, hk, e⟩ := e hu
  have w := j c o q z
  have c0 : I ((Q p 1).getD 0) 0 = c.1 0 := q.1 0 (by decide)
  have c1 : I ((Q p 1).getD 0) 1 = c.1 1 := q.1 1 (by decide)
  rw [c0, c1] at P
  obtain ⟨k', rfl⟩ : ∃ k', k = k' + 1 := ⟨k - 1, by omega⟩
  have ad := ppt_adv P.1 hx.1
  have le : x2 ≤ sk t x2 := rn_le
  refine ⟨fun n y => ⟨pcT t c x, w.1, w.2.1, w.2.2, fun q => absurd q (by decide), fun _ => ?_⟩, fun n => ⟨pcT t c x, w.1, w.2.1, w.2.2, fun _ => ⟨k', by omega, ?_⟩, fun q => absurd q (by decide)⟩⟩
  · rw [e]; exact toT_end (by rw [← P.2]; exact n)
  · rw [e, P.2]; exact toT_go (by rw [← P.2]; exact n)
end HR
