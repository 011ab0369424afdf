/-! counting places -/
theorem nb_add {x y z : Int64} (h : ∀ i, i < 64 → b64 z i = (b64 x i || b64 y i)) (d : ∀ i, i < 64 → ¬ (b64 x i = true ∧ b64 y i = true)) : nb z = nb x + nb y := by
  have key : ∀ k, k ≤ 64 → nbit z.toBitVec.toNat k = nbit x.toBitVec.toNat k + nbit y.toBitVec.toNat k := by
    intro k
    induction k with
    | zero => intro _; rfl
    | succ k ih =>
      intro hk
      show nbit z.toBitVec.toNat k + (if z.toBitVec.toNat.testBit k then 1 else 0) = nbit x.toBitVec.toNat k + (if x.toBitVec.toNat.testBit k then 1 else 0) + (nbit y.toBitVec.toNat k + (if y.toBitVec.toNat.testBit k then 1 else 0))
      have e : z.toBitVec.toNat.testBit k = (b64 x k || b64 y k) := h k (by omega)
      have e1 : x.toBitVec.toNat.testBit k = b64 x k := rfl
      have e2 : y.toBitVec.toNat.testBit k = b64 y k := rfl
      have dd := d k (by omega)
      rw [ih (by omega), e, e1, e2]
      cases p : b64 x k <;> cases q : b64 y k
      · simp
      · simp; omega
      · simp; omega
      · exact absurd ⟨p, q⟩ dd
  exact key 64 (Nat.le_refl _)
def cntD (D : Int → Int → Bool) : Nat := totr (mkw D) 40
theorem b64_mkw {D : Int → Int → Bool} {k i : Nat} (hk : k < 80) (hi : i < 64) : b64 (mkw D k) i = D ((64 * (k % 2) + i : Nat) : Int) ((k / 2 : Nat) : Int) := by
  have q := mkw_md (D := D) (x := ((64 * (k % 2) + i : Nat) : Int)) (y := ((k / 2 : Nat) : Int)) (by omega) (by omega) (by omega) (by omega)
  rw [md_bit (by omega) (by omega) (by omega) (by omega)] at q
  have e1 : 2 * (((k / 2 : Nat) : Int)).toNat + (((64 * (k % 2) + i : Nat) : Int)).toNat / 64 = k := by omega
  have e2 : (((64 * (k % 2) + i : Nat) : Int)).toNat % 64 = i := by omega
  rw [e1, e2] at q
  exact q
theorem cnt_add {D D1 D2 : Int → Int → Bool} (h : ∀ x y : Int, 0 ≤ x → x < 128 → 0 ≤ y → y < 40 → D x y = (D1 x y || D2 x y)) (d : ∀ x y : Int, ¬ (D1 x y = true ∧ D2 x y = true)) : cntD D = cntD D1 + cntD D2 := by
  have key : ∀ n, n ≤ 80 → totk (mkw D) n = totk (mkw D1) n + totk (mkw D2) n := by
    intro n
    induction n with
    | zero => intro _; rfl
    | succ n ih =>
      intro hn
      show totk (mkw D) n + nb (mkw D n) = totk (mkw D1) n + nb (mkw D1 n) + (totk (mkw D2) n + nb (mkw D2 n))
      rw [ih (by omega), nb_add (x := mkw D1 n) (y := mkw D2 n) (z := mkw D n) (fun i hi => by rw [b64_mkw (by omega) hi, b64_mkw (by omega) hi, b64_mkw (by omega) hi]; exact h _ _ (by omega) (by omega) (by omega) (by omega)) (fun i hi => by rw [b64_mkw (by omega) hi, b64_mkw (by omega) hi]; exact d _ _)]
      omega
  unfold cntD
  have a := totk_2 (mkw D) 40
  have b := totk_2 (mkw D1) 40
  have c := totk_2 (mkw D2) 40
  rw [← a, ← b, ← c]
  exact key (2 * 40) (by decide)
theorem cnt_congr {D E : Int → Int → Bool} (h : ∀ x y : Int, 0 ≤ x → x < 128 → 0 ≤ y → y < 40 → D x y = E x y) : cntD D = cntD E := totr_congr (mkw_of (fun x y a b c d => by rw [mkw_md a b c d]; exact h x y a b c d))
theorem cnt_z {D : Int → Int → Bool} : cntD D = 0 ↔ ∀ x y : Int, 0 ≤ x → x < 128 → 0 ≤ y → y < 40 → D x y = false := by
  unfold cntD
  constructor
  · intro h x y a b c d
    have q := (rowE_md (show y.toNat < 40 by omega)).mp ((totr_z 40).mp h y.toNat (by omega)) x
    rw [show ((y.toNat : Nat) : Int) = y by omega, mkw_md a b c d] at q
    exact q
  · intro h
    refine (totr_z 40).mpr (fun r hr => (rowE_md hr).mpr (fun x => ?_))
    cases q : md (mkw D) x (r : Int) with
    | false => rfl
    | true =>
      have m := md_rng q
      rw [mkw_md m.1.1 m.1.2 m.2.1 m.2.2, h _ _ m.1.1 m.1.2 m.2.1 m.2.2] at q; cases q
theorem cnt_1 {D E : Int → Int → Bool} {x y : Int} (hx : 0 ≤ x ∧ x < 128) (hy : 0 ≤ y ∧ y < 40) (h0 : D x y = false) (h : ∀ X Y : Int, 0 ≤ X → X < 128 → 0 ≤ Y → Y < 40 → E X Y = (D X Y || decide (X = x ∧ Y = y))) : cntD E = cntD D + 1 := totr_set hx hy (by rw [mkw_md hx.1 hx.2 hy.1 hy.2]; exact h0) (fun X Y a b c d => by rw [mkw_md a b c d, mkw_md a b c d]; exact h X Y a b c d)
theorem cnt_shift_ (n : Nat) : ∀ {D E : Int → Int → Bool} {dx dy : Int}, cntD D = n → (∀ x y, D x y = true → (0 ≤ x ∧ x < 128) ∧ 0 ≤ y ∧ y < 40) → (∀ x y, E x y = true → (0 ≤ x ∧ x < 128) ∧ 0 ≤ y ∧ y < 40) → (∀ x y, E x y = D (x + dx) (y + dy)) → cntD E = n := by
  induction n with
  | zero =>
    intro D E dx dy hn r s e
    refine cnt_z.mpr (fun x y _ _ _ _ => ?_)
    cases q : E x y with
    | false => rfl
    | true =>
      rw [e] at q
      have m := r _ _ q
      rw [cnt_z.mp hn _ _ m.1.1 m.1.2 m.2.1 m.2.2] at q; cases q
  | succ n ih =>
    intro D E dx dy hn r s e
    have ex : ∃ x y, D x y = true := Classical.byContradiction (fun w => by
      have z : cntD D = 0 := cnt_z.mpr (fun x y _ _ _ _ => by
        cases q : D x y with
        | false => rfl
        | true => exact absurd ⟨x, y, q⟩ w)
      omega)
    obtain ⟨x, y, p⟩ := ex
    have m := r _ _ p
    have p2 : E (x - dx) (y - dy) = true := by rw [e, Int.sub_add_cancel, Int.sub_add_cancel]; exact p
    have m2 := s _ _ p2
    have c1 : cntD D = cntD (fun X Y => D X Y && !decide (X = x ∧ Y = y)) + 1 := cnt_1 m.1 m.2 (by simp) (fun X Y _ _ _ _ => by
      by_cases w : X = x ∧ Y = y
      · rw [w.1, w.2, p]; simp
      · simp [w])
    have c2 : cntD E = cntD (fun X Y => E X Y && !decide (X = x - dx ∧ Y = y - dy)) + 1 := cnt_1 m2.1 m2.2 (by simp) (fun X Y _ _ _ _ => by
      by_cases w : X = x - dx ∧ Y = y - dy
      · rw [w.1, w.2, p2]; simp
      · simp [w])
    rw [c2, ih (D := fun X Y => D X Y && !decide (X = x ∧ Y = y)) (dx := dx) (dy := dy) (by omega) (fun X Y q => r X Y ((Bool.and_eq_true _ _).mp q).1) (fun X Y q => s X Y ((Bool.and_eq_true _ _).mp q).1) (fun X Y => by
      show (E X Y && !decide (X = x - dx ∧ Y = y - dy)) = (D (X + dx) (Y + dy) && !decide (X + dx = x ∧ Y + dy = y))
      rw [e X Y, decide_eq_decide.mpr (show (X = x - dx ∧ Y = y - dy) ↔ (X + dx = x ∧ Y + dy = y) by omega)])]
theorem cnt_shift {D E : Int → Int → Bool} {dx dy : Int} (r : ∀ x y, D x y = true → (0 ≤ x ∧ x < 128) ∧ 0 ≤ y ∧ y < 40) (s : ∀ x y, E x y = true → (0 ≤ x ∧ x < 128) ∧ 0 ≤ y ∧ y < 40) (e : ∀ x y, E x y = D (x + dx) (y + dy)) : cntD E = cntD D := cnt_shift_ (cntD D) rfl r s e
theorem cnt_le (D : Int → Int → Bool) : cntD D ≤ 5120 := totr_le (mkw D) 40
theorem tr_row {D : Int → Int → Bool} {a b : Int64} {r r1 : Nat} (hr : r < 40) (h1 : r1 = r + 1) (h : ∀ x : Int, 0 ≤ x → x < 128 → dt a b x = D x (r : Int)) : totr (mkw D) r1 = totr (mkw D) r + (nb a + nb b) := by
  have q := mkw_row hr h
  rw [h1, q.1, q.2]; rfl
theorem row_z {D : Int → Int → Bool} {r : Nat} (hr : r < 40) (h : ∀ x, D x (r : Int) = false) : rowE (mkw D) r := (rowE_md hr).mpr (fun x => by
  cases q : md (mkw D) x (r : Int) with
  | false => rfl
  | true =>
    have m := md_rng q
    rw [mkw_md m.1.1 m.1.2 m.2.1 m.2.2, h] at q; cases q)
theorem tr_lo {D : Int → Int → Bool} {r : Nat} (hr : r ≤ 40) (h : ∀ x y : Int, D x y = true → (r : Int) ≤ y) : totr (mkw D) r = 0 := (totr_z r).mpr (fun k hk => row_z (by omega) (fun x => by
  cases q : D x (k : Int) with
  | false => rfl
  | true => have := h _ _ q; omega))
theorem tr_hi {D : Int → Int → Bool} {r : Nat} (hr : r ≤ 40) (h : ∀ x y : Int, D x y = true → y < (r : Int)) : totr (mkw D) r = cntD D := by
  have q := totr_ext (f := mkw D) (n := r) (40 - r) (fun k a b => row_z (by omega) (fun x => by
    cases q : D x (k : Int) with
    | false => rfl
    | true => have := h _ _ q; omega))
  rw [show r + (40 - r) = 40 by omega] at q
  exact q.symm
theorem TD_lo {D : Int → Int → Bool} {y x : Int} (h : ∀ X Y, D X Y = true → y < Y ∨ (Y = y ∧ x ≤ X)) : TD D y x = 0 := cnt_z.mpr (fun X Y _ _ _ _ => by
  unfold ahD
  cases q : D X Y with
  | false => rw [Bool.and_false]
  | true => have := h _ _ q; rw [decide_eq_false (by omega)]; rfl)
theorem TD_mv {D : Int → Int → Bool} {y x y1 x1 : Int} (h : ∀ X Y, D X Y = true → ((Y < y1 ∨ (Y = y1 ∧ X < x1)) ↔ (Y < y ∨ (Y = y ∧ X < x)))) : TD D y1 x1 = TD D y x := cnt_congr (fun X Y _ _ _ _ => by
  unfold ahD
  cases q : D X Y with
  | false => rw [Bool.and_false, Bool.and_false]
  | true => congr 1; exact decide_eq_decide.mpr (h X Y q))
theorem TD_hi {D : Int → Int → Bool} {y x : Int} (h : ∀ X Y, D X Y = true → Y < y ∨ (Y = y ∧ X < x)) : TD D y x = cntD D := cnt_congr (fun X Y _ _ _ _ => by
  unfold ahD
  cases q : D X Y with
  | false => rw [Bool.and_false]
  | true => rw [decide_eq_true (h X Y q)]; rfl)
/-! dots within a box -/
def rcD (f : Nat → Int64) (x y w h X Y : Int) : Bool := decide ((x ≤ X ∧ X < x + w) ∧ y ≤ Y ∧ Y < y + h) && md f X Y
theorem rc_t {f : Nat → Int64} {x y w h X Y : Int} : rcD f x y w h X Y = true ↔ ((x ≤ X ∧ X < x + w) ∧ y ≤ Y ∧ Y < y + h) ∧ md f X Y = true := by
  unfold rcD
  rw [Bool.and_eq_true, decide_eq_true_iff]
def rcN (f : Nat → Int64) (x y w h : Int) : Int := (cntD (rcD f x y w h) : Int)
theorem rc_b (f : Nat → Int64) (x y w h : Int) : 0 ≤ rcN f x y w h ∧ rcN f x y w h ≤ 5120 := by
  have := cnt_le (rcD f x y w h)
  unfold rcN; omega
theorem dt_ones {a b : Int64} {w t : Int} (h0 : ∀ i : Nat, i < 64 → b64 a i = decide ((i : Int) < w)) (h1 : ∀ i : Nat, i < 64 → b64 b i = decide ((i : Int) + 64 < w)) (ht : t < 128) : dt a b t = decide (0 ≤ t ∧ t < w) := by
  rcases Int.lt_or_le t 0 with q | q
  · unfold dt; rw [if_pos q, decide_eq_false (by omega)]
  · rcases Int.lt_or_le t 64 with v | v
    · rw [dt_a q v, h0 _ (by omega)]; exact decide_eq_decide.mpr (by omega)
    · rw [dt_b v, h1 _ (by omega)]; exact decide_eq_decide.mpr (by omega)
theorem rc_row {f : Nat → Int64} {a b a1 b1 s0 s1 u v : Int64} {x y w h t : Int} (r : Nat) (e1 : u = a &&& s0) (e2 : v = b &&& s1) (hr : r < 40) (ha : a = f (2 * r)) (hb : b = f (2 * r + 1)) (k0 : ∀ i : Nat, i < 64 → b64 a1 i = decide ((i : Int) < w)) (k1 : ∀ i : Nat, i < 64 → b64 b1 i = decide ((i : Int) + 64 < w)) (h0 : ∀ i : Nat, i < 64 → b64 s0 i = dt a1 b1 ((i : Int) - x)) (h1 : ∀ i : Nat, i < 64 → b64 s1 i = dt a1 b1 ((i : Int) + 64 - x)) (hx : 0 ≤ x) (hy : y ≤ (r : Int) ∧ (r : Int) < y + h) (p : 0 ≤ t) (q : t < 128) : dt u v t = rcD f x y w h t (r : Int) := by
  rw [dt_and e1 e2, sh_row h0 h1 p q, dt_ones k0 k1 (by omega), ← md_row hr ha hb]
  unfold rcD
  rw [Bool.and_comm]
  congr 1
  exact decide_eq_decide.mpr (by omega)
theorem rc_split {f : Nat → Int64} {x y w h x2 w2 : Int} (hw : 0 ≤ w) (e : x2 = x + w) (h2 : 0 ≤ w2) : rcN f x y (w + w2) h = rcN f x y w h + rcN f x2 y w2 h := by
  unfold rcN
  rw [cnt_add (D := rcD f x y (w + w2) h) (D1 := rcD f x y w h) (D2 := rcD f x2 y w2 h) (fun X Y _ _ _ _ => ?_) (fun X Y q => ?_)]
  · omega
  · apply Bool.eq_iff_iff.mpr
    rw [Bool.or_eq_true, rc_t, rc_t, rc_t]
    constructor
    · rintro ⟨k, m⟩
      rcases Int.lt_or_le X x2 with z | z
      · exact Or.inl ⟨by omega, m⟩
      · exact Or.inr ⟨by omega, m⟩
    · rintro (⟨k, m⟩ | ⟨k, m⟩) <;> exact ⟨by omega, m⟩
  · have a := (rc_t.mp q.1).1
    have b := (rc_t.mp q.2).1
    omega
theorem rc_slide {f : Nat → Int64} {x y w h x1 xw : Int} (hw : 1 ≤ w) (e1 : x1 = x + 1) (ew : xw = x + w) : rcN f x1 y w h = rcN f x y w h + rcN f xw y 1 h - rcN f x y 1 h := by
  have a := rc_split (f := f) (x := x) (y := y) (w := w) (h := h) (x2 := xw) (w2 := 1) (by omega) ew (by omega)
  have b := rc_split (f := f) (x := x) (y := y) (w := 1) (h := h) (x2 := x1) (w2 := w) (by omega) e1 (by omega)
  rw [show 1 + w = w + 1 by omega] at b
  omega
def dtsV (σ : Sx) (m d k : Int32) : Prop := mK σ m ∧ (0 ≤ k.toInt ∧ k.toInt < if d.toInt = 0 then (mH σ m).toInt else (mW σ m).toInt)
def dtsN (σ : Sx) (m d k : Int32) : Int := if d.toInt = 0 then rcN (mF σ m) 0 k.toInt (mW σ m).toInt 1 else rcN (mF σ m) k.toInt 0 1 (mH σ m).toInt
noncomputable def dtsR (σ : Sx) (m d k : Int32) : Int := @ite _ (dtsV σ m d k) (Classical.propDecidable _) (dtsN σ m d k) (-1)
theorem dts_n {σ : Sx} {m d k : Int32} (h : ¬ dtsV σ m d k) : dtsR σ m d k = -1 := if_neg h
theorem dts_y {σ : Sx} {m d k : Int32} (h : dtsV σ m d k) : dtsR σ m d k = dtsN σ m d k := if_pos h
theorem rc_congr {f g : Nat → Int64} (e : ∀ k, k < 80 → f k = g k) (x y w h : Int) : rcN f x y w h = rcN g x y w h := by
  unfold rcN
  rw [cnt_congr (D := rcD f x y w h) (E := rcD g x y w h) (fun X Y _ _ _ _ => by unfold rcD; rw [md_congr e])]
theorem rc_in {f : Nat → Int64} {x y w h X Y : Int} (hx : x ≤ X ∧ X < x + w) (hy : y ≤ Y ∧ Y < y + h) : rcD f x y w h X Y = md f X Y := by
  unfold rcD
  rw [decide_eq_true ⟨hx, hy.1, hy.2⟩, Bool.true_and]
theorem tru_bi {a b : Int32} {v : Bool} (h : a.toInt = bi v) (k : (a.toInt = 0 → b.toInt = 0) ∧ (¬ a.toInt = 0 → b.toInt = 1)) : b.toInt = bi v := by
  cases v
  · exact k.1 h
  · exact k.2 (by rw [h]; decide)
/-! the number of places in common -/
def cmD (f g : Nat → Int64) (dx dy X Y : Int) : Bool := md f X Y && md g (X - dx) (Y - dy)
def cmN (f g : Nat → Int64) (dx dy : Int) : Int := (cntD (cmD f g dx dy) : Int)
theorem cm_t {f g : Nat → Int64} {dx dy X Y : Int} : cmD f g dx dy X Y = true ↔ md f X Y = true ∧ md g (X - dx) (Y - dy) = true := by
  unfold cmD
  rw [Bool.and_eq_true]
theorem cm_b (f g : Nat → Int64) (dx dy : Int) : 0 ≤ cmN f g dx dy ∧ cmN f g dx dy ≤ 5120 := by
  have := cnt_le (cmD f g dx dy)
  unfold cmN; omega
theorem cm_swap {f g : Nat → Int64} {dx dy : Int} : cmN f g dx dy = cmN g f (-dx) (-dy) := by
  unfold cmN
  rw [cnt_shift (D := cmD f g dx dy) (E := cmD g f (-dx) (-dy)) (dx := dx) (dy := dy) (fun x y q => md_rng (cm_t.mp q).1) (fun x y q => md_rng (cm_t.mp q).1) (fun x y => by
    unfold cmD
    rw [Bool.and_comm, show x - -dx = x + dx by omega, show y - -dy = y + dy by omega, Int.add_sub_cancel, Int.add_sub_cancel])]
theorem cm_congr {f g f2 g2 : Nat → Int64} (e : ∀ k, k < 80 → f k = f2 k) (e2 : ∀ k, k < 80 → g k = g2 k) (dx dy : Int) : cmN f g dx dy = cmN f2 g2 dx dy := by
  unfold cmN
  rw [cnt_congr (D := cmD f g dx dy) (E := cmD f2 g2 dx dy) (fun X Y _ _ _ _ => by unfold cmD; rw [md_congr e, md_congr e2])]
theorem cm_z {f g : Nat → Int64} {dx dy : Int} (h : ¬ ovl f g dx dy) : cmN f g dx dy = 0 := by
  unfold cmN
  rw [cnt_z.mpr (fun x y _ _ _ _ => by
    cases q : cmD f g dx dy x y with
    | false => rfl
    | true => exact absurd ⟨x, y, cm_t.mp q⟩ h)]
  rfl
theorem cm_pos {f g : Nat → Int64} {dx dy : Int} : 0 < cmN f g dx dy ↔ ovl f g dx dy := by
  constructor
  · intro h
    exact Classical.byContradiction (fun w => by rw [cm_z w] at h; omega)
  · rintro ⟨x, y, p, q⟩
    have m := md_rng p
    have n : ¬ cntD (cmD f g dx dy) = 0 := fun z => by
      have k := cnt_z.mp z x y m.1.1 m.1.2 m.2.1 m.2.2
      rw [cm_t.mpr ⟨p, q⟩] at k; cases k
    unfold cmN; omega
theorem cm_lo {f g : Nat → Int64} {dx dy : Int} {r k : Nat} {a lo s z : Int64} {c : Int32} (hr : r < 40) (hk : k < 40) (ek : (k : Int) = (r : Int) - dy) (hc : c.toInt = dx) (h0 : 0 ≤ dx) (h1 : dx < 64) (ea : a = f (2 * r)) (el : lo = g (2 * k)) (es : s = lo <<< (c.toInt64 &&& 63)) (ez : z = a &&& s) : z = mkw (cmD f g dx dy) (2 * r) := by
  apply b64_ext
  intro i hi
  rw [b64_mkw (by omega) hi, b64_and ez, b64_shl es (k := dx.toNat) (by omega) (by omega), show 2 * r % 2 = 0 by omega, show 2 * r / 2 = r by omega]
  unfold cmD
  rw [← ek, md_row hr ea rfl, dt_a (by omega) (by omega), show (((64 * 0 + i : Nat) : Int)).toNat = i by omega]
  congr 1
  by_cases q : i < dx.toNat
  · rw [md_x (by omega), decide_eq_true q, Bool.not_true, Bool.and_false, Bool.false_and]
  · rw [md_row hk el rfl, dt_a (by omega) (by omega), decide_eq_true hi, decide_eq_false q, Bool.not_false, Bool.true_and, Bool.true_and]
    congr 1; omega
theorem cm_lo0 {f g : Nat → Int64} {dx dy : Int} {r : Nat} (hr : r < 40) (h : 64 ≤ dx) : mkw (cmD f g dx dy) (2 * r) = 0 := by
  apply b64_ext
  intro i hi
  rw [b64_mkw (by omega) hi, b64_0, show 2 * r % 2 = 0 by omega]
  unfold cmD
  rw [md_x (x := _ - dx) (by omega), Bool.and_false]
theorem cm_hi {f g : Nat → Int64} {dx dy : Int} {r k : Nat} {b lo hi s z : Int64} (hr : r < 40) (hk : k < 40) (ek : (k : Int) = (r : Int) - dy) (eb : b = f (2 * r + 1)) (el : lo = g (2 * k)) (eh : hi = g (2 * k + 1)) (hs : ∀ i : Nat, i < 64 → b64 s i = dt lo hi ((i : Int) + 64 - dx)) (ez : z = b &&& s) : z = mkw (cmD f g dx dy) (2 * r + 1) := by
  apply b64_ext
  intro i hi
  rw [b64_mkw (by omega) hi, b64_and ez, hs i hi, show (2 * r + 1) % 2 = 1 by omega, show (2 * r + 1) / 2 = r by omega]
  unfold cmD
  rw [← ek, md_row hr rfl eb, dt_b (x := ((64 * 1 + i : Nat) : Int)) (by omega), show (((64 * 1 + i : Nat) : Int)).toNat - 64 = i by omega, md_row hk el eh]
  congr 2; omega
theorem cm_row {f g : Nat → Int64} {dx dy : Int} {a b p q s0 s1 u v : Int64} {t : Int} (r k : Nat) (hr : r < 40) (hk : k < 40) (ek : (k : Int) = (r : Int) - dy) (ea : a = f (2 * r)) (eb : b = f (2 * r + 1)) (ep : p = g (2 * k)) (eq : q = g (2 * k + 1)) (h0 : ∀ i : Nat, i < 64 → b64 s0 i = dt p q ((i : Int) - dx)) (h1 : ∀ i : Nat, i < 64 → b64 s1 i = dt p q ((i : Int) + 64 - dx)) (eu : u = a &&& s0) (ev : v = b &&& s1) (t0 : 0 ≤ t) (t1 : t < 128) : dt u v t = cmD f g dx dy t (r : Int) := by
  unfold cmD
  rw [dt_and eu ev, sh_row h0 h1 t0 t1, ← ek, md_row hr ea eb, md_row hk ep eq]
def coN (c : Fx) (a b : Nat) (dx dy : Int) : Int := cmN (mkw (shp c a)) (mkw (shp c b)) (bX c b - bX c a - dx) (bY c b - bY c a - dy)
def cmnR (σ : Sx) (a b : Int32) : Prop := twV σ a b
noncomputable def comR (σ : Sx) (a b : Int32) : Int := @ite _ (twV σ a b) (Classical.propDecidable _) (coN σ.1 a.toInt.toNat b.toInt.toNat 0 0) (-1)
theorem com_n {σ : Sx} {a b : Int32} (h : ¬ twV σ a b) : comR σ a b = -1 := if_neg h
theorem com_y {σ : Sx} {a b : Int32} (h : twV σ a b) : comR σ a b = coN σ.1 a.toInt.toNat b.toInt.toNat 0 0 := if_pos h
def sloN (c : Fx) (a b : Nat) (w : Int) : Int := if w = 0 then coN c a b 1 0 - coN c a b (-1) 0 else coN c a b 0 1 - coN c a b 0 (-1)
noncomputable def sloR (σ : Sx) (a b w : Int32) : Int := @ite _ (mtV σ a b w) (Classical.propDecidable _) (sloN σ.1 a.toInt.toNat b.toInt.toNat w.toInt) (-2000000)
theorem slo_n {σ : Sx} {a b w : Int32} (h : ¬ mtV σ a b w) : sloR σ a b w = -2000000 := if_neg h
theorem slo_y {σ : Sx} {a b w : Int32} (h : mtV σ a b w) : sloR σ a b w = sloN σ.1 a.toInt.toNat b.toInt.toNat w.toInt := if_pos h
/-! the place with most dots -/
def sc_ (W H Y X x y : Int) : Prop := ((0 ≤ x ∧ x ≤ W) ∧ 0 ≤ y ∧ y ≤ H) ∧ (y < Y ∨ (y = Y ∧ x < X))
def mxI (V : Int → Int → Int) (W H Y X d mx my : Int) : Prop := (∀ x y, sc_ W H Y X x y → V x y ≤ d) ∧ (∀ x y, sc_ W H Y X x y → (y < my ∨ (y = my ∧ x < mx)) → V x y < d) ∧ ((d = -1 ∧ ∀ x y, ¬ sc_ W H Y X x y) ∨ (sc_ W H Y X mx my ∧ d = V mx my))
theorem mx_0 {V : Int → Int → Int} {W H mx my : Int} : mxI V W H 0 0 (-1) mx my := by
  have n : ∀ x y, ¬ sc_ W H 0 0 x y := fun x y h => by unfold sc_ at h; omega
  exact ⟨fun x y h => absurd h (n x y), fun x y h => absurd h (n x y), Or.inl ⟨rfl, n⟩⟩
theorem mx_mv {V : Int → Int → Int} {W H Y X Y1 X1 d mx my : Int} (h : mxI V W H Y X d mx my) (e : ∀ x y, sc_ W H Y1 X1 x y ↔ sc_ W H Y X x y) : mxI V W H Y1 X1 d mx my := by
  refine ⟨fun x y q => h.1 x y ((e x y).mp q), fun x y q => h.2.1 x y ((e x y).mp q), ?_⟩
  rcases h.2.2 with ⟨a, b⟩ | ⟨a, b⟩
  · exact Or.inl ⟨a, fun x y q => b x y ((e x y).mp q)⟩
  · exact Or.inr ⟨(e mx my).mpr a, b⟩
theorem mx_nl {V : Int → Int → Int} {W H Y X Y1 d mx my : Int} (h : mxI V W H Y X d mx my) (hx : W < X) (hy : Y1 = Y + 1) : mxI V W H Y1 0 d mx my := mx_mv h (fun x y => by unfold sc_; omega)
theorem mx_new {V : Int → Int → Int} {W H Y X X1 d mx my v : Int} (h : mxI V W H Y X d mx my) (hv : v = V X Y) (l : d < v) (hx : 0 ≤ X ∧ X ≤ W) (hy : 0 ≤ Y ∧ Y ≤ H) (h1 : X1 = X + 1) : mxI V W H Y X1 v X Y := by
  have k : ∀ x y, sc_ W H Y X1 x y → sc_ W H Y X x y ∨ (x = X ∧ y = Y) := fun x y q => by unfold sc_ at q ⊢; omega
  refine ⟨fun x y q => ?_, fun x y q z => ?_, Or.inr ⟨by unfold sc_; omega, hv⟩⟩
  · rcases k x y q with w | ⟨rfl, rfl⟩
    · have := h.1 x y w; omega
    · omega
  · rcases k x y q with w | ⟨rfl, rfl⟩
    · have := h.1 x y w; omega
    · omega
theorem mx_old {V : Int → Int → Int} {W H Y X X1 d mx my v : Int} (h : mxI V W H Y X d mx my) (hv : v = V X Y) (l : v ≤ d) (v0 : 0 ≤ v) (h1 : X1 = X + 1) : mxI V W H Y X1 d mx my := by
  have k : ∀ x y, sc_ W H Y X1 x y → sc_ W H Y X x y ∨ (x = X ∧ y = Y) := fun x y q => by unfold sc_ at q ⊢; omega
  rcases h.2.2 with ⟨a, b⟩ | ⟨a, b⟩
  · omega
  · refine ⟨fun x y q => ?_, fun x y q z => ?_, Or.inr ⟨by unfold sc_ at a ⊢; omega, b⟩⟩
    · rcases k x y q with w | ⟨rfl, rfl⟩
      · exact h.1 x y w
      · omega
    · rcases k x y q with w | ⟨rfl, rfl⟩
      · exact h.2.1 x y w z
      · unfold sc_ at a; omega
def dnF (V : Int → Int → Int) (W H d mx my : Int) : Prop := ((0 ≤ mx ∧ mx ≤ W) ∧ 0 ≤ my ∧ my ≤ H) ∧ d = V mx my ∧ ∀ x y : Int, ((0 ≤ x ∧ x ≤ W) ∧ 0 ≤ y ∧ y ≤ H) → V x y ≤ d ∧ ((y < my ∨ (y = my ∧ x < mx)) → V x y < d)
theorem mx_end {V : Int → Int → Int} {W H Y d mx my : Int} (h : mxI V W H Y 0 d mx my) (hy : H < Y) (hw : 0 ≤ W) (hh : 0 ≤ H) : dnF V W H d mx my := by
  rcases h.2.2 with ⟨a, b⟩ | ⟨a, b⟩
  · exact absurd (show sc_ W H Y 0 0 0 by unfold sc_; omega) (b 0 0)
  · exact ⟨a.1, b, fun x y q => ⟨h.1 x y ⟨q, by omega⟩, h.2.1 x y ⟨q, by omega⟩⟩⟩
theorem dn_uni {V : Int → Int → Int} {W H d mx my d2 mx2 my2 : Int} (h : dnF V W H d mx my) (k : dnF V W H d2 mx2 my2) : d = d2 ∧ mx = mx2 ∧ my = my2 := by
  obtain ⟨b, e, f⟩ := h
  obtain ⟨b', e', f'⟩ := k
  have p := f mx2 my2 b'
  have q := f' mx my b
  have ed : d = d2 := by omega
  subst ed
  have r : my = my2 ∧ mx = mx2 := by
    rcases Int.lt_trichotomy my my2 with w | w | w
    · have := q.2 (Or.inl w); omega
    · rcases Int.lt_trichotomy mx mx2 with z | z | z
      · have := q.2 (Or.inr ⟨w, z⟩); omega
      · exact ⟨w, z⟩
      · have := p.2 (Or.inr ⟨w.symm, z⟩); omega
    · have := p.2 (Or.inl w); omega
  exact ⟨rfl, r.2, r.1⟩
def dnV (σ : Sx) (m w h t : Int32) : Prop := mK σ m ∧ (1 ≤ w.toInt ∧ w.toInt ≤ (mW σ m).toInt) ∧ (1 ≤ h.toInt ∧ h.toInt ≤ (mH σ m).toInt) ∧ (0 ≤ t.toInt ∧ t.toInt ≤ 2)
def dnN (σ : Sx) (m w h : Int32) (x y : Int) : Int := rcN (mF σ m) x y w.toInt h.toInt
def dnR (σ : Sx) (m w h t r : Int32) : Prop := (dnV σ m w h t → ∃ d mx my, dnF (dnN σ m w h) ((mW σ m).toInt - w.toInt) ((mH σ m).toInt - h.toInt) d mx my ∧ r.toInt = if t.toInt = 0 then d else if t.toInt = 1 then mx else my) ∧ (¬ dnV σ m w h t → r.toInt = -1)
theorem dnr_uni {σ : Sx} {m w h t r s : Int32} (a : dnR σ m w h t r) (k : dnR σ m w h t s) : r = s := by
  by_cases q : dnV σ m w h t
  · obtain ⟨d, x, y, f, e⟩ := a.1 q
    obtain ⟨d2, x2, y2, f2, e2⟩ := k.1 q
    obtain ⟨rfl, rfl, rfl⟩ := dn_uni f f2
    exact Int32.toInt_inj.mp (e.trans e2.symm)
  · exact Int32.toInt_inj.mp ((a.2 q).trans (k.2 q).symm)
/-! how many moves have a place in common -/
noncomputable def nSh (P : Int → Int → Prop) : Nat → Int
  | 0 => 0
  | t + 1 => nSh P t + @ite _ (P (((t % 300 : Nat) : Int) - 150) (((t / 300 : Nat) : Int) - 50)) (Classical.propDecidable _) 1 0
def ix_ (Y X : Int) : Nat := (300 * (Y + 50) + (X + 150)).toNat
theorem nSh_b (P : Int → Int → Prop) (t : Nat) : 0 ≤ nSh P t ∧ nSh P t ≤ (t : Int) := by
  induction t with
  | zero => exact ⟨Int.le_refl _, Int.le_refl _⟩
  | succ t ih =>
    show 0 ≤ nSh P t + _ ∧ nSh P t + _ ≤ _
    split <;> omega
theorem nSh_skip {P : Int → Int → Prop} {a : Nat} : ∀ n, (∀ t : Nat, a ≤ t → t < a + n → ¬ P (((t % 300 : Nat) : Int) - 150) (((t / 300 : Nat) : Int) - 50)) → nSh P (a + n) = nSh P a := by
  intro n
  induction n with
  | zero => intro _; rfl
  | succ n ih =>
    intro h
    show nSh P (a + n) + @ite _ (P ((((a + n) % 300 : Nat) : Int) - 150) ((((a + n) / 300 : Nat) : Int) - 50)) (Classical.propDecidable _) 1 0 = _
    rw [if_neg (h (a + n) (by omega) (by omega)), ih (fun t p q => h t p (by omega))]; omega
theorem nSh_mv {P : Int → Int → Prop} {Y X Y1 X1 : Int} (hl : ix_ Y X ≤ ix_ Y1 X1) (h : ∀ x y : Int, P x y → (-150 ≤ x ∧ x < 150) → -50 ≤ y → ix_ y x < ix_ Y X ∨ ix_ Y1 X1 ≤ ix_ y x) : nSh P (ix_ Y1 X1) = nSh P (ix_ Y X) := by
  have q := nSh_skip (P := P) (a := ix_ Y X) (ix_ Y1 X1 - ix_ Y X) (fun t a b p => by
    have k := h _ _ p (by omega) (by omega)
    have e : ix_ (((t / 300 : Nat) : Int) - 50) (((t % 300 : Nat) : Int) - 150) = t := by unfold ix_; omega
    rw [e] at k
    omega)
  rw [show ix_ Y X + (ix_ Y1 X1 - ix_ Y X) = ix_ Y1 X1 by omega] at q
  exact q
theorem nSh_lo {P : Int → Int → Prop} {Y X : Int} (h : ∀ x y : Int, P x y → (-150 ≤ x ∧ x < 150) → -50 ≤ y → ix_ Y X ≤ ix_ y x) : nSh P (ix_ Y X) = 0 := by
  have q := nSh_skip (P := P) (a := 0) (ix_ Y X) (fun t a b p => by
    have k := h _ _ p (by omega) (by omega)
    have e : ix_ (((t / 300 : Nat) : Int) - 50) (((t % 300 : Nat) : Int) - 150) = t := by unfold ix_; omega
    rw [e] at k
    omega)
  rw [show 0 + ix_ Y X = ix_ Y X by omega] at q
  exact q
theorem nSh_yes {P : Int → Int → Prop} {Y X X1 : Int} (hx : -150 ≤ X ∧ X < 150) (hy : -50 ≤ Y) (h1 : X1 = X + 1) (p : P X Y) : nSh P (ix_ Y X1) = nSh P (ix_ Y X) + 1 := by
  have e : ix_ Y X1 = ix_ Y X + 1 := by unfold ix_; omega
  rw [e]
  show nSh P (ix_ Y X) + _ = _
  rw [if_pos (by
    have a : ((ix_ Y X % 300 : Nat) : Int) - 150 = X := by unfold ix_; omega
    have b : ((ix_ Y X / 300 : Nat) : Int) - 50 = Y := by unfold ix_; omega
    rw [a, b]; exact p)]
theorem nSh_no {P : Int → Int → Prop} {Y X X1 : Int} (hx : -150 ≤ X ∧ X < 150) (hy : -50 ≤ Y) (h1 : X1 = X + 1) (p : ¬ P X Y) : nSh P (ix_ Y X1) = nSh P (ix_ Y X) := by
  have e : ix_ Y X1 = ix_ Y X + 1 := by unfold ix_; omega
  rw [e]
  show nSh P (ix_ Y X) + _ = _
  rw [if_neg (by
    have a : ((ix_ Y X % 300 : Nat) : Int) - 150 = X := by unfold ix_; omega
    have b : ((ix_ Y X / 300 : Nat) : Int) - 50 = Y := by unfold ix_; omega
    rw [a, b]; exact p)]
  omega
theorem ovl_b {w h w2 h2 : Int} {f g : Nat → Int64} {dx dy : Int} (a : okm w h f) (b : okm w2 h2 g) (o : ovl f g dx dy) : (1 - w2 ≤ dx ∧ dx ≤ w - 1) ∧ (1 - h2 ≤ dy ∧ dy ≤ h - 1) := by
  obtain ⟨x, y, p, q⟩ := o
  have k := md_b a.2.2 x y p
  have l := md_b b.2.2 _ _ q
  omega
theorem mm_lo {p q s d z : Int64} {dx : Int} (hs : ∀ i : Nat, i < 64 → b64 s i = dt p q ((i : Int) - dx)) (ez : z = s &&& d) : ¬ z = 0 ↔ ∃ i : Nat, i < 64 ∧ dt p q ((i : Int) - dx) = true ∧ b64 d i = true := by
  constructor
  · intro h
    obtain ⟨t, l1, l2, -⟩ := low_ex h
    rw [b64_and ez, hs t l1, Bool.and_eq_true] at l2
    exact ⟨t, l1, l2⟩
  · rintro ⟨i, hi, a, b⟩ e
    have k : b64 z i = true := by rw [b64_and ez, hs i hi, a, b]; rfl
    rw [e, b64_0] at k; cases k
theorem mm_hi {p q s d z : Int64} {dx : Int} (hs : ∀ i : Nat, i < 64 → b64 s i = dt p q ((i : Int) + 64 - dx)) (ez : z = s &&& d) : ¬ z = 0 ↔ ∃ i : Nat, i < 64 ∧ dt p q ((i : Int) + 64 - dx) = true ∧ b64 d i = true := by
  constructor
  · intro h
    obtain ⟨t, l1, l2, -⟩ := low_ex h
    rw [b64_and ez, hs t l1, Bool.and_eq_true] at l2
    exact ⟨t, l1, l2⟩
  · rintro ⟨i, hi, a, b⟩ e
    have k : b64 z i = true := by rw [b64_and ez, hs i hi, a, b]; rfl
    rw [e, b64_0] at k; cases k
def shiV (σ : Sx) (a b : Int32) : Prop := mK σ a ∧ mK σ b
def shiP (σ : Sx) (a b : Int32) (x y : Int) : Prop := ovl (mF σ b) (mF σ a) x y
noncomputable def shiR (σ : Sx) (a b : Int32) : Int := @ite _ (shiV σ a b) (Classical.propDecidable _) (nSh (shiP σ a b) (ix_ 50 0)) (-1)
theorem shi_n {σ : Sx} {a b : Int32} (h : ¬ shiV σ a b) : shiR σ a b = -1 := if_neg h
theorem shi_y {σ : Sx} {a b : Int32} (h : shiV σ a b) : shiR σ a b = nSh (shiP σ a b) (ix_ 50 0) := if_pos h
/-! how many places of the way between two bodies' middles a third one covers -/
noncomputable def nK (P : Int → Prop) : Nat → Int
  | 0 => 0
  | n + 1 => nK P n + @ite _ (P (n : Int)) (Classical.propDecidable _) 1 0
theorem nK_b (P : Int → Prop) (n : Nat) : 0 ≤ nK P n ∧ nK P n ≤ (n : Int) := by
  induction n with
  | zero => exact ⟨Int.le_refl _, Int.le_refl _⟩
  | succ t ih =>
    show 0 ≤ nK P t + _ ∧ nK P t + _ ≤ _
    split <;> omega
theorem nK_0 {P : Int → Prop} {k : Int} (h : k ≤ 0) : nK P k.toNat = 0 := by
  rw [show k.toNat = 0 by omega]; rfl
theorem nK_yes {P : Int → Prop} {k k1 : Int} (h0 : 0 ≤ k) (e : k1 = k + 1) (p : P k) : nK P k1.toNat = nK P k.toNat + 1 := by
  rw [e, show (k + 1).toNat = k.toNat + 1 by omega]
  show nK P k.toNat + _ = _
  rw [if_pos (by rw [show ((k.toNat : Nat) : Int) = k by omega]; exact p)]
theorem nK_no {P : Int → Prop} {k k1 : Int} (h0 : 0 ≤ k) (e : k1 = k + 1) (p : ¬ P k) : nK P k1.toNat = nK P k.toNat := by
  rw [e, show (k + 1).toNat = k.toNat + 1 by omega]
  show nK P k.toNat + _ = _
  rw [if_neg (by rw [show ((k.toNat : Nat) : Int) = k by omega]; exact p)]
  omega
def thP (c : Fx) (a b : Nat) (X Y : Int32) : Prop := ∃ i : Nat, (¬ i = a ∧ ¬ i = b) ∧ cvP c X Y i
abbrev B4 := Int × Int × Int × Int
def mdX (e : B4) : Int := (e.1 + e.2.2.1) / 2
def mdY (e : B4) : Int := (e.2.1 + e.2.2.2) / 2
def snD (e f : B4) : Int := stI (mdX f - mdX e) (mdY f - mdY e)
def snX (e f : B4) (k : Int) : Int32 := Int32.ofInt (mdX e + byI k (mdX f - mdX e) (snD e f))
def snY (e f : B4) (k : Int) : Int32 := Int32.ofInt (mdY e + byI k (mdY f - mdY e) (snD e f))
def snP (c : Fx) (a b : Nat) (e f : B4) (k : Int) : Prop := thP c a b (snX e f k) (snY e f k)
def snV (σ : Sx) (a b : Int32) : Prop := twV σ a b ∧ (∃ x y, atD σ.1 a.toInt.toNat x y = true) ∧ ∃ x y, atD σ.1 b.toInt.toNat x y = true
def snA (σ : Sx) (a b r : Int32) : Prop := (snV σ a b → ∀ e f, exD (atD σ.1 a.toInt.toNat) e → exD (atD σ.1 b.toInt.toNat) f → r.toInt = nK (snP σ.1 a.toInt.toNat b.toInt.toNat e f) (snD e f + 1).toNat) ∧ (¬ snV σ a b → r.toInt = -1)
def snE (σ : Sx) (a b r : Int32) : Prop := (snV σ a b → ∃ e f, exD (atD σ.1 a.toInt.toNat) e ∧ exD (atD σ.1 b.toInt.toNat) f ∧ r.toInt = nK (snP σ.1 a.toInt.toNat b.toInt.toNat e f) (snD e f + 1).toNat) ∧ (¬ snV σ a b → r.toInt = -1)
theorem sn_uni {σ : Sx} {a b r s : Int32} (h : snA σ a b r) (k : snE σ a b s) : r = s := by
  by_cases q : snV σ a b
  · obtain ⟨e, f, p1, p2, p3⟩ := k.1 q
    exact Int32.toInt_inj.mp ((h.1 q e f p1 p2).trans p3.symm)
  · exact Int32.toInt_inj.mp ((h.2 q).trans (k.2 q).symm)
theorem at_bd {c : Fx} {b : Nat} {x y : Int} (ok : okF c) (hb : b < (c.1 1).toInt.toNat) (h : atD c b x y = true) : (-999 ≤ x ∧ x ≤ 1098) ∧ -999 ≤ y ∧ y ≤ 1038 := by
  have o := okm_shp ok hb
  have o1 := o.1
  have o2 := o.2.1
  have q := ok.2.2.2 b hb
  have q1 := q.2.1
  have q2 := q.2.2.1
  unfold atD at h
  rw [← shp_md ok hb] at h
  have k := md_b o.2.2 _ _ h
  have e1 : bX c b = (c.1 (19 + 8 * b + 1)).toInt := rfl
  have e2 : bY c b = (c.1 (19 + 8 * b + 2)).toInt := rfl
  omega
theorem ex_bd {c : Fx} {b : Nat} {e : B4} (ok : okF c) (hb : b < (c.1 1).toInt.toNat) (h : exD (atD c b) e) : (-999 ≤ mdX e ∧ mdX e ≤ 1098) ∧ -999 ≤ mdY e ∧ mdY e ≤ 1038 := by
  obtain ⟨⟨y1, a1⟩, ⟨x2, a2⟩, ⟨y3, a3⟩, ⟨x4, a4⟩, -⟩ := h
  have p1 := at_bd ok hb a1
  have p2 := at_bd ok hb a2
  have p3 := at_bd ok hb a3
  have p4 := at_bd ok hb a4
  unfold mdX mdY
  omega
theorem ex_dot {D : Int → Int → Bool} {e : B4} (h : exD D e) : ∃ x y, D x y = true := by
  obtain ⟨⟨y1, a1⟩, -⟩ := h
  exact ⟨_, _, a1⟩
theorem th_lt {c : Fx} {a b : Nat} {X Y : Int32} : thP c a b X Y ↔ ∃ i : Nat, i < (c.1 1).toInt.toNat ∧ (¬ i = a ∧ ¬ i = b) ∧ cvP c X Y i := ⟨fun ⟨i, p, q⟩ => ⟨i, q.1, p, q⟩, fun ⟨i, _, p, q⟩ => ⟨i, p, q⟩⟩
/-! a mask's dots' places added up, and how far two of its dots are apart -/
def wS (c : Nat → Int) : Nat → Int
  | 0 => 0
  | n + 1 => wS c n + (n : Int) * c n
theorem wS_congr {c d : Nat → Int} (h : ∀ k, c k = d k) (n : Nat) : wS c n = wS d n := by
  rw [show c = d from funext h]
theorem wS_upd {c d : Nat → Int} {k : Nat} (h : ∀ j, ¬ j = k → d j = c j) (hk : d k = c k + 1) (n : Nat) : wS d n = wS c n + if k < n then (k : Int) else 0 := by
  induction n with
  | zero => rw [if_neg (by omega)]; rfl
  | succ n ih =>
    show wS d n + (n : Int) * d n = wS c n + (n : Int) * c n + _
    rw [ih]
    by_cases q : n = k
    · subst q
      rw [hk, Int.mul_add, Int.mul_one, if_neg (by omega), if_pos (by omega)]
      omega
    · rw [h n q]
      by_cases w : k < n
      · rw [if_pos w, if_pos (by omega)]; omega
      · rw [if_neg w, if_neg (by omega)]; omega
theorem wS_b {c : Nat → Int} (h : ∀ k, 0 ≤ c k ∧ c k ≤ 5120) : ∀ n : Nat, n ≤ 128 → 0 ≤ wS c n ∧ wS c n ≤ (n : Int) * 655360 := by
  intro n
  induction n with
  | zero => intro _; exact ⟨Int.le_refl _, Int.le_refl _⟩
  | succ n ih =>
    intro hn
    have q := ih (by omega)
    have k := h n
    have a : 0 ≤ (n : Int) * c n := Int.mul_nonneg (by omega) k.1
    have b : (n : Int) * c n ≤ (n : Int) * 5120 := Int.mul_le_mul_of_nonneg_left k.2 (by omega)
    show 0 ≤ wS c n + (n : Int) * c n ∧ wS c n + (n : Int) * c n ≤ _
    omega
theorem wS_z {c : Nat → Int} {n : Nat} (h : ∀ k, n ≤ k → c k = 0) : ∀ m : Nat, wS c (n + m) = wS c n := by
  intro m
  induction m with
  | zero => rfl
  | succ m ih =>
    show wS c (n + m) + ((n + m : Nat) : Int) * c (n + m) = _
    rw [ih, h (n + m) (by omega), Int.mul_zero, Int.add_zero]
theorem wS_0 {c : Nat → Int} (h : ∀ k, c k = 0) (n : Nat) : wS c n = 0 := by
  have q := wS_z (c := c) (n := 0) (fun k _ => h k) n
  rw [Nat.zero_add] at q
  exact q
def clD (D : Int → Int → Bool) (k : Nat) (X Y : Int) : Bool := decide (X = (k : Int)) && D X Y
def roD (D : Int → Int → Bool) (k : Nat) (X Y : Int) : Bool := decide (Y = (k : Int)) && D X Y
def lnD (i : Int) (D : Int → Int → Bool) (k : Nat) : Int := if i = 0 then (cntD (clD D k) : Int) else (cntD (roD D k) : Int)
def wZ (i : Int) (D : Int → Int → Bool) : Int := wS (lnD i D) 128
theorem lnD_b (i : Int) (D : Int → Int → Bool) (k : Nat) : 0 ≤ lnD i D k ∧ lnD i D k ≤ 5120 := by
  have a := cnt_le (clD D k)
  have b := cnt_le (roD D k)
  unfold lnD
  split <;> omega
theorem wZ_b (i : Int) (D : Int → Int → Bool) : 0 ≤ wZ i D ∧ wZ i D ≤ 83886080 := by
  have q := wS_b (lnD_b i D) 128 (Nat.le_refl _)
  unfold wZ; omega
theorem wZ_congr {i : Int} {D E : Int → Int → Bool} (h : ∀ x y : Int, 0 ≤ x → x < 128 → 0 ≤ y → y < 40 → D x y = E x y) : wZ i D = wZ i E := wS_congr (fun k => by
  unfold lnD
  rw [cnt_congr (D := clD D k) (E := clD E k) (fun x y a b c d => by unfold clD; rw [h x y a b c d]), cnt_congr (D := roD D k) (E := roD E k) (fun x y a b c d => by unfold roD; rw [h x y a b c d])]) 128
theorem wZ_0 {i : Int} {D : Int → Int → Bool} (h : ∀ x y : Int, D x y = false) : wZ i D = 0 := wS_0 (fun k => by
  unfold lnD
  rw [cnt_z.mpr (fun x y _ _ _ _ => by unfold clD; rw [h, Bool.and_false]), cnt_z.mpr (fun x y _ _ _ _ => by unfold roD; rw [h, Bool.and_false])]
  split <;> rfl) 128
theorem wZ_1 {i : Int} {D E : Int → Int → Bool} {x y : Int} (hx : 0 ≤ x ∧ x < 128) (hy : 0 ≤ y ∧ y < 40) (h0 : D x y = false) (h : ∀ X Y : Int, 0 ≤ X → X < 128 → 0 ≤ Y → Y < 40 → E X Y = (D X Y || decide (X = x ∧ Y = y))) : wZ i E = wZ i D + if i = 0 then x else y := by
  unfold wZ
  by_cases hi : i = 0
  · rw [wS_upd (c := lnD i D) (d := lnD i E) (k := x.toNat) (fun j hj => by
      unfold lnD; rw [if_pos hi, if_pos hi, cnt_congr (D := clD E j) (E := clD D j) (fun X Y a b c d => by
        unfold clD
        rw [h X Y a b c d]
        by_cases w : X = (j : Int)
        · rw [decide_eq_false (show ¬ (X = x ∧ Y = y) by omega), Bool.or_false]
        · rw [decide_eq_false w, Bool.false_and, Bool.false_and])]) (by
      unfold lnD; rw [if_pos hi, if_pos hi, cnt_1 (D := clD D x.toNat) (E := clD E x.toNat) hx hy (by unfold clD; rw [h0, Bool.and_false]) (fun X Y a b c d => by
        unfold clD
        rw [h X Y a b c d]
        by_cases w : X = ((x.toNat : Nat) : Int)
        · rw [decide_eq_true w, Bool.true_and, Bool.true_and]
        · rw [decide_eq_false w, Bool.false_and, Bool.false_and, decide_eq_false (show ¬ (X = x ∧ Y = y) by omega)]; rfl)]
      omega), if_pos (by omega), if_pos hi]
    omega
  · rw [wS_upd (c := lnD i D) (d := lnD i E) (k := y.toNat) (fun j hj => by
      unfold lnD; rw [if_neg hi, if_neg hi, cnt_congr (D := roD E j) (E := roD D j) (fun X Y a b c d => by
        unfold roD
        rw [h X Y a b c d]
        by_cases w : Y = (j : Int)
        · rw [decide_eq_false (show ¬ (X = x ∧ Y = y) by omega), Bool.or_false]
        · rw [decide_eq_false w, Bool.false_and, Bool.false_and])]) (by
      unfold lnD; rw [if_neg hi, if_neg hi, cnt_1 (D := roD D y.toNat) (E := roD E y.toNat) hx hy (by unfold roD; rw [h0, Bool.and_false]) (fun X Y a b c d => by
        unfold roD
        rw [h X Y a b c d]
        by_cases w : Y = ((y.toNat : Nat) : Int)
        · rw [decide_eq_true w, Bool.true_and, Bool.true_and]
        · rw [decide_eq_false w, Bool.false_and, Bool.false_and, decide_eq_false (show ¬ (X = x ∧ Y = y) by omega)]; rfl)]
      omega), if_pos (by omega), if_neg hi]
    omega
theorem ah_yes {D : Int → Int → Bool} {Y X X1 : Int} (h1 : X1 = X + 1) (p : D X Y = true) (x y : Int) : ahD D Y X1 x y = (ahD D Y X x y || decide (x = X ∧ y = Y)) := by
  unfold ahD
  by_cases w : x = X ∧ y = Y
  · rw [decide_eq_true w, Bool.or_true, decide_eq_true (by omega), w.1, w.2, p]; rfl
  · rw [decide_eq_false w, Bool.or_false]; congr 1; exact decide_eq_decide.mpr (by omega)
theorem ah_no {D : Int → Int → Bool} {Y X X1 : Int} (h1 : X1 = X + 1) (p : D X Y = false) (x y : Int) : ahD D Y X1 x y = ahD D Y X x y := by
  unfold ahD
  by_cases w : x = X ∧ y = Y
  · rw [w.1, w.2, p, Bool.and_false, Bool.and_false]
  · congr 1; exact decide_eq_decide.mpr (by omega)
theorem ah_me {D : Int → Int → Bool} {Y X : Int} : ahD D Y X X Y = false := by
  unfold ahD
  rw [decide_eq_false (by omega)]; rfl
theorem ah_mv {D : Int → Int → Bool} {y x y1 x1 : Int} (h : ∀ X Y, D X Y = true → ((Y < y1 ∨ (Y = y1 ∧ X < x1)) ↔ (Y < y ∨ (Y = y ∧ X < x)))) (X Y : Int) : ahD D y1 x1 X Y = ahD D y x X Y := by
  unfold ahD
  cases q : D X Y with
  | false => rw [Bool.and_false, Bool.and_false]
  | true => congr 1; exact decide_eq_decide.mpr (h X Y q)
theorem ah_lo {D : Int → Int → Bool} {y x : Int} (h : ∀ X Y, D X Y = true → y < Y ∨ (Y = y ∧ x ≤ X)) (X Y : Int) : ahD D y x X Y = false := by
  unfold ahD
  cases q : D X Y with
  | false => rw [Bool.and_false]
  | true => have := h X Y q; rw [decide_eq_false (by omega)]; rfl
theorem ah_hi {D : Int → Int → Bool} {y x : Int} (h : ∀ X Y, D X Y = true → Y < y ∨ (Y = y ∧ X < x)) (X Y : Int) : ahD D y x X Y = D X Y := by
  unfold ahD
  cases q : D X Y with
  | false => rw [Bool.and_false]
  | true => rw [decide_eq_true (h X Y q)]; rfl
theorem ah_t {D : Int → Int → Bool} {y x X Y : Int} : ahD D y x X Y = true ↔ (Y < y ∨ (Y = y ∧ X < x)) ∧ D X Y = true := by
  unfold ahD; rw [Bool.and_eq_true, decide_eq_true_iff]
theorem wZ_yes {i : Int} {D : Int → Int → Bool} {Y X X1 : Int} (hx : 0 ≤ X ∧ X < 128) (hy : 0 ≤ Y ∧ Y < 40) (h1 : X1 = X + 1) (p : D X Y = true) : wZ i (ahD D Y X1) = wZ i (ahD D Y X) + if i = 0 then X else Y := wZ_1 hx hy ah_me (fun x y _ _ _ _ => ah_yes h1 p x y)
theorem wZ_no {i : Int} {D : Int → Int → Bool} {Y X X1 : Int} (h1 : X1 = X + 1) (p : D X Y = false) : wZ i (ahD D Y X1) = wZ i (ahD D Y X) := wZ_congr (fun x y _ _ _ _ => ah_no h1 p x y)
/-- the line k of a mask, as the class counts it -/
theorem ln_row {f : Nat → Int64} {a b : Int64} {r : Nat} (hr : r < 40) (ha : a = f (2 * r)) (hb : b = f (2 * r + 1)) : cntD (roD (md f) r) = nb a + nb b := by
  have q := tr_row (D := roD (md f) r) (a := a) (b := b) (r := r) (r1 := r + 1) hr rfl (fun x _ _ => by rw [← md_row hr ha hb]; unfold roD; rw [decide_eq_true rfl]; rfl)
  rw [tr_lo (r := r) (by omega) (fun x y w => by unfold roD at w; rw [Bool.and_eq_true, decide_eq_true_iff] at w; omega), tr_hi (r := r + 1) (by omega) (fun x y w => by unfold roD at w; rw [Bool.and_eq_true, decide_eq_true_iff] at w; omega)] at q
  omega
theorem ln_col {w h : Int} {f : Nat → Int64} {k : Nat} (c : mcl w h f) : (cntD (clD (md f) k) : Int) = rcN f (k : Int) 0 1 h := by
  unfold rcN
  rw [cnt_congr (D := clD (md f) k) (E := rcD f (k : Int) 0 1 h) (fun X Y _ _ _ _ => by
    apply Bool.eq_iff_iff.mpr
    unfold clD
    rw [rc_t, Bool.and_eq_true, decide_eq_true_iff]
    exact ⟨fun q => ⟨by have := md_b c _ _ q.2; omega, q.2⟩, fun q => ⟨by omega, q.2⟩⟩)]
theorem ln_z {w h : Int} {f : Nat → Int64} {i : Int} (c : mcl w h f) {n : Nat} (hn : (if i = 0 then w else h) ≤ (n : Int)) (k : Nat) (hk : n ≤ k) : lnD i (md f) k = 0 := by
  unfold lnD
  by_cases hi : i = 0
  · rw [if_pos hi] at hn ⊢
    rw [cnt_z.mpr (fun X Y _ _ _ _ => by
      unfold clD
      cases q : md f X Y with
      | false => rw [Bool.and_false]
      | true => have := md_b c _ _ q; rw [decide_eq_false (by omega)]; rfl)]
    rfl
  · rw [if_neg hi] at hn ⊢
    rw [cnt_z.mpr (fun X Y _ _ _ _ => by
      unfold roD
      cases q : md f X Y with
      | false => rw [Bool.and_false]
      | true => have := md_b c _ _ q; rw [decide_eq_false (by omega)]; rfl)]
    rfl
theorem wZ_end {w h : Int} {f : Nat → Int64} {i : Int} (c : mcl w h f) {n : Nat} (hn : (if i = 0 then w else h) ≤ (n : Int)) (h2 : n ≤ 128) : wZ i (md f) = wS (lnD i (md f)) n := by
  have q := wS_z (ln_z c hn) (128 - n)
  rw [show n + (128 - n) = 128 by omega] at q
  exact q
theorem wS_s {c : Nat → Int} {k k1 v : Int} (hk : 0 ≤ k) (h1 : k1 = k + 1) (e : c k.toNat = v) : wS c k1.toNat = wS c k.toNat + k * v := by
  rw [h1, show (k + 1).toNat = k.toNat + 1 by omega]
  show wS c k.toNat + ((k.toNat : Nat) : Int) * c k.toNat = _
  rw [e, show ((k.toNat : Nat) : Int) = k by omega]
theorem wS_1 {c : Nat → Int} : wS c 1 = 0 := by
  show 0 + ((0 : Nat) : Int) * c 0 = 0
  rw [show ((0 : Nat) : Int) = 0 from rfl, Int.zero_mul]; rfl
/-- the ends of dots in x + y and in x - y -/
def xE (D : Int → Int → Bool) (a b c d : Int) : Prop := (∀ x y, D x y = true → (a ≤ x + y ∧ x + y ≤ b) ∧ c ≤ x - y ∧ x - y ≤ d) ∧ (∃ x y, D x y = true ∧ x + y = a) ∧ (∃ x y, D x y = true ∧ x + y = b) ∧ (∃ x y, D x y = true ∧ x - y = c) ∧ ∃ x y, D x y = true ∧ x - y = d
def frM (D : Int → Int → Bool) (r : Int) : Prop := ((∀ x y, D x y = false) ∧ r = 0) ∨ ((∃ x y u v, D x y = true ∧ D u v = true ∧ r = max (x - u) (u - x) + max (y - v) (v - y)) ∧ ∀ x y u v, D x y = true → D u v = true → max (x - u) (u - x) + max (y - v) (v - y) ≤ r)
theorem fr_uni {D : Int → Int → Bool} {r s : Int} (h : frM D r) (k : frM D s) : r = s := by
  rcases h with ⟨a, b⟩ | ⟨⟨x, y, u, v, p, q, e⟩, m⟩ <;> rcases k with ⟨a2, b2⟩ | ⟨⟨x2, y2, u2, v2, p2, q2, e2⟩, m2⟩
  · rw [b, b2]
  · rw [a] at p2; cases p2
  · rw [a2] at p; cases p
  · have k1 := m _ _ _ _ p2 q2
    have k2 := m2 _ _ _ _ p q
    omega
theorem fr_congr {D E : Int → Int → Bool} {r : Int} (e : ∀ x y, D x y = E x y) (h : frM D r) : frM E r := by
  rw [show E = D from funext fun x => funext fun y => (e x y).symm]; exact h
theorem xE_congr {D E : Int → Int → Bool} {a b c d : Int} (e : ∀ x y, E x y = D x y) (h : xE D a b c d) : xE E a b c d := by
  rw [show E = D from funext fun x => funext fun y => e x y]; exact h
theorem xE_far {D : Int → Int → Bool} {a b c d : Int} (h : xE D a b c d) : frM D (max (b - a) (d - c)) := by
  obtain ⟨al, ⟨x1, y1, p1, q1⟩, ⟨x2, y2, p2, q2⟩, ⟨x3, y3, p3, q3⟩, ⟨x4, y4, p4, q4⟩⟩ := h
  refine Or.inr ⟨?_, fun x y u v p q => ?_⟩
  · rcases Int.le_total (d - c) (b - a) with w | w
    · refine ⟨x2, y2, x1, y1, p2, p1, ?_⟩
      have k1 := al _ _ p1
      have k2 := al _ _ p2
      omega
    · refine ⟨x4, y4, x3, y3, p4, p3, ?_⟩
      have k1 := al _ _ p3
      have k2 := al _ _ p4
      omega
  · have k1 := al _ _ p
    have k2 := al _ _ q
    omega
/-- more dots at (X, Y), or in row Y -/
theorem xE_or {D E F : Int → Int → Bool} {a b c d a2 b2 c2 d2 : Int} (h : xE D a b c d) (k : xE E a2 b2 c2 d2) (e : ∀ x y, F x y = (D x y || E x y)) : xE F (min a a2) (max b b2) (min c c2) (max d d2) := by
  obtain ⟨al, ⟨x1, y1, p1, q1⟩, ⟨x2, y2, p2, q2⟩, ⟨x3, y3, p3, q3⟩, ⟨x4, y4, p4, q4⟩⟩ := h
  obtain ⟨bl, ⟨u1, v1, r1, s1⟩, ⟨u2, v2, r2, s2⟩, ⟨u3, v3, r3, s3⟩, ⟨u4, v4, r4, s4⟩⟩ := k
  have L : ∀ x y, D x y = true → F x y = true := fun x y p => by rw [e, p]; rfl
  have R : ∀ x y, E x y = true → F x y = true := fun x y p => by rw [e, p, Bool.or_true]
  refine ⟨fun x y p => ?_, ?_, ?_, ?_, ?_⟩
  · rw [e, Bool.or_eq_true] at p
    rcases p with p | p
    · have := al _ _ p; omega
    · have := bl _ _ p; omega
  · rcases Int.le_total a a2 with w | w
    · exact ⟨x1, y1, L _ _ p1, by omega⟩
    · exact ⟨u1, v1, R _ _ r1, by omega⟩
  · rcases Int.le_total b2 b with w | w
    · exact ⟨x2, y2, L _ _ p2, by omega⟩
    · exact ⟨u2, v2, R _ _ r2, by omega⟩
  · rcases Int.le_total c c2 with w | w
    · exact ⟨x3, y3, L _ _ p3, by omega⟩
    · exact ⟨u3, v3, R _ _ r3, by omega⟩
  · rcases Int.le_total d2 d with w | w
    · exact ⟨x4, y4, L _ _ p4, by omega⟩
    · exact ⟨u4, v4, R _ _ r4, by omega⟩
def rM (D : Int → Int → Bool) (n a b c d : Int) : Prop := (n = 0 ∧ (∀ x y, D x y = false) ∧ (a = 0 ∧ b = 0) ∧ c = 0 ∧ d = 0) ∨ (1 ≤ n ∧ xE D a b c d)
theorem rM_congr {D E : Int → Int → Bool} {n a b c d : Int} (e : ∀ x y, E x y = D x y) (h : rM D n a b c d) : rM E n a b c d := by
  rw [show E = D from funext fun x => funext fun y => e x y]; exact h
theorem rM_dot {D : Int → Int → Bool} {Y X X1 n n1 a b c d a1 b1 c1 d1 : Int} (h : rM (ahD D Y X) n a b c d) (p : D X Y = true) (h1 : X1 = X + 1) (hn : n1 = n + 1) (ha : (n = 0 → a1 = X + Y) ∧ (¬ n = 0 → a1 = min a (X + Y))) (hb : (n = 0 → b1 = X + Y) ∧ (¬ n = 0 → b1 = max b (X + Y))) (hc : (n = 0 → c1 = X - Y) ∧ (¬ n = 0 → c1 = min c (X - Y))) (hd : (n = 0 → d1 = X - Y) ∧ (¬ n = 0 → d1 = max d (X - Y))) : rM (ahD D Y X1) n1 a1 b1 c1 d1 := by
  have S : xE (fun x y => decide (x = X ∧ y = Y)) (X + Y) (X + Y) (X - Y) (X - Y) := ⟨fun x y q => by rw [decide_eq_true_iff] at q; omega, ⟨X, Y, decide_eq_true ⟨rfl, rfl⟩, rfl⟩, ⟨X, Y, decide_eq_true ⟨rfl, rfl⟩, rfl⟩, ⟨X, Y, decide_eq_true ⟨rfl, rfl⟩, rfl⟩, ⟨X, Y, decide_eq_true ⟨rfl, rfl⟩, rfl⟩⟩
  rcases h with ⟨n0, z, -, -⟩ | ⟨n0, e⟩
  · refine Or.inr ⟨by omega, ?_⟩
    rw [ha.1 n0, hb.1 n0, hc.1 n0, hd.1 n0]
    exact xE_congr (fun x y => by rw [ah_yes h1 p, z]; rfl) S
  · refine Or.inr ⟨by omega, ?_⟩
    rw [ha.2 (by omega), hb.2 (by omega), hc.2 (by omega), hd.2 (by omega)]
    exact xE_or e S (fun x y => ah_yes h1 p x y)
theorem rM_far {D : Int → Int → Bool} {n a b c d r : Int} (h : rM D n a b c d) (e : r = max (b - a) (d - c)) : frM D r := by
  rcases h with ⟨n0, z, z1, z2⟩ | ⟨n0, k⟩
  · exact Or.inl ⟨z, by omega⟩
  · rw [e]; exact xE_far k
theorem rM_b {D : Int → Int → Bool} {n a b c d : Int} (h : rM D n a b c d) (r : ∀ x y, D x y = true → (0 ≤ x ∧ x < 128) ∧ 0 ≤ y ∧ y < 40) : (-200 ≤ a ∧ a ≤ 200) ∧ (-200 ≤ b ∧ b ≤ 200) ∧ (-200 ≤ c ∧ c ≤ 200) ∧ -200 ≤ d ∧ d ≤ 200 := by
  rcases h with ⟨n0, z, z1, z2⟩ | ⟨n0, al, ⟨x1, y1, p1, q1⟩, ⟨x2, y2, p2, q2⟩, ⟨x3, y3, p3, q3⟩, ⟨x4, y4, p4, q4⟩⟩
  · omega
  · have r1 := r _ _ p1
    have r2 := r _ _ p2
    have r3 := r _ _ p3
    have r4 := r _ _ p4
    omega
def xC (D : Int → Int → Bool) (a b c d : Int) : Prop := ((∀ x y, D x y = false) ∧ (a = 140 ∧ b = -40) ∧ c = 140 ∧ d = -40) ∨ xE D a b c d
theorem xC_congr {D E : Int → Int → Bool} {a b c d : Int} (e : ∀ x y, E x y = D x y) (h : xC D a b c d) : xC E a b c d := by
  rw [show E = D from funext fun x => funext fun y => e x y]; exact h
theorem xC_row {D : Int → Int → Bool} {Y Y1 l u a b c d a1 b1 c1 d1 : Int} (h : xC (ahD D Y 0) a b c d) (r : ∀ x y, D x y = true → (0 ≤ x ∧ x < 100) ∧ 0 ≤ y ∧ y < 40) (pl : D l Y = true) (pu : D u Y = true) (al : ∀ x, D x Y = true → l ≤ x ∧ x ≤ u) (h1 : Y1 = Y + 1) (ha : a1 = min a (l + Y)) (hb : b1 = max b (u + Y)) (hc : c1 = min c (l - Y)) (hd : d1 = max d (u - Y)) : xC (ahD D Y1 0) a1 b1 c1 d1 := by
  have S : xE (fun x y => decide (y = Y) && D x y) (l + Y) (u + Y) (l - Y) (u - Y) := ⟨fun x y q => by rw [Bool.and_eq_true, decide_eq_true_iff] at q; have k := al x (q.1 ▸ q.2); omega, ⟨l, Y, by show (decide (Y = Y) && D l Y) = true; rw [decide_eq_true rfl, pl]; rfl, rfl⟩, ⟨u, Y, by show (decide (Y = Y) && D u Y) = true; rw [decide_eq_true rfl, pu]; rfl, rfl⟩, ⟨l, Y, by show (decide (Y = Y) && D l Y) = true; rw [decide_eq_true rfl, pl]; rfl, rfl⟩, ⟨u, Y, by show (decide (Y = Y) && D u Y) = true; rw [decide_eq_true rfl, pu]; rfl, rfl⟩⟩
  have e : ∀ x y, ahD D Y1 0 x y = (ahD D Y 0 x y || (decide (y = Y) && D x y)) := fun x y => by
    apply Bool.eq_iff_iff.mpr
    rw [Bool.or_eq_true, ah_t, ah_t, Bool.and_eq_true, decide_eq_true_iff]
    constructor
    · rintro ⟨k, p⟩
      have := r _ _ p
      rcases Int.lt_or_le y Y with w | w
      · exact Or.inl ⟨by omega, p⟩
      · exact Or.inr ⟨by omega, p⟩
    · rintro (⟨k, p⟩ | ⟨k, p⟩)
      · exact ⟨by omega, p⟩
      · exact ⟨by omega, p⟩
  rcases h with ⟨z, z1, z2⟩ | k
  · have k1 := r _ _ pl
    have k2 := r _ _ pu
    rw [show a1 = l + Y by omega, show b1 = u + Y by omega, show c1 = l - Y by omega, show d1 = u - Y by omega]
    exact Or.inr (xE_congr (fun x y => by rw [e, z]; rfl) S)
  · rw [ha, hb, hc, hd]
    exact Or.inr (xE_or k S e)
def spV (σ : Sx) (m k : Int32) : Prop := mK σ m ∧ 0 ≤ k.toInt ∧ k.toInt ≤ 2
def spR (σ : Sx) (m k r : Int32) : Prop := (spV σ m k → (k.toInt = 2 → frM (md (mF σ m)) r.toInt) ∧ (¬ k.toInt = 2 → r.toInt = wZ k.toInt (md (mF σ m)))) ∧ (¬ spV σ m k → r.toInt = -1)
theorem sp_uni {σ : Sx} {m k r s : Int32} (h : spR σ m k r) (g : spR σ m k s) : r = s := by
  by_cases q : spV σ m k
  · by_cases w : k.toInt = 2
    · exact Int32.toInt_inj.mp (fr_uni ((h.1 q).1 w) ((g.1 q).1 w))
    · exact Int32.toInt_inj.mp (((h.1 q).2 w).trans ((g.1 q).2 w).symm)
  · exact Int32.toInt_inj.mp ((h.2 q).trans (g.2 q).symm)
/-! the best place of a body on another -/
def bfr (Y X y x : Int) : Prop := y < Y ∨ (y = Y ∧ x < X)
def bsP (C : Int → Int → Int) (S x0 y0 d mx my : Int) : Prop := (d = 0 ∧ mx = x0 ∧ my = y0) ∨ (1 ≤ d ∧ C mx my = d ∧ ∀ X Y, bfr my mx Y X → C X Y < d ∨ C X Y < S)
def bsJ (C : Int → Int → Int) (S x0 y0 Y X d mx my : Int) : Prop := (∀ x y, bfr Y X y x → C x y ≤ d ∨ C x y < S) ∧ bsP C S x0 y0 d mx my
def bsF (C : Int → Int → Int) (x0 y0 d mx my : Int) : Prop := (∀ X Y, C X Y ≤ d) ∧ bsP C 0 x0 y0 d mx my
theorem bs_d {C : Int → Int → Int} {S x0 y0 d mx my : Int} (h : bsP C S x0 y0 d mx my) : 0 ≤ d := by
  rcases h with h | h
  · have := h.1; omega
  · have := h.1; omega
theorem bs_0 {C : Int → Int → Int} {S x0 y0 Y X : Int} (h : ∀ x y, bfr Y X y x → C x y ≤ 0) : bsJ C S x0 y0 Y X 0 x0 y0 := ⟨fun x y q => Or.inl (h x y q), Or.inl ⟨rfl, rfl, rfl⟩⟩
theorem bs_mv {C : Int → Int → Int} {S x0 y0 Y X Y1 X1 d mx my : Int} (h : bsJ C S x0 y0 Y X d mx my) (k : ∀ x y, bfr Y1 X1 y x → bfr Y X y x ∨ C x y ≤ 0 ∨ C x y ≤ d ∨ C x y < S) : bsJ C S x0 y0 Y1 X1 d mx my := by
  have d0 := bs_d h.2
  refine ⟨fun x y q => ?_, h.2⟩
  rcases k x y q with w | w | w | w
  · exact h.1 x y w
  · exact Or.inl (by omega)
  · exact Or.inl w
  · exact Or.inr w
theorem bs_new {C : Int → Int → Int} {S x0 y0 Y X X1 d v mx my : Int} (h : bsJ C S x0 y0 Y X d mx my) (e : v = C X Y) (q : d < v) (h1 : X1 = X + 1) : bsJ C S x0 y0 Y X1 v X Y := by
  have d0 := bs_d h.2
  refine ⟨fun x y w => ?_, Or.inr ⟨by omega, e.symm, fun x y w => ?_⟩⟩
  · by_cases z : bfr Y X y x
    · rcases h.1 x y z with a | a
      · exact Or.inl (by omega)
      · exact Or.inr a
    · have ex : x = X ∧ y = Y := by unfold bfr at w z; omega
      rw [ex.1, ex.2, ← e]; exact Or.inl (Int.le_refl _)
  · rcases h.1 x y w with a | a
    · exact Or.inl (by omega)
    · exact Or.inr a
theorem bs_end {C : Int → Int → Int} {S x0 y0 Y X d mx my : Int} (h : bsJ C S x0 y0 Y X d mx my) (nn : ∀ x y, 0 ≤ C x y) (k : ∀ x y, bfr Y X y x ∨ C x y ≤ 0) (hS : S ≤ 0 ∨ ∃ x y, C x y = S) : bsF C x0 y0 d mx my := by
  have d0 := bs_d h.2
  have Sd : S ≤ d := by
    rcases hS with w | ⟨x, y, w⟩
    · omega
    · rcases k x y with z | z
      · rcases h.1 x y z with a | a <;> omega
      · omega
  refine ⟨fun x y => ?_, ?_⟩
  · rcases k x y with z | z
    · rcases h.1 x y z with a | a <;> omega
    · omega
  · rcases h.2 with w | ⟨a, b, w⟩
    · exact Or.inl w
    · exact Or.inr ⟨a, b, fun x y z => Or.inl (by rcases w x y z with q | q <;> omega)⟩
theorem bs_uni {C : Int → Int → Int} {x0 y0 d mx my d2 mx2 my2 : Int} (nn : ∀ x y, 0 ≤ C x y) (h : bsF C x0 y0 d mx my) (k : bsF C x0 y0 d2 mx2 my2) : d = d2 ∧ mx = mx2 ∧ my = my2 := by
  rcases h.2 with ⟨a, b, c⟩ | ⟨a, b, c⟩ <;> rcases k.2 with ⟨a2, b2, c2⟩ | ⟨a2, b2, c2⟩
  · omega
  · have := h.1 mx2 my2; omega
  · have := k.1 mx my; omega
  · have e1 := h.1 mx2 my2
    have e2 := k.1 mx my
    have e : d = d2 := by omega
    subst e
    refine ⟨rfl, ?_⟩
    have n1 : ¬ bfr my mx my2 mx2 := fun q => by
      have z := nn mx2 my2
      rcases c mx2 my2 q with w | w <;> omega
    have n2 : ¬ bfr my2 mx2 my mx := fun q => by
      have z := nn mx my
      rcases c2 mx my q with w | w <;> omega
    unfold bfr at n1 n2
    omega
/-- bounds of numbers of places -/
theorem cnt_mono {D E : Int → Int → Bool} (h : ∀ x y, D x y = true → E x y = true) : cntD D ≤ cntD E := by
  rw [cnt_add (D := E) (D1 := D) (D2 := fun x y => E x y && !D x y) (fun x y _ _ _ _ => by
    have k := h x y
    cases p : D x y <;> cases q : E x y
    · rfl
    · rfl
    · rw [p, q] at k; exact absurd (k rfl) (by decide)
    · rfl) (fun x y q => by
    have k := q.2
    rw [q.1] at k
    simp at k)]
  omega
theorem cnt_one {D : Int → Int → Bool} {X Y : Int} (h : ∀ x y, D x y = true → x = X ∧ y = Y) : cntD D ≤ 1 := by
  by_cases q : D X Y = true ∧ (0 ≤ X ∧ X < 128) ∧ 0 ≤ Y ∧ Y < 40
  · have k := cnt_1 (D := fun _ _ => false) (E := D) q.2.1 q.2.2 rfl (fun x y _ _ _ _ => by
      by_cases w : x = X ∧ y = Y
      · rw [w.1, w.2, q.1, decide_eq_true ⟨rfl, rfl⟩]; rfl
      · rw [decide_eq_false w]
        cases z : D x y with
        | false => rfl
        | true => exact absurd (h x y z) w)
    have z : cntD (fun _ _ => false) = 0 := cnt_z.mpr (fun x y _ _ _ _ => rfl)
    omega
  · have z : cntD D = 0 := cnt_z.mpr (fun x y a b c d => by
      cases z : D x y with
      | false => rfl
      | true =>
        have e := h x y z
        rw [e.1, e.2] at z
        exact absurd ⟨z, by omega, by omega⟩ q)
    omega
theorem cnt_row {Y x0 : Int} : ∀ (n : Nat) {D : Int → Int → Bool}, (∀ x y, D x y = true → y = Y ∧ x0 ≤ x ∧ x < x0 + (n : Int)) → cntD D ≤ n := by
  intro n
  induction n with
  | zero =>
    intro D h
    rw [cnt_z.mpr (fun x y _ _ _ _ => by
      cases z : D x y with
      | false => rfl
      | true => have := h x y z; omega)]
    exact Nat.le_refl _
  | succ n ih =>
    intro D h
    rw [cnt_add (D := D) (D1 := fun x y => decide (x < x0 + (n : Int)) && D x y) (D2 := fun x y => !decide (x < x0 + (n : Int)) && D x y) (fun x y _ _ _ _ => by
      by_cases w : x < x0 + (n : Int)
      · rw [decide_eq_true w]; simp
      · rw [decide_eq_false w]; simp) (fun x y q => by
      by_cases w : x < x0 + (n : Int)
      · have k := q.2; rw [decide_eq_true w] at k; simp at k
      · have k := q.1; rw [decide_eq_false w] at k; simp at k)]
    have a := ih (D := fun x y => decide (x < x0 + (n : Int)) && D x y) (fun x y q => by
      rw [Bool.and_eq_true, decide_eq_true_iff] at q
      have := h x y q.2; omega)
    have b := cnt_one (D := fun x y => !decide (x < x0 + (n : Int)) && D x y) (X := x0 + (n : Int)) (Y := Y) (fun x y q => by
      rw [Bool.and_eq_true, Bool.not_eq_true', decide_eq_false_iff_not] at q
      have := h x y q.2; omega)
    omega
theorem cnt_box {x0 y0 : Int} {w : Nat} : ∀ (n : Nat) {D : Int → Int → Bool}, (∀ x y, D x y = true → (y0 ≤ y ∧ y < y0 + (n : Int)) ∧ x0 ≤ x ∧ x < x0 + (w : Int)) → (cntD D : Int) ≤ (n : Int) * (w : Int) := by
  intro n
  induction n with
  | zero =>
    intro D h
    rw [cnt_z.mpr (fun x y _ _ _ _ => by
      cases z : D x y with
      | false => rfl
      | true => have := h x y z; omega)]
    rw [show ((0 : Nat) : Int) = 0 from rfl, Int.zero_mul]; exact Int.le_refl _
  | succ n ih =>
    intro D h
    rw [cnt_add (D := D) (D1 := fun x y => decide (y < y0 + (n : Int)) && D x y) (D2 := fun x y => !decide (y < y0 + (n : Int)) && D x y) (fun x y _ _ _ _ => by
      by_cases w : y < y0 + (n : Int)
      · rw [decide_eq_true w]; simp
      · rw [decide_eq_false w]; simp) (fun x y q => by
      by_cases w : y < y0 + (n : Int)
      · have k := q.2; rw [decide_eq_true w] at k; simp at k
      · have k := q.1; rw [decide_eq_false w] at k; simp at k)]
    have a := ih (D := fun x y => decide (y < y0 + (n : Int)) && D x y) (fun x y q => by
      rw [Bool.and_eq_true, decide_eq_true_iff] at q
      have := h x y q.2; omega)
    have b := cnt_row (Y := y0 + (n : Int)) (x0 := x0) w (D := fun x y => !decide (y < y0 + (n : Int)) && D x y) (fun x y q => by
      rw [Bool.and_eq_true, Bool.not_eq_true', decide_eq_false_iff_not] at q
      have := h x y q.2; omega)
    have e : ((n + 1 : Nat) : Int) * (w : Int) = (n : Int) * (w : Int) + (w : Int) := by
      rw [show ((n + 1 : Nat) : Int) = (n : Int) + 1 by omega, Int.add_mul, Int.one_mul]
    omega
theorem cm_box {f g : Nat → Int64} {t0 l0 u0 r0 b0 t1 l1 u1 r1 b1 dx dy W H : Int} (m0 : msr f t0 l0 u0 r0 b0) (m1 : msr g t1 l1 u1 r1 b1) (hW : W = min r0 (r1 + dx) - max l0 (l1 + dx) + 1) (hH : H = min b0 (b1 + dy) - max u0 (u1 + dy) + 1) (w : 0 ≤ W) (h : 0 ≤ H) : cmN f g dx dy ≤ W * H := by
  have q := cnt_box (x0 := max l0 (l1 + dx)) (y0 := max u0 (u1 + dy)) (w := W.toNat) H.toNat (D := cmD f g dx dy) (fun x y q => by
    have p := cm_t.mp q
    have a := msr_pos m0 p.1
    have b := msr_pos m1 p.2
    omega)
  rw [show ((H.toNat : Nat) : Int) = H by omega, show ((W.toNat : Nat) : Int) = W by omega, Int.mul_comm] at q
  exact q
/-- what two rows have in common is no more than either's dots -/
theorem cm_line {f g : Nat → Int64} {dx dy : Int} {r k : Nat} (hk : (k : Int) = (r : Int) - dy) : cntD (roD (cmD f g dx dy) r) ≤ cntD (roD (md f) r) ∧ cntD (roD (cmD f g dx dy) r) ≤ cntD (roD (md g) k) := by
  constructor
  · exact cnt_mono (fun x y q => by
      unfold roD at q ⊢
      rw [Bool.and_eq_true] at q ⊢
      exact ⟨q.1, (cm_t.mp q.2).1⟩)
  · have e : cntD (fun x y => roD (cmD f g dx dy) r (x + dx) (y + dy)) = cntD (roD (cmD f g dx dy) r) := cnt_shift (dx := dx) (dy := dy) (fun x y q => by
      unfold roD at q
      rw [Bool.and_eq_true] at q
      exact md_rng (cm_t.mp q.2).1) (fun x y q => by
      unfold roD at q
      rw [Bool.and_eq_true] at q
      have z := (cm_t.mp q.2).2
      rw [Int.add_sub_cancel, Int.add_sub_cancel] at z
      exact md_rng z) (fun x y => rfl)
    rw [← e]
    exact cnt_mono (fun x y q => by
      unfold roD at q ⊢
      rw [Bool.and_eq_true, decide_eq_true_iff] at q ⊢
      have z := (cm_t.mp q.2).2
      rw [Int.add_sub_cancel, Int.add_sub_cancel] at z
      exact ⟨by omega, z⟩)
theorem ah_line {D : Int → Int → Bool} {Y Y1 : Int} (h0 : ∀ x y, D x y = true → 0 ≤ x) (hY : 0 ≤ Y) (h1 : Y1 = Y + 1) : cntD (ahD D Y1 0) = cntD (ahD D Y 0) + cntD (roD D Y.toNat) := cnt_add (fun x y _ _ _ _ => by
    apply Bool.eq_iff_iff.mpr
    unfold roD
    rw [Bool.or_eq_true, ah_t, ah_t, Bool.and_eq_true, decide_eq_true_iff]
    constructor
    · rintro ⟨k, p⟩
      have := h0 _ _ p
      rcases Int.lt_or_le y Y with w | w
      · exact Or.inl ⟨by omega, p⟩
      · exact Or.inr ⟨by omega, p⟩
    · rintro (⟨k, p⟩ | ⟨k, p⟩)
      · exact ⟨by omega, p⟩
      · exact ⟨by omega, p⟩) (fun x y q => by
    have a := (ah_t.mp q.1).1
    have b := q.2
    unfold roD at b
    rw [Bool.and_eq_true, decide_eq_true_iff] at b
    have c := h0 _ _ b.2
    omega)
def bsC (c : Fx) (a b : Nat) (X Y : Int) : Int := cmN (mkw (shp c a)) (mkw (shp c b)) (bX c b - X) (bY c b - Y)
theorem bsC_b (c : Fx) (a b : Nat) (X Y : Int) : 0 ≤ bsC c a b X Y := (cm_b _ _ _ _).1
theorem bsC_co {c : Fx} {a b : Nat} {X Y dx dy : Int} (e1 : dx = X - bX c a) (e2 : dy = Y - bY c a) : coN c a b dx dy = bsC c a b X Y := by
  unfold coN bsC
  rw [show bX c b - bX c a - dx = bX c b - X by omega, show bY c b - bY c a - dy = bY c b - Y by omega]
theorem bsC_z {c : Fx} {a b : Nat} {t0 l0 u0 r0 b0 t1 l1 u1 r1 b1 X Y : Int} (m0 : msr (mkw (shp c a)) t0 l0 u0 r0 b0) (m1 : msr (mkw (shp c b)) t1 l1 u1 r1 b1) (h : bX c b - X < l0 - r1 ∨ r0 - l1 < bX c b - X ∨ bY c b - Y < u0 - b1 ∨ b0 - u1 < bY c b - Y) : bsC c a b X Y ≤ 0 := by
  unfold bsC
  rw [cm_z (fun o => by have k := ovl_box m0 m1 o; unfold bxs at k; omega)]
  exact Int.le_refl _
theorem bsC_0 {c : Fx} {a b : Nat} {t0 l0 u0 r0 b0 t1 l1 u1 r1 b1 : Int} (m0 : msr (mkw (shp c a)) t0 l0 u0 r0 b0) (m1 : msr (mkw (shp c b)) t1 l1 u1 r1 b1) (h : t0 = 0 ∨ t1 = 0) (X Y : Int) : bsC c a b X Y ≤ 0 := by
  unfold bsC
  rw [cm_z (fun o => by have k := ovl_box m0 m1 o; unfold bxs at k; omega)]
  exact Int.le_refl _
def bsT (c : Fx) (a b : Nat) (d mx my : Int) : Prop := bsF (bsC c a b) (bX c a) (bY c a) d mx my
def bsA (k d x y : Int) : Int := if k = 0 then d else if k = 1 then x else y
def bsR (σ : Sx) (a b k r : Int32) : Prop := ((twV σ a b ∧ 0 ≤ k.toInt ∧ k.toInt ≤ 2) → ∃ d x y, bsT σ.1 a.toInt.toNat b.toInt.toNat d x y ∧ r.toInt = bsA k.toInt d x y) ∧ (¬ (twV σ a b ∧ 0 ≤ k.toInt ∧ k.toInt ≤ 2) → r.toInt = -2000)
theorem bsr_uni {σ : Sx} {a b k r s : Int32} (h : bsR σ a b k r) (g : bsR σ a b k s) : r = s := by
  by_cases q : twV σ a b ∧ 0 ≤ k.toInt ∧ k.toInt ≤ 2
  · obtain ⟨d, x, y, f, e⟩ := h.1 q
    obtain ⟨d2, x2, y2, f2, e2⟩ := g.1 q
    obtain ⟨rfl, rfl, rfl⟩ := bs_uni (bsC_b _ _ _) f f2
    exact Int32.toInt_inj.mp (e.trans e2.symm)
  · exact Int32.toInt_inj.mp ((h.2 q).trans (g.2 q).symm)
theorem bsC_w {c : Fx} {a b : Nat} {X Y : Int} (ok : okF c) (ha : a < (c.1 1).toInt.toNat) (hb : b < (c.1 1).toInt.toNat) (h : bX c b - X < 1 - (bw_ c b).toInt ∨ (bw_ c a).toInt - 1 < bX c b - X ∨ bY c b - Y < 1 - (bh_ c b).toInt ∨ (bh_ c a).toInt - 1 < bY c b - Y) : bsC c a b X Y ≤ 0 := by
  unfold bsC
  rw [cm_z (fun o => by have k := ovl_b (okm_shp ok ha) (okm_shp ok hb) o; omega)]
  exact Int.le_refl _
