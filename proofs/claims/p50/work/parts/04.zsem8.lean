/-! open sides of dots -/
theorem ln_gen {D : Int → Int → Bool} {a b : Int64} {r : Nat} (hr : r < 40) (h : ∀ x : Int, 0 ≤ x → x < 128 → dt a b x = D x (r : Int)) : cntD (roD D r) = nb a + nb b := by
  have q := tr_row (D := roD D r) (a := a) (b := b) (r := r) (r1 := r + 1) hr rfl (fun x h0 h1 => by rw [h x h0 h1]; unfold roD; rw [decide_eq_true rfl]; rfl)
  rw [tr_lo (r := r) (by omega) (fun x y w => by unfold roD at w; rw [Bool.and_eq_true, decide_eq_true_iff] at w; omega), tr_hi (r := r + 1) (by omega) (fun x y w => by unfold roD at w; rw [Bool.and_eq_true, decide_eq_true_iff] at w; omega)] at q
  omega
def edN (f : Nat → Int64) : Int := 4 * (totr f 40 : Int) - cmN f f 1 0 - cmN f f (-1) 0 - cmN f f 0 1 - cmN f f 0 (-1)
theorem edN_2 (f : Nat → Int64) : edN f = 4 * (totr f 40 : Int) - 2 * (cmN f f (-1) 0 + cmN f f 0 (-1)) := by
  have a : cmN f f 1 0 = cmN f f (-1) 0 := cm_swap (f := f) (g := f) (dx := 1) (dy := 0)
  have b : cmN f f 0 1 = cmN f f 0 (-1) := cm_swap (f := f) (g := f) (dx := 0) (dy := 1)
  unfold edN; omega
theorem ed_h {a b z1 z2 z3 z4 z5 z6 : Int64} {c1 c2 c3 : Int32} (e1 : z1 = (a.toUInt64 >>> (c1.toInt64.toUInt64 &&& Int64.toUInt64 63)).toInt64) (h1 : c1.toInt = ((1 : Nat) : Int)) (e2 : z2 = b <<< (c2.toInt64 &&& 63)) (h2 : c2.toInt = ((63 : Nat) : Int)) (e3 : z3 = z1 ||| z2) (e4 : z4 = a &&& z3) (e5 : z5 = (b.toUInt64 >>> (c3.toInt64.toUInt64 &&& Int64.toUInt64 63)).toInt64) (h3 : c3.toInt = ((1 : Nat) : Int)) (e6 : z6 = b &&& z5) {x : Int} (h0 : 0 ≤ x) (hx : x < 128) : dt z4 z6 x = (dt a b x && dt a b (x + 1)) := by
  rcases Int.lt_or_le x 64 with q | q
  · rw [dt_a h0 q, dt_a h0 q, b64_and e4, b64_or e3, b64_shr e1 h1 (by omega), b64_shl e2 h2 (by omega)]
    congr 1
    by_cases w : x = 63
    · rw [dt_b (x := x + 1) (by omega), b64_ge (i := x.toNat + 1) (by omega), Bool.false_or, decide_eq_true (by omega), decide_eq_false (by omega)]
      simp only [Bool.not_false, Bool.true_and]
      congr 1; omega
    · rw [dt_a (x := x + 1) (by omega) (by omega), decide_eq_true (show x.toNat < 63 by omega), Bool.not_true, Bool.and_false, Bool.false_and, Bool.or_false]
      congr 1; omega
  · rw [dt_b q, dt_b q, dt_b (x := x + 1) (by omega), b64_and e6, b64_shr e5 h3 (by omega)]
    congr 2; omega
def edP (f : Nat → Int64) (y x : Int) : Int := 4 * (TD (md f) y x : Int) - (TD (cmD f f 1 0) y x : Int) - (TD (cmD f f (-1) 0) y x : Int) - (TD (cmD f f 0 1) y x : Int) - (TD (cmD f f 0 (-1)) y x : Int)
theorem cm_r {f g : Nat → Int64} {dx dy x y : Int} (h : cmD f g dx dy x y = true) : (0 ≤ x ∧ x < 128) ∧ 0 ≤ y ∧ y < 40 := md_rng (cm_t.mp h).1
theorem edP_0 (f : Nat → Int64) : edP f 0 0 = 0 := by
  have n : ∀ dx dy : Int, TD (cmD f f dx dy) 0 0 = 0 := fun dx dy => TD_0 (fun x y h => by have := cm_r h; omega)
  unfold edP
  rw [n, n, n, n, TD_0 (fun x y h => by have := md_rng h; omega)]
  rfl
theorem edP_s {f : Nat → Int64} {y x x1 : Int} (hx : 0 ≤ x ∧ x < 128) (hy : 0 ≤ y ∧ y < 40) (h1 : x1 = x + 1) : edP f y x1 = edP f y x + if md f x y = true then 4 - (bi (md f (x - 1) y) + bi (md f (x + 1) y) + bi (md f x (y - 1)) + bi (md f x (y + 1))) else 0 := by
  have n : ∀ dx dy : Int, (TD (cmD f f dx dy) y x1 : Int) = (TD (cmD f f dx dy) y x : Int) + bi (cmD f f dx dy x y) := fun dx dy => TD_step hx hy h1
  unfold edP
  rw [n, n, n, n, TD_step hx hy h1]
  unfold cmD
  rw [Int.sub_zero, Int.sub_zero, show x - -1 = x + 1 by omega, show y - -1 = y + 1 by omega]
  cases p : md f x y with
  | false =>
    rw [if_neg (by decide)]
    simp only [Bool.false_and]
    show 4 * (_ + (0 : Int)) - (_ + 0) - (_ + 0) - (_ + 0) - (_ + 0) = _
    omega
  | true =>
    rw [if_pos rfl]
    simp only [Bool.true_and]
    have e : bi true = 1 := rfl
    rw [e]
    omega
theorem edP_nl {f : Nat → Int64} {w h y y1 x : Int} (c : mcl w h f) (hx : w ≤ x) (hy : y1 = y + 1) : edP f y1 0 = edP f y x := by
  have n : ∀ dx dy : Int, TD (cmD f f dx dy) y1 0 = TD (cmD f f dx dy) y x := fun dx dy => TD_nl (fun x y h => (md_b c x y (cm_t.mp h).1).1) hx hy
  unfold edP
  rw [n, n, n, n, TD_nl (fun x y h => (md_b c x y h).1) hx hy]
theorem edP_end {f : Nat → Int64} {w h y : Int} (c : mcl w h f) (hy : h ≤ y) : edP f y 0 = edN f := by
  have n : ∀ dx dy : Int, TD (cmD f f dx dy) y 0 = cntD (cmD f f dx dy) := fun dx dy => TD_end (fun x y h => (md_b c x y (cm_t.mp h).1).2.2) hy
  unfold edP edN cmN
  rw [n, n, n, n, TD_end (fun x y h => (md_b c x y h).2.2) hy, totr_mk]
theorem edP_b (f : Nat → Int64) (y x : Int) : -30000 ≤ edP f y x ∧ edP f y x ≤ 30000 := by
  have n : ∀ dx dy : Int, TD (cmD f f dx dy) y x ≤ 5120 := fun dx dy => cnt_le _
  have a := n 1 0
  have b := n (-1) 0
  have c := n 0 1
  have d := n 0 (-1)
  have e : TD (md f) y x ≤ 5120 := cnt_le _
  unfold edP; omega
/-! holes: islands of places without dots that lie off the mask's edges -/
def inn (D : Int × Int → Prop) (w h : Int) (p : Int × Int) : Prop := ∀ x y, cpB D p x y = true → (0 < x ∧ x < w - 1) ∧ 0 < y ∧ y < h - 1
noncomputable def hoK (D : Int × Int → Prop) (w h : Int) (t : Nat) : Int := nK (fun k => fstP D (k % 100, k / 100) ∧ inn D w h (k % 100, k / 100)) t
noncomputable def hoN (D : Int × Int → Prop) (w h y x : Int) : Int := hoK D w h (100 * y + x).toNat
theorem hoN_b (D : Int × Int → Prop) (w h y x : Int) : 0 ≤ hoN D w h y x ∧ hoN D w h y x ≤ ((100 * y + x).toNat : Int) := nK_b _ _
theorem hoN_go {D : Int × Int → Prop} {w h y x X : Int} (h0 : 0 ≤ 100 * y + x) (le : x ≤ X) (no : ∀ t, x ≤ t → t < X → ¬ fstP D (t, y)) (hx : 0 ≤ x) (hX : X ≤ 100) (hy : 0 ≤ y) : hoN D w h y X = hoN D w h y x := by
  unfold hoN hoK
  have q := nK_skip (P := fun k => fstP D (k % 100, k / 100) ∧ inn D w h (k % 100, k / 100)) (a := (100 * y + x).toNat) (X - x).toNat (fun t a b f => by
    have f1 := f.1
    rw [show (t : Int) / 100 = y by omega] at f1
    exact no ((t : Int) % 100) (by omega) (by omega) f1)
  rw [show (100 * y + x).toNat + (X - x).toNat = (100 * y + X).toNat by omega] at q
  exact q
theorem hoN_at {D : Int × Int → Prop} {w h y x x1 n1 n : Int} (hx : 0 ≤ x ∧ x < 100) (hy : 0 ≤ y) (h1 : x1 = x + 1) (f : fstP D (x, y)) (e : n = hoN D w h y x) (c : (inn D w h (x, y) ∧ n1 = n + 1) ∨ (¬ inn D w h (x, y) ∧ n1 = n)) : n1 = hoN D w h y x1 := by
  have ex : (100 * y + x) % 100 = x := by omega
  have ey : (100 * y + x) / 100 = y := by omega
  rcases c with ⟨i, c⟩ | ⟨i, c⟩
  · rw [c, e]
    unfold hoN hoK
    exact (nK_yes (P := fun k => fstP D (k % 100, k / 100) ∧ inn D w h (k % 100, k / 100)) (k := 100 * y + x) (k1 := 100 * y + x1) (by omega) (by omega) (by rw [ex, ey]; exact ⟨f, i⟩)).symm
  · rw [c, e]
    unfold hoN hoK
    exact (nK_no (P := fun k => fstP D (k % 100, k / 100) ∧ inn D w h (k % 100, k / 100)) (k := 100 * y + x) (k1 := 100 * y + x1) (by omega) (by omega) (by rw [ex, ey]; exact fun z => i z.2)).symm
theorem hoN_row {D : Int × Int → Prop} {w h y y1 n : Int} (e : n = hoN D w h y 100) (h1 : y1 = y + 1) : n = hoN D w h y1 0 := by
  rw [e]
  unfold hoN
  rw [show 100 * y + 100 = 100 * y1 + 0 by omega]
theorem hoN_end {D : Int × Int → Prop} {w h y H : Int} (hD : ∀ u, D u → u.2 < H) (hy : H ≤ y) (h0 : 0 ≤ y) (h1 : y ≤ 40) : hoN D w h 40 0 = hoN D w h y 0 := by
  unfold hoN hoK
  have q := nK_skip (P := fun k => fstP D (k % 100, k / 100) ∧ inn D w h (k % 100, k / 100)) (a := (100 * y + 0).toNat) (4000 - 100 * y).toNat (fun t a b f => by
    have k := hD _ f.1.1
    have k2 : (t : Int) / 100 < H := k
    omega)
  rw [show (100 * y + 0).toNat + (4000 - 100 * y).toNat = (100 * 40 + 0 : Int).toNat by omega] at q
  exact q
theorem inn_ex {D : Int × Int → Prop} {w h : Int} {p : Int × Int} {l t r b : Int} (e : exD (cpB D p) (l, t, r, b)) : inn D w h p ↔ (0 < l ∧ r < w - 1) ∧ 0 < t ∧ b < h - 1 := by
  obtain ⟨⟨y1, a1⟩, ⟨x2, a2⟩, ⟨y3, a3⟩, ⟨x4, a4⟩, al⟩ := e
  constructor
  · intro i
    have k1 := i _ _ a1
    have k2 := i _ _ a2
    have k3 := i _ _ a3
    have k4 := i _ _ a4
    have m1 : 0 < l := k1.1.1
    have m2 : 0 < t := k2.2.1
    have m3 : r < w - 1 := k3.1.2
    have m4 : b < h - 1 := k4.2.2
    omega
  · intro i x y c
    have k := al x y c
    have k1 : (l ≤ x ∧ x ≤ r) ∧ (t ≤ y ∧ y ≤ b) := k
    omega
section
variable {Q : Nat → Nat → Option Nat} {I1 : Nat → Nat → Int32} {J J1 : Nat → Nat → Int64} {F : Nat} {D : Int → Int → Bool} {w h y x r k n : Int}
theorem sc_nf {O : Int × Int → Prop} (s : scI (B2P D) O y x n) {t : Int} (le : x ≤ t) (no : ¬ O (t, y)) : ¬ fstP (B2P D) (t, y) := fun f => no ((s.1 _).mpr ⟨f.1, fun z => f.2 (by
    obtain ⟨u, d, b, c⟩ := z
    refine ⟨u, d, ?_, c⟩
    show bef y t u
    unfold bef at b ⊢
    omega)⟩)
theorem sg_no (s : scI (B2P D) (B2P (opn Q J F)) y x (isN (B2P D) y x)) (t : tiR Q I1 J J1 F y r) (hr : r = 0) (hy : 0 ≤ y) (hx : 0 ≤ x ∧ x ≤ 100) : scI (B2P D) (B2P (opn Q J1 F)) y 100 (isN (B2P D) y 100) ∧ hoN (B2P D) w h y 100 = hoN (B2P D) w h y x := by
  obtain ⟨a, b⟩ := t.1 hr
  have no : ∀ x2, ¬ B2P (opn Q J F) (x2, y) := fun x2 z => by
    have z2 : opn Q J F x2 y = true := z
    rw [a] at z2; cases z2
  have s1 := sc_to s hy hx.1 (Int.le_refl _) (fun x2 _ _ => no x2) hx.2
  refine ⟨scI_eq (by rw [s1.2] at s1; exact s1) (fun u => by unfold B2P; rw [b]), hoN_go (by omega) hx.2 (fun t le _ => sc_nf s le (no t)) hx.1 (Int.le_refl _) hy⟩
theorem sg_yes (s : scI (B2P D) (B2P (opn Q J F)) y x (isN (B2P D) y x)) (t : tiR Q I1 J J1 F y r) (hr : ¬ r = 0) (c : rgD D) (hy : 0 ≤ y) (hx : k ≤ x ∧ 0 ≤ x ∧ x ≤ 100) : ∃ X, (k ≤ X ∧ 0 ≤ X ∧ X < 100) ∧ scI (B2P D) (B2P (opn Q J1 F)) y (X + 1) (isN (B2P D) y (X + 1)) ∧ fstP (B2P D) (X, y) ∧ hoN (B2P D) w h y X = hoN (B2P D) w h y x ∧ exD (cpB (B2P D) (X, y)) ((I1 F 4).toInt, (I1 F 5).toInt, (I1 F 6).toInt, (I1 F 7).toInt) := by
  obtain ⟨X, o, lo, e, c3, ex⟩ := t.2 hr
  have oB : B2P (opn Q J F) (X, y) := o
  have rg := c X y ((s.1 _).mp oB).1
  have no : ∀ x2, x2 < X → ¬ B2P (opn Q J F) (x2, y) := fun x2 b z => by
    have z2 : opn Q J F x2 y = true := z
    rw [lo x2 b] at z2; cases z2
  have le : x ≤ X := Int.not_lt.mp (fun z => sc_lo s z oB)
  have s1 := sc_to s hy hx.2.1 (by omega) (fun x2 _ b => no x2 b) le
  have eD : dfB (opn Q J F) (opn Q J1 F) = cpB (B2P D) (X, y) := funext fun a => funext fun b => by
    apply Bool.eq_iff_iff.mpr
    rw [dfB_t, cpB_t]
    constructor
    · rintro ⟨p, q⟩
      have p2 : B2P (opn Q J F) (a, b) := p
      refine ⟨((s.1 _).mp p2).1, Classical.byContradiction (fun z => ?_)⟩
      have q2 : B2P (opn Q J1 F) (a, b) := (e _).mpr ⟨p2, fun k => z ((sc_con s1 oB).mp k)⟩
      have q3 : opn Q J1 F a b = true := q2
      rw [q] at q3; cases q3
    · rintro ⟨p, q⟩
      have p2 := sc_cl s1 oB q
      refine ⟨p2, ?_⟩
      cases z : opn Q J1 F a b with
      | false => rfl
      | true => exact absurd ((sc_con s1 oB).mpr q) ((e (a, b)).mp z).2
  have f := sc_fst s1 oB
  have s2 := sc_take s1 (by omega) hy rfl rfl oB e
  refine ⟨X, by omega, ⟨s2.1, rfl⟩, f, hoN_go (by omega) le (fun t a b => sc_nf s a (no t b)) hx.2.1 (by omega) hy, ?_⟩
  rw [← eD]; exact ex
end
/-- the open mask is filled with the places without dots, row by row -/
def rwh (f : Nat → Int64) (D : Int → Int → Bool) (g : Nat → Int64) (k : Int) : Prop := ∀ x y : Int, md f x y = if 0 ≤ y ∧ y < k then D x y else md g x y
theorem rwh_step {f f1 f2 g : Nat → Int64} {D : Int → Int → Bool} {k k2 : Int} {a b : Int64} {r : Nat} (h : rwh f D g k) (h1 : ∀ j, f1 j = if j = 2 * r then a else f j) (h2 : ∀ j, f2 j = if j = 2 * r + 1 then b else f1 j) (hr : r < 40) (hk : k = (r : Int)) (hk2 : k2 = k + 1) (hd : ∀ x, dt a b x = D x (r : Int)) : rwh f2 D g k2 := fun x y => by
  by_cases w : y = (r : Int)
  · rw [w, if_pos (by omega), md_row (f := f2) hr (show a = f2 (2 * r) by rw [h2, if_neg (by omega), h1, if_pos rfl]) (show b = f2 (2 * r + 1) by rw [h2, if_pos rfl])]
    exact hd x
  · have e : md f2 x y = md f x y := by
      by_cases q : 0 ≤ y ∧ y < 40
      · have m : ∀ F : Nat → Int64, md F x y = dt (F (2 * y.toNat)) (F (2 * y.toNat + 1)) x := fun F => by
          have z := md_row (f := F) (r := y.toNat) (a := F (2 * y.toNat)) (b := F (2 * y.toNat + 1)) (by omega) rfl rfl x
          rw [show ((y.toNat : Nat) : Int) = y by omega] at z
          exact z
        rw [m, m, h2, if_neg (by omega), h1, if_neg (by omega), h2, if_neg (by omega), h1, if_neg (by omega)]
      · rw [md_y (by omega), md_y (by omega)]
    rw [e, h x y]
    by_cases q : 0 ≤ y ∧ y < k
    · rw [if_pos q, if_pos (by omega)]
    · rw [if_neg q, if_neg (by omega)]
theorem ho_row {a b lo hi z1 z2 u v : Int64} {w : Int} (e1 : z1 = a ^^^ -1) (e2 : u = z1 &&& lo) (e3 : z2 = b ^^^ -1) (e4 : v = z2 &&& hi) (h0 : ∀ i : Nat, i < 64 → b64 lo i = decide ((i : Int) < w)) (h1 : ∀ i : Nat, i < 64 → b64 hi i = decide ((i : Int) + 64 < w)) (hw : w ≤ 128) (x : Int) : dt u v x = (decide (0 ≤ x ∧ x < w) && !dt a b x) := by
  rcases Int.lt_or_le x 0 with q | q
  · unfold dt; rw [if_pos q, decide_eq_false (by omega)]; rfl
  · rcases Int.lt_or_le x 64 with p | p
    · rw [dt_a q p, dt_a q p, b64_and e2, b64_not e1 (by omega), h0 _ (by omega), Bool.and_comm]
      congr 1
      exact decide_eq_decide.mpr (by omega)
    · rw [dt_b p, dt_b p, b64_and e4]
      rcases Int.lt_or_le x 128 with m | m
      · rw [b64_not e3 (by omega), h1 _ (by omega), Bool.and_comm]
        congr 1
        exact decide_eq_decide.mpr (by omega)
      · rw [b64_ge (x := z2) (by omega), Bool.false_and, decide_eq_false (by omega)]; rfl
theorem ho_ds {w h : Int} {f : Nat → Int64} {a b u v : Int64} {r : Nat} (hr : (r : Int) < h) (m : ∀ x, md f x (r : Int) = dt a b x) (d : ∀ x, dt u v x = (decide (0 ≤ x ∧ x < w) && !dt a b x)) (x : Int) : dt u v x = dsD w h f 0 x (r : Int) := by
  rw [d, ← m]
  unfold dsD
  congr 1
  · exact decide_eq_decide.mpr (by omega)
  · cases md f x (r : Int) <;> rfl
theorem rwh_fin {f g : Nat → Int64} {w h k : Int} (s : rwh f (dsD w h g 0) g k) (c : mcl w h g) (hk : h ≤ k) (x y : Int) : md f x y = dsD w h g 0 x y := by
  rw [s x y]
  by_cases q : 0 ≤ y ∧ y < k
  · rw [if_pos q]
  · rw [if_neg q]
    have a : md g x y = false := Bool.eq_false_iff.mpr (fun z => by have := md_b c _ _ z; omega)
    have b : dsD w h g 0 x y = false := Bool.eq_false_iff.mpr (fun z => by have := (dsD_t.mp z).1; omega)
    rw [a, b]
/-- the reference asks each island's number along the edges -/
def outR (A : Nat → Int32) (w h : Int) (k : Int) : Prop := ∃ x y : Int, ((0 ≤ x ∧ x < w) ∧ 0 ≤ y ∧ y < h) ∧ ((x = 0 ∨ x = w - 1) ∨ y = 0 ∨ y = h - 1) ∧ (A (100 * y + x).toNat).toInt = k
theorem out_inn {A : Nat → Int32} {t : Int32} {D : Int → Int → Bool} {w h : Int} {p : Int × Int} (r : ∀ X Y, D X Y = true → (0 ≤ X ∧ X < w) ∧ 0 ≤ Y ∧ Y < h) (hw : w ≤ 100) (hh : h ≤ 40) (s : lyR A t D) (fp : fstP (B2P D) p) : ¬ outR A w h (isN (B2P D) p.2 p.1) ↔ inn (B2P D) w h p := by
  have rg : rgD D := fun X Y q => by have := r X Y q; omega
  constructor
  · intro n x y c
    have q := r x y (cpB_t.mp c).1
    refine Classical.byContradiction (fun z => n ⟨x, y, q, by omega, (ly_cp rg s fp (by omega) (by omega)).mpr c⟩)
  · rintro i ⟨x, y, q, e, a⟩
    have k := i x y ((ly_cp rg s fp (by omega) (by omega)).mp a)
    omega
theorem ho_all {D : Int → Int → Bool} {w h : Int} {N : Int → Prop} (e : ∀ p, fstP (B2P D) p → (N (isN (B2P D) p.2 p.1) ↔ inn (B2P D) w h p)) : ∀ t : Nat, nK N (nK (fun k => fstP (B2P D) (k % 100, k / 100)) t).toNat = hoK (B2P D) w h t := by
  intro t
  induction t with
  | zero => rfl
  | succ t ih =>
    have b := nK_b (fun k => fstP (B2P D) (k % 100, k / 100)) t
    have pt : isN (B2P D) ((t : Int) / 100) ((t : Int) % 100) = nK (fun k => fstP (B2P D) (k % 100, k / 100)) t := by
      unfold isN
      rw [show (100 * ((t : Int) / 100) + (t : Int) % 100).toNat = t by omega]
    show nK N (nK (fun k => fstP (B2P D) (k % 100, k / 100)) t + @ite _ (fstP (B2P D) ((t : Int) % 100, (t : Int) / 100)) (Classical.propDecidable _) 1 0).toNat = hoK (B2P D) w h t + @ite _ (fstP (B2P D) ((t : Int) % 100, (t : Int) / 100) ∧ inn (B2P D) w h ((t : Int) % 100, (t : Int) / 100)) (Classical.propDecidable _) 1 0
    by_cases f : fstP (B2P D) ((t : Int) % 100, (t : Int) / 100)
    · have k := e _ f
      rw [if_pos f]
      have k2 : N (nK (fun k => fstP (B2P D) (k % 100, k / 100)) t) ↔ inn (B2P D) w h ((t : Int) % 100, (t : Int) / 100) := by rw [← pt]; exact k
      by_cases i : inn (B2P D) w h ((t : Int) % 100, (t : Int) / 100)
      · rw [if_pos ⟨f, i⟩, nK_yes (k := nK (fun k => fstP (B2P D) (k % 100, k / 100)) t) b.1 rfl (k2.mpr i), ih]
      · rw [if_neg (fun z => i z.2), nK_no (k := nK (fun k => fstP (B2P D) (k % 100, k / 100)) t) b.1 rfl (fun z => i (k2.mp z)), ih, Int.add_zero]
    · rw [if_neg f, if_neg (fun z => f z.1), Int.add_zero, Int.add_zero]
      exact ih
theorem ho_ref {A : Nat → Int32} {t : Int32} {D : Int → Int → Bool} {w h : Int} (r : ∀ X Y, D X Y = true → (0 ≤ X ∧ X < w) ∧ 0 ≤ Y ∧ Y < h) (hw : w ≤ 100) (hh : h ≤ 40) (s : lyR A t D) : nK (fun k => ¬ outR A w h k) t.toInt.toNat = hoN (B2P D) w h 40 0 := by
  rw [s.1]
  exact ho_all (fun p fp => out_inn r hw hh s fp) _
/-! what a mask is -/
def enA (k : Int) (e : B4) : Int := if k = 3 then e.1 else if k = 4 then e.2.1 else if k = 5 then e.2.2.1 else e.2.2.2
def mkR (w h : Int) (f : Nat → Int64) (k r : Int) : Prop := (k = 0 → r = w) ∧ (k = 1 → r = h) ∧ (k = 2 → r = (totr f 40 : Int)) ∧ ((3 ≤ k ∧ k ≤ 6) → ((∀ x y, md f x y = false) ∧ r = -2) ∨ ∃ e, exD (md f) e ∧ r = enA k e) ∧ (k = 7 → r = isT (B2P (md f))) ∧ (k = 8 → r = hoN (B2P (dsD w h f 0)) w h 40 0) ∧ (k = 9 → r = edN f) ∧ (k < 0 ∨ 9 < k → r = -1)
section
variable {w h : Int} {f : Nat → Int64} {k r : Int}
theorem mk0 (hk : k = 0) (e : r = w) : mkR w h f k r := ⟨fun _ => e, fun a => absurd a (by omega), fun a => absurd a (by omega), fun a => absurd a (by omega), fun a => absurd a (by omega), fun a => absurd a (by omega), fun a => absurd a (by omega), fun a => absurd a (by omega)⟩
theorem mk1 (hk : k = 1) (e : r = h) : mkR w h f k r := ⟨fun a => absurd a (by omega), fun _ => e, fun a => absurd a (by omega), fun a => absurd a (by omega), fun a => absurd a (by omega), fun a => absurd a (by omega), fun a => absurd a (by omega), fun a => absurd a (by omega)⟩
theorem mk2 (hk : k = 2) (e : r = (totr f 40 : Int)) : mkR w h f k r := ⟨fun a => absurd a (by omega), fun a => absurd a (by omega), fun _ => e, fun a => absurd a (by omega), fun a => absurd a (by omega), fun a => absurd a (by omega), fun a => absurd a (by omega), fun a => absurd a (by omega)⟩
theorem mk3 (hk : 3 ≤ k ∧ k ≤ 6) (e : ((∀ x y, md f x y = false) ∧ r = -2) ∨ ∃ e, exD (md f) e ∧ r = enA k e) : mkR w h f k r := ⟨fun a => absurd a (by omega), fun a => absurd a (by omega), fun a => absurd a (by omega), fun _ => e, fun a => absurd a (by omega), fun a => absurd a (by omega), fun a => absurd a (by omega), fun a => absurd a (by omega)⟩
theorem mk7 (hk : k = 7) (e : r = isT (B2P (md f))) : mkR w h f k r := ⟨fun a => absurd a (by omega), fun a => absurd a (by omega), fun a => absurd a (by omega), fun a => absurd a (by omega), fun _ => e, fun a => absurd a (by omega), fun a => absurd a (by omega), fun a => absurd a (by omega)⟩
theorem mk8 (hk : k = 8) (e : r = hoN (B2P (dsD w h f 0)) w h 40 0) : mkR w h f k r := ⟨fun a => absurd a (by omega), fun a => absurd a (by omega), fun a => absurd a (by omega), fun a => absurd a (by omega), fun a => absurd a (by omega), fun _ => e, fun a => absurd a (by omega), fun a => absurd a (by omega)⟩
theorem mk9 (hk : k = 9) (e : r = edN f) : mkR w h f k r := ⟨fun a => absurd a (by omega), fun a => absurd a (by omega), fun a => absurd a (by omega), fun a => absurd a (by omega), fun a => absurd a (by omega), fun a => absurd a (by omega), fun _ => e, fun a => absurd a (by omega)⟩
theorem mkout (hk : k < 0 ∨ 9 < k) (e : r = -1) : mkR w h f k r := ⟨fun a => absurd a (by omega), fun a => absurd a (by omega), fun a => absurd a (by omega), fun a => absurd a (by omega), fun a => absurd a (by omega), fun a => absurd a (by omega), fun a => absurd a (by omega), fun _ => e⟩
theorem mk_uni {s : Int} (a : mkR w h f k r) (b : mkR w h f k s) : r = s := by
  obtain ⟨a0, a1, a2, a3, a7, a8, a9, ad⟩ := a
  obtain ⟨b0, b1, b2, b3, b7, b8, b9, bd⟩ := b
  by_cases q0 : k = 0
  · exact (a0 q0).trans (b0 q0).symm
  by_cases q1 : k = 1
  · exact (a1 q1).trans (b1 q1).symm
  by_cases q2 : k = 2
  · exact (a2 q2).trans (b2 q2).symm
  by_cases q3 : 3 ≤ k ∧ k ≤ 6
  · rcases a3 q3 with ⟨z, e⟩ | ⟨x, m, e⟩ <;> rcases b3 q3 with ⟨z2, e2⟩ | ⟨x2, m2, e2⟩
    · exact e.trans e2.symm
    · obtain ⟨⟨_, p⟩, -⟩ := m2
      rw [z] at p; cases p
    · obtain ⟨⟨_, p⟩, -⟩ := m
      rw [z2] at p; cases p
    · rw [ex_uni m m2] at e
      exact e.trans e2.symm
  by_cases q7 : k = 7
  · exact (a7 q7).trans (b7 q7).symm
  by_cases q8 : k = 8
  · exact (a8 q8).trans (b8 q8).symm
  by_cases q9 : k = 9
  · exact (a9 q9).trans (b9 q9).symm
  exact (ad (by omega)).trans (bd (by omega)).symm
end
def maR (σ : Sx) (m k r : Int32) : Prop := (mK σ m → mkR (mW σ m).toInt (mH σ m).toInt (mF σ m) k.toInt r.toInt) ∧ (¬ mK σ m → r.toInt = -1)
theorem mar_uni {σ : Sx} {m k r s : Int32} (a : maR σ m k r) (b : maR σ m k s) : r = s := by
  by_cases q : mK σ m
  · exact Int32.toInt_inj.mp (mk_uni (a.1 q) (b.1 q))
  · exact Int32.toInt_inj.mp ((a.2 q).trans (b.2 q).symm)
theorem edN_congr {f g : Nat → Int64} (e : ∀ k, k < 80 → f k = g k) : edN f = edN g := by
  unfold edN
  rw [totr_congr e, cm_congr e e, cm_congr e e, cm_congr e e, cm_congr e e]
theorem dsD_congr {w h w2 h2 d : Int} {f g : Nat → Int64} (e1 : w = w2) (e2 : h = h2) (e : ∀ k, k < 80 → f k = g k) : dsD w h f d = dsD w2 h2 g d := funext fun x => funext fun y => by
  unfold dsD; rw [e1, e2, md_congr e]
