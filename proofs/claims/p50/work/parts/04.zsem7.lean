/-! islands: places that go together, in the order of their first ones -/
def adj (u v : Int × Int) : Prop := (u.2 = v.2 ∧ (v.1 = u.1 + 1 ∨ v.1 = u.1 - 1)) ∨ (u.1 = v.1 ∧ (v.2 = u.2 + 1 ∨ v.2 = u.2 - 1))
theorem adj_sym {u v : Int × Int} (h : adj u v) : adj v u := by unfold adj at h ⊢; omega
def con (D : Int × Int → Prop) (u v : Int × Int) : Prop := ∀ T : Int × Int → Prop, T u → (∀ a b, T a → adj a b → D b → T b) → T v
theorem con_refl {D : Int × Int → Prop} (u : Int × Int) : con D u u := fun _ h _ => h
theorem con_step {D : Int × Int → Prop} {u a b : Int × Int} (h : con D u a) (e : adj a b) (d : D b) : con D u b := fun T t s => s a b (h T t s) e d
theorem con_tr {D : Int × Int → Prop} {u v w : Int × Int} (h : con D u v) (k : con D v w) : con D u w := fun T t s => k T (h T t s) s
theorem con_D {D : Int × Int → Prop} {u v : Int × Int} (d : D u) (h : con D u v) : D v := h D d (fun _ _ _ _ k => k)
theorem con_sym {D : Int × Int → Prop} {u v : Int × Int} (d : D u) (h : con D u v) : con D v u := (h (fun a => D a ∧ con D a u) ⟨d, con_refl u⟩ (fun a b t e k => ⟨k, con_tr (con_step (con_refl b) (adj_sym e) t.1) t.2⟩)).2
theorem con_mono {D E : Int × Int → Prop} {u v : Int × Int} (m : ∀ a, D a → E a) (h : con D u v) : con E u v := fun T t s => h T t (fun a b p q r => s a b p q (m b r))
def bef (y x : Int) (u : Int × Int) : Prop := u.2 < y ∨ (u.2 = y ∧ u.1 < x)
def tkn (D : Int × Int → Prop) (y x : Int) (u : Int × Int) : Prop := ∃ w, D w ∧ bef y x w ∧ con D w u
def fstP (D : Int × Int → Prop) (u : Int × Int) : Prop := D u ∧ ¬ tkn D u.2 u.1 u
noncomputable def isN (D : Int × Int → Prop) (y x : Int) : Int := nK (fun k => fstP D (k % 100, k / 100)) (100 * y + x).toNat
theorem nK_skip {P : Int → Prop} {a : Nat} : ∀ n, (∀ t : Nat, a ≤ t → t < a + n → ¬ P (t : Int)) → nK P (a + n) = nK P a := by
  intro n
  induction n with
  | zero => intro _; rfl
  | succ n ih =>
    intro h
    show nK P (a + n) + @ite _ (P ((a + n : Nat) : Int)) (Classical.propDecidable _) 1 0 = _
    rw [if_neg (h (a + n) (by omega) (by omega)), ih (fun t p q => h t p (by omega))]; omega
theorem nK_mono {P : Int → Prop} {a b : Nat} (h : a ≤ b) : nK P a ≤ nK P b := by
  induction b with
  | zero => rw [show a = 0 by omega]; exact Int.le_refl _
  | succ b ih =>
    by_cases q : a = b + 1
    · rw [q]; exact Int.le_refl _
    · have k := ih (by omega)
      show nK P a ≤ nK P b + _
      split <;> omega
theorem isN_yes {D : Int × Int → Prop} {y x x1 : Int} (hx : 0 ≤ x ∧ x < 100) (hy : 0 ≤ y) (h1 : x1 = x + 1) (f : fstP D (x, y)) : isN D y x1 = isN D y x + 1 := by
  unfold isN
  exact nK_yes (k := 100 * y + x) (k1 := 100 * y + x1) (by omega) (by omega) (by
    rw [show (100 * y + x) % 100 = x by omega, show (100 * y + x) / 100 = y by omega]; exact f)
theorem isN_no {D : Int × Int → Prop} {y x x1 : Int} (hx : 0 ≤ x ∧ x < 100) (hy : 0 ≤ y) (h1 : x1 = x + 1) (f : ¬ fstP D (x, y)) : isN D y x1 = isN D y x := by
  unfold isN
  exact nK_no (k := 100 * y + x) (k1 := 100 * y + x1) (by omega) (by omega) (by
    show ¬ fstP D _
    rw [show (100 * y + x) % 100 = x by omega, show (100 * y + x) / 100 = y by omega]; exact f)
theorem isN_b (D : Int × Int → Prop) (y x : Int) : 0 ≤ isN D y x ∧ isN D y x ≤ ((100 * y + x).toNat : Int) := nK_b _ _
theorem isN_row {D : Int × Int → Prop} {y x y1 w : Int} (hw : ∀ u, D u → 0 ≤ u.1 ∧ u.1 < w) (hx : w ≤ x) (hx2 : 0 ≤ x ∧ x ≤ 100) (hy : 0 ≤ y) (h1 : y1 = y + 1) : isN D y1 0 = isN D y x := by
  unfold isN
  have q := nK_skip (P := fun k => fstP D (k % 100, k / 100)) (a := (100 * y + x).toNat) (100 - x).toNat (fun t a b f => by
    have k := hw _ f.1
    have k2 : (t : Int) % 100 < w := k.2
    omega)
  rw [show (100 * y + x).toNat + (100 - x).toNat = (100 * y1 + 0).toNat by omega] at q
  exact q
theorem isN_le {D : Int × Int → Prop} {y x y1 x1 : Int} (h : 100 * y + x ≤ 100 * y1 + x1) : isN D y x ≤ isN D y1 x1 := nK_mono (by omega)
/-- while places are looked at row by row: what is open yet, how many islands so far -/
def scI (D O : Int × Int → Prop) (y x n : Int) : Prop := (∀ u, O u ↔ D u ∧ ¬ tkn D y x u) ∧ n = isN D y x
theorem sc_0 {D O : Int × Int → Prop} (r : ∀ u, D u → 0 ≤ u.1 ∧ 0 ≤ u.2) (e : ∀ u, O u ↔ D u) : scI D O 0 0 0 := by
  refine ⟨fun u => ⟨fun h => ⟨(e u).mp h, ?_⟩, fun h => (e u).mpr h.1⟩, rfl⟩
  rintro ⟨w, d, b, _⟩
  have := r w d
  unfold bef at b
  omega
theorem sc_skip {D O : Int × Int → Prop} {y x x1 n : Int} (h : scI D O y x n) (hx : 0 ≤ x ∧ x < 100) (hy : 0 ≤ y) (h1 : x1 = x + 1) (no : ¬ O (x, y)) : scI D O y x1 n := by
  have tk : D (x, y) → tkn D y x (x, y) := fun d => Classical.byContradiction (fun t => no ((h.1 _).mpr ⟨d, t⟩))
  have e : ∀ u, tkn D y x1 u ↔ tkn D y x u := fun u => by
    constructor
    · rintro ⟨w, d, b, c⟩
      by_cases q : bef y x w
      · exact ⟨w, d, q, c⟩
      · have ew : w = (x, y) := Prod.ext (by show w.1 = x; unfold bef at b q; omega) (by show w.2 = y; unfold bef at b q; omega)
        rw [ew] at d c
        obtain ⟨w2, d2, b2, c2⟩ := tk d
        exact ⟨w2, d2, b2, con_tr c2 c⟩
    · rintro ⟨w, d, b, c⟩
      exact ⟨w, d, by unfold bef at b ⊢; omega, c⟩
  refine ⟨fun u => by rw [e]; exact h.1 u, ?_⟩
  rw [h.2, isN_no hx hy h1 (fun f => f.2 (tk f.1))]
theorem sc_row {D O : Int × Int → Prop} {y x y1 n w : Int} (h : scI D O y x n) (hw : ∀ u, D u → 0 ≤ u.1 ∧ u.1 < w) (hx : w ≤ x) (hx2 : 0 ≤ x ∧ x ≤ 100) (hy : 0 ≤ y) (h1 : y1 = y + 1) : scI D O y1 0 n := by
  have e : ∀ u, tkn D y1 0 u ↔ tkn D y x u := fun u => by
    constructor <;> rintro ⟨w, d, b, c⟩ <;> exact ⟨w, d, by have := hw w d; unfold bef at b ⊢; omega, c⟩
  refine ⟨fun u => by rw [e]; exact h.1 u, ?_⟩
  rw [h.2, isN_row hw hx hx2 hy h1]
/-- open places are whole islands -/
theorem sc_cl {D O : Int × Int → Prop} {y x n : Int} (h : scI D O y x n) {a b : Int × Int} (o : O a) (c : con D a b) : O b := by
  have d := (h.1 a).mp o
  refine (h.1 b).mpr ⟨con_D d.1 c, ?_⟩
  rintro ⟨w, dw, bw, cw⟩
  exact d.2 ⟨w, dw, bw, con_tr cw (con_sym d.1 c)⟩
theorem sc_con {D O : Int × Int → Prop} {y x n : Int} (h : scI D O y x n) {p u : Int × Int} (o : O p) : con O p u ↔ con D p u := by
  constructor
  · exact con_mono (fun a q => ((h.1 a).mp q).1)
  · intro c
    exact (c (fun a => con D p a ∧ con O p a) ⟨con_refl p, con_refl p⟩ (fun a b t e d => ⟨con_step t.1 e d, con_step t.2 e (sc_cl h o (con_step t.1 e d))⟩)).2
theorem sc_fst {D O : Int × Int → Prop} {y x n : Int} (h : scI D O y x n) (o : O (x, y)) : fstP D (x, y) := (h.1 _).mp o
theorem sc_take {D O O1 : Int × Int → Prop} {y x x1 n n1 : Int} (h : scI D O y x n) (hx : 0 ≤ x ∧ x < 100) (hy : 0 ≤ y) (h1 : x1 = x + 1) (hn : n1 = n + 1) (o : O (x, y)) (e : ∀ u, O1 u ↔ O u ∧ ¬ con O (x, y) u) : scI D O1 y x1 n1 := by
  refine ⟨fun u => ?_, by rw [hn, h.2, isN_yes hx hy h1 (sc_fst h o)]⟩
  rw [e, sc_con h o, h.1]
  constructor
  · rintro ⟨⟨d, t⟩, c⟩
    refine ⟨d, ?_⟩
    rintro ⟨w, dw, b, cw⟩
    by_cases q : bef y x w
    · exact t ⟨w, dw, q, cw⟩
    · have ew : w = (x, y) := Prod.ext (by show w.1 = x; unfold bef at b q; omega) (by show w.2 = y; unfold bef at b q; omega)
      rw [ew] at cw
      exact c cw
  · rintro ⟨d, t⟩
    refine ⟨⟨d, ?_⟩, fun c => t ⟨(x, y), ((h.1 _).mp o).1, Or.inr ⟨rfl, by show x < x1; omega⟩, c⟩⟩
    rintro ⟨w, dw, b, cw⟩
    exact t ⟨w, dw, by unfold bef at b ⊢; omega, cw⟩
/-- one island is taken, place by place -/
def flI (O0 : Int × Int → Prop) (p : Int × Int) (O : Int × Int → Prop) (q : Nat → Int × Int) (m n : Nat) : Prop := (∀ u, O u → O0 u) ∧ (∀ i, i < n → O0 (q i) ∧ ¬ O (q i) ∧ con O0 p (q i)) ∧ (∀ u, O0 u → ¬ O u → ∃ i, i < n ∧ q i = u) ∧ ∀ i, i < m → ∀ v, adj (q i) v → ¬ O v
theorem fl_0 {O0 O : Int × Int → Prop} {p : Int × Int} {q : Nat → Int × Int} (e : ∀ u, O u ↔ O0 u) : flI O0 p O q 0 0 := ⟨fun u h => (e u).mp h, fun i hi => absurd hi (Nat.not_lt_zero _), fun u h k => absurd ((e u).mpr h) k, fun i hi => absurd hi (Nat.not_lt_zero _)⟩
theorem fl_take {O0 O O1 : Int × Int → Prop} {p v : Int × Int} {q q1 : Nat → Int × Int} {m n n1 : Nat} (h : flI O0 p O q m n) (hm : m ≤ n) (o : O v) (c : con O0 p v) (e : ∀ u, O1 u ↔ O u ∧ ¬ u = v) (hn : n1 = n + 1) (hq : ∀ i, i < n → q1 i = q i) (hv : q1 n = v) : flI O0 p O1 q1 m n1 := by
  obtain ⟨a, b, d, f⟩ := h
  refine ⟨fun u k => a u ((e u).mp k).1, fun i hi => ?_, fun u k1 k2 => ?_, fun i hi u k1 k2 => ?_⟩
  · by_cases w : i = n
    · rw [w, hv]
      exact ⟨a v o, fun k => ((e v).mp k).2 rfl, c⟩
    · rw [hq i (by omega)]
      have k := b i (by omega)
      exact ⟨k.1, fun z => k.2.1 ((e _).mp z).1, k.2.2⟩
  · by_cases w : u = v
    · exact ⟨n, by omega, by rw [hv, w]⟩
    · obtain ⟨i, hi, z⟩ := d u k1 (fun z => k2 ((e u).mpr ⟨z, w⟩))
      exact ⟨i, by omega, by rw [hq i hi, z]⟩
  · rw [hq i (by omega)] at k1
    exact f i hi u k1 ((e u).mp k2).1
theorem fl_next {O0 O : Int × Int → Prop} {p : Int × Int} {q : Nat → Int × Int} {m n m1 : Nat} (h : flI O0 p O q m n) (hm : m1 = m + 1) (a1 : ¬ O ((q m).1 + 1, (q m).2)) (a2 : ¬ O ((q m).1 - 1, (q m).2)) (a3 : ¬ O ((q m).1, (q m).2 + 1)) (a4 : ¬ O ((q m).1, (q m).2 - 1)) : flI O0 p O q m1 n := by
  refine ⟨h.1, h.2.1, h.2.2.1, fun i hi v k => ?_⟩
  by_cases w : i = m
  · rw [w] at k
    rcases k with ⟨k1, k2 | k2⟩ | ⟨k1, k2 | k2⟩
    · rw [show v = ((q m).1 + 1, (q m).2) from Prod.ext k2 k1.symm]; exact a1
    · rw [show v = ((q m).1 - 1, (q m).2) from Prod.ext k2 k1.symm]; exact a2
    · rw [show v = ((q m).1, (q m).2 + 1) from Prod.ext k1.symm k2]; exact a3
    · rw [show v = ((q m).1, (q m).2 - 1) from Prod.ext k1.symm k2]; exact a4
  · exact h.2.2.2 i (by omega) v k
theorem fl_end {O0 O : Int × Int → Prop} {p : Int × Int} {q : Nat → Int × Int} {m n : Nat} (h : flI O0 p O q m n) (hm : n ≤ m) (op : O0 p) (np : ¬ O p) (u : Int × Int) : O u ↔ O0 u ∧ ¬ con O0 p u := by
  constructor
  · intro o
    refine ⟨h.1 u o, fun c => ?_⟩
    have k := c (fun a => O0 a ∧ ¬ O a) ⟨op, np⟩ (fun a b t e d => by
      obtain ⟨i, hi, z⟩ := h.2.2.1 a t.1 t.2
      rw [← z] at e
      exact ⟨d, h.2.2.2 i (by omega) b e⟩)
    exact k.2 o
  · rintro ⟨o, c⟩
    refine Classical.byContradiction (fun k => ?_)
    obtain ⟨i, hi, z⟩ := h.2.2.1 u o k
    have w := (h.2.1 i hi).2.2
    rw [z] at w
    exact c w
/-- an island's places, their number and ends -/
noncomputable def cpB (D : Int × Int → Prop) (p : Int × Int) (x y : Int) : Bool := @decide (D (x, y) ∧ con D p (x, y)) (Classical.propDecidable _)
theorem cpB_t {D : Int × Int → Prop} {p : Int × Int} {x y : Int} : cpB D p x y = true ↔ D (x, y) ∧ con D p (x, y) := by
  unfold cpB
  exact @decide_eq_true_iff _ (Classical.propDecidable _)
/-- the part of one set that another one lacks -/
def dfB (O0 O : Int → Int → Bool) (x y : Int) : Bool := O0 x y && !O x y
theorem dfB_t {O0 O : Int → Int → Bool} {x y : Int} : dfB O0 O x y = true ↔ O0 x y = true ∧ O x y = false := by
  unfold dfB; rw [Bool.and_eq_true, Bool.not_eq_true']
theorem dfB_0 {O : Int → Int → Bool} (x y : Int) : dfB O O x y = false := by
  unfold dfB
  cases O x y <;> rfl
def B2P (O : Int → Int → Bool) (u : Int × Int) : Prop := O u.1 u.2 = true
theorem ex_uni {D : Int → Int → Bool} {e f : B4} (h : exD D e) (k : exD D f) : e = f := by
  obtain ⟨⟨y1, a1⟩, ⟨x2, a2⟩, ⟨y3, a3⟩, ⟨x4, a4⟩, al⟩ := h
  obtain ⟨⟨v1, b1⟩, ⟨u2, b2⟩, ⟨v3, b3⟩, ⟨u4, b4⟩, bl⟩ := k
  have r1 := al _ _ b1
  have r2 := al _ _ b2
  have r3 := al _ _ b3
  have r4 := al _ _ b4
  have s1 := bl _ _ a1
  have s2 := bl _ _ a2
  have s3 := bl _ _ a3
  have s4 := bl _ _ a4
  exact Prod.ext (by omega) (Prod.ext (by omega) (Prod.ext (by omega) (by omega)))
theorem ex_add {D E : Int → Int → Bool} {x y l t r b l1 t1 r1 b1 : Int} (h : exD D (l, t, r, b)) (e : ∀ X Y, E X Y = (D X Y || decide (X = x ∧ Y = y))) (hl : l1 = min l x) (ht : t1 = min t y) (hr : r1 = max r x) (hb : b1 = max b y) : exD E (l1, t1, r1, b1) := by
  obtain ⟨⟨y1, a1⟩, ⟨x2, a2⟩, ⟨y3, a3⟩, ⟨x4, a4⟩, al⟩ := h
  have L : ∀ X Y, D X Y = true → E X Y = true := fun X Y p => by rw [e, p]; rfl
  have M : E x y = true := by rw [e, decide_eq_true ⟨rfl, rfl⟩, Bool.or_true]
  refine ⟨?_, ?_, ?_, ?_, fun X Y p => ?_⟩
  · rcases Int.le_total l x with w | w
    · exact ⟨y1, by show E l1 y1 = true; rw [show l1 = l by omega]; exact L _ _ a1⟩
    · exact ⟨y, by show E l1 y = true; rw [show l1 = x by omega]; exact M⟩
  · rcases Int.le_total t y with w | w
    · exact ⟨x2, by show E x2 t1 = true; rw [show t1 = t by omega]; exact L _ _ a2⟩
    · exact ⟨x, by show E x t1 = true; rw [show t1 = y by omega]; exact M⟩
  · rcases Int.le_total r x with w | w
    · exact ⟨y, by show E r1 y = true; rw [show r1 = x by omega]; exact M⟩
    · exact ⟨y3, by show E r1 y3 = true; rw [show r1 = r by omega]; exact L _ _ a3⟩
  · rcases Int.le_total b y with w | w
    · exact ⟨x, by show E x b1 = true; rw [show b1 = y by omega]; exact M⟩
    · exact ⟨x4, by show E x4 b1 = true; rw [show b1 = b by omega]; exact L _ _ a4⟩
  · show (l1 ≤ X ∧ X ≤ r1) ∧ (t1 ≤ Y ∧ Y ≤ b1)
    rw [e, Bool.or_eq_true, decide_eq_true_iff] at p
    rcases p with p | p
    · have k := al _ _ p
      have k1 : (l ≤ X ∧ X ≤ r) ∧ (t ≤ Y ∧ Y ≤ b) := k
      omega
    · omega
theorem ex_one {E : Int → Int → Bool} {x y : Int} (e : ∀ X Y, E X Y = decide (X = x ∧ Y = y)) : exD E (x, y, x, y) := ⟨⟨y, by rw [e]; exact decide_eq_true ⟨rfl, rfl⟩⟩, ⟨x, by rw [e]; exact decide_eq_true ⟨rfl, rfl⟩⟩, ⟨y, by rw [e]; exact decide_eq_true ⟨rfl, rfl⟩⟩, ⟨x, by rw [e]; exact decide_eq_true ⟨rfl, rfl⟩⟩, fun X Y p => by rw [e, decide_eq_true_iff] at p; show (x ≤ X ∧ X ≤ x) ∧ (y ≤ Y ∧ Y ≤ y); omega⟩
/-- how many, and where, in words of the class: what is open, in the mask of the flood -/
theorem df_cnt {O0 O : Int → Int → Bool} (h : ∀ x y, O x y = true → O0 x y = true) : cntD O0 = cntD O + cntD (dfB O0 O) := cnt_add (fun x y _ _ _ _ => by
    unfold dfB
    have k := h x y
    cases p : O x y <;> cases q : O0 x y
    · rfl
    · rfl
    · rw [p, q] at k; exact absurd (k rfl) (by decide)
    · rfl) (fun x y q => by
    have k := (dfB_t.mp q.2).2
    rw [q.1] at k; cases k)
/-- the flood of the class -/
def opn (Q : Nat → Nat → Option Nat) (J : Nat → Nat → Int64) (F : Nat) : Int → Int → Bool := md (J (wo Q (a0 Q F 0)))
def qdc (v : Int32) : Int × Int := (v.toInt % 100, v.toInt / 100)
def takR (Q : Nat → Nat → Option Nat) (I I1 : Nat → Nat → Int32) (J J1 : Nat → Nat → Int64) (F : Nat) (x y : Int) : Prop := (opn Q J F x y = false → I1 F = I F ∧ I1 (a0 Q F 1) = I (a0 Q F 1) ∧ J1 (wo Q (a0 Q F 0)) = J (wo Q (a0 Q F 0))) ∧ (opn Q J F x y = true → (I F 2).toInt < 4000 → (∀ X Y, opn Q J1 F X Y = (opn Q J F X Y && !decide (X = x ∧ Y = y))) ∧ (I1 F 2).toInt = (I F 2).toInt + 1 ∧ I1 F 3 = I F 3 ∧ (∀ i : Nat, ¬ i = (I F 2).toInt.toNat → I1 (a0 Q F 1) i = I (a0 Q F 1) i) ∧ (I1 (a0 Q F 1) (I F 2).toInt.toNat).toInt = 100 * y + x ∧ ((I1 F 4).toInt = min (I F 4).toInt x ∧ (I1 F 6).toInt = max (I F 6).toInt x) ∧ (I1 F 5).toInt = min (I F 5).toInt y ∧ (I1 F 7).toInt = max (I F 7).toInt y)
def flS (Q : Nat → Nat → Option Nat) (I : Nat → Nat → Int32) (J : Nat → Nat → Int64) (O0 : Int → Int → Bool) (p : Int × Int) (F m : Nat) : Prop := flI (B2P O0) p (B2P (opn Q J F)) (fun i => qdc (I (a0 Q F 1) i)) m (I F 2).toInt.toNat ∧ 1 ≤ (I F 2).toInt ∧ (I F 2).toInt + (cntD (opn Q J F) : Int) = (cntD O0 : Int) ∧ exD (dfB O0 (opn Q J F)) ((I F 4).toInt, (I F 5).toInt, (I F 6).toInt, (I F 7).toInt)
theorem rm_df {O0 O O1 : Int → Int → Bool} {x y : Int} (e : ∀ X Y, O1 X Y = (O X Y && !decide (X = x ∧ Y = y))) (p : O0 x y = true) (X Y : Int) : dfB O0 O1 X Y = (dfB O0 O X Y || decide (X = x ∧ Y = y)) := by
  unfold dfB
  rw [e]
  by_cases w : X = x ∧ Y = y
  · rw [decide_eq_true w, w.1, w.2, p]; simp
  · rw [decide_eq_false w]; simp
theorem rm_cnt {O O1 : Int → Int → Bool} {x y : Int} (e : ∀ X Y, O1 X Y = (O X Y && !decide (X = x ∧ Y = y))) (o : O x y = true) (hx : 0 ≤ x ∧ x < 128) (hy : 0 ≤ y ∧ y < 40) : cntD O = cntD O1 + 1 := cnt_1 hx hy (by rw [e, decide_eq_true ⟨rfl, rfl⟩]; simp) (fun X Y _ _ _ _ => by
    rw [e]
    by_cases w : X = x ∧ Y = y
    · rw [decide_eq_true w, w.1, w.2, o]; rfl
    · rw [decide_eq_false w]; simp)
theorem rm_B {O O1 : Int → Int → Bool} {x y : Int} (e : ∀ X Y, O1 X Y = (O X Y && !decide (X = x ∧ Y = y))) (u : Int × Int) : B2P O1 u ↔ B2P O u ∧ ¬ u = (x, y) := by
  unfold B2P
  rw [e, Bool.and_eq_true, Bool.not_eq_true', decide_eq_false_iff_not]
  exact ⟨fun k => ⟨k.1, fun z => k.2 (by rw [z]; exact ⟨rfl, rfl⟩)⟩, fun k => ⟨k.1, fun z => k.2 (Prod.ext z.1 z.2)⟩⟩
theorem qdc_of {v : Int32} {x y : Int} (e : v.toInt = 100 * y + x) (hx : 0 ≤ x ∧ x < 100) : qdc v = (x, y) := by
  unfold qdc
  rw [e]
  exact Prod.ext (by show (100 * y + x) % 100 = x; omega) (by show (100 * y + x) / 100 = y; omega)
section
variable {Q : Nat → Nat → Option Nat} {I I1 : Nat → Nat → Int32} {J J1 : Nat → Nat → Int64} {O0 : Int → Int → Bool} {F m : Nat} {x y : Int} {p : Int × Int}
theorem fs_first (e0 : ∀ X Y, opn Q J F X Y = O0 X Y) (n0 : (I F 2).toInt = 0) (l : (I F 4).toInt = x ∧ (I F 6).toInt = x) (b : (I F 5).toInt = y ∧ (I F 7).toInt = y) (t : takR Q I I1 J J1 F x y) (o : O0 x y = true) (hx : 0 ≤ x ∧ x < 100) (hy : 0 ≤ y ∧ y < 40) : flS Q I1 J1 O0 (x, y) F 0 ∧ opn Q J1 F x y = false := by
  obtain ⟨a1, a2, a3, a4, a5, ⟨a6, a7⟩, a8, a9⟩ := t.2 (by rw [e0]; exact o) (by omega)
  have eO : opn Q J F = O0 := funext fun X => funext fun Y => e0 X Y
  rw [eO] at a1
  refine ⟨⟨?_, by omega, ?_, ?_⟩, by rw [a1, decide_eq_true ⟨rfl, rfl⟩]; simp⟩
  · exact fl_take (O := B2P O0) (v := (x, y)) (q := fun i => qdc (I (a0 Q F 1) i)) (n := 0) (fl_0 (fun u => Iff.rfl)) (Nat.le_refl _) o (con_refl _) (rm_B a1) (by omega) (fun i hi => absurd hi (Nat.not_lt_zero _)) (by
      have k := a5
      rw [n0, show (0 : Int).toNat = 0 from rfl] at k
      exact qdc_of k hx)
  · have k := rm_cnt a1 o (by omega) hy
    omega
  · rw [show ((I1 F 4).toInt, (I1 F 5).toInt, (I1 F 6).toInt, (I1 F 7).toInt) = (x, y, x, y) from Prod.ext (by show (I1 F 4).toInt = x; omega) (Prod.ext (by show (I1 F 5).toInt = y; omega) (Prod.ext (by show (I1 F 6).toInt = x; omega) (by show (I1 F 7).toInt = y; omega)))]
    exact ex_one (fun X Y => by rw [rm_df a1 o, dfB_0]; rfl)
theorem fs_take (h : flS Q I J O0 p F m) (hm : m ≤ (I F 2).toInt.toNat) (t : takR Q I I1 J J1 F x y) (c : opn Q J F x y = true → con (B2P O0) p (x, y)) (r : ∀ X Y, O0 X Y = true → (0 ≤ X ∧ X < 100) ∧ 0 ≤ Y ∧ Y < 40) : flS Q I1 J1 O0 p F m ∧ opn Q J1 F x y = false ∧ (∀ X Y, opn Q J F X Y = false → opn Q J1 F X Y = false) ∧ (I F 2).toInt ≤ (I1 F 2).toInt ∧ (∀ i, i < (I F 2).toInt.toNat → I1 (a0 Q F 1) i = I (a0 Q F 1) i) ∧ I1 F 3 = I F 3 := by
  cases o : opn Q J F x y with
  | false =>
    obtain ⟨b1, b2, b3⟩ := t.1 o
    have eJ : opn Q J1 F = opn Q J F := by unfold opn; rw [b3]
    refine ⟨?_, by rw [eJ]; exact o, fun X Y k => by rw [eJ]; exact k, by rw [b1]; exact Int.le_refl _, fun i _ => by rw [b2], by rw [b1]⟩
    unfold flS
    rw [b1, b2, eJ]
    exact h
  | true =>
    obtain ⟨h1, h2, h3, h4⟩ := h
    have oo : O0 x y = true := h1.1 (x, y) o
    have rr := r x y oo
    have lim : (cntD O0 : Int) ≤ ((40 : Nat) : Int) * ((100 : Nat) : Int) := cnt_box (x0 := 0) (y0 := 0) (w := 100) 40 (fun X Y k => by have := r X Y k; omega)
    have pos : ¬ cntD (opn Q J F) = 0 := fun z => by
      have k := cnt_z.mp z x y rr.1.1 (by omega) rr.2.1 rr.2.2
      rw [o] at k; cases k
    obtain ⟨a1, a2, a3, a4, a5, ⟨a6, a7⟩, a8, a9⟩ := t.2 o (by omega)
    have k := rm_cnt a1 o (by omega) rr.2
    refine ⟨⟨?_, by omega, by omega, ?_⟩, by rw [a1, decide_eq_true ⟨rfl, rfl⟩]; simp, fun X Y z => by rw [a1, z]; rfl, by omega, fun i hi => a4 i (by omega), a3⟩
    · exact fl_take (v := (x, y)) h1 hm o (c o) (rm_B a1) (by omega) (fun i hi => by show qdc (I1 (a0 Q F 1) i) = qdc (I (a0 Q F 1) i); rw [a4 i (by omega)]) (qdc_of a5 rr.1)
    · exact ex_add h4 (rm_df a1 oo) a6 a8 a7 a9
theorem fs_ok {w h : Int} (s : flS Q I J O0 p F m) (ok : okm w h (J1 (wo Q (a0 Q F 0)))) (e : O0 = opn Q J1 F) : okm w h (J (wo Q (a0 Q F 0))) := ⟨ok.1, ok.2.1, fun X Y k => ok.2.2 X Y (by
    have z := s.1.1 (X, Y) k
    rw [e] at z
    exact z)⟩
theorem fs_con (s : flS Q I J O0 p F m) (hm : m < (I F 2).toInt.toNat) {px py : Int} (e : qdc (I (a0 Q F 1) m) = (px, py)) {v : Int × Int} (a : adj (px, py) v) (d : O0 v.1 v.2 = true) : con (B2P O0) p v := by
  have k := (s.1.2.1 m hm).2.2
  have e2 : (fun i => qdc (I (a0 Q F 1) i)) m = (px, py) := e
  rw [e2] at k
  exact con_step k a d
theorem fs_next (s : flS Q I J O0 p F m) {px py : Int} {m1 : Nat} (e : qdc (I (a0 Q F 1) m) = (px, py)) (hm : m1 = m + 1) (a1 : opn Q J F (px + 1) py = false) (a2 : opn Q J F (px - 1) py = false) (a3 : opn Q J F px (py + 1) = false) (a4 : opn Q J F px (py - 1) = false) : flS Q I J O0 p F m1 := by
  have no : ∀ a b, opn Q J F a b = false → ¬ B2P (opn Q J F) (a, b) := fun a b k z => by
    have z2 : opn Q J F a b = true := z
    rw [k] at z2; cases z2
  exact ⟨fl_next s.1 hm (by rw [e]; exact no _ _ a1) (by rw [e]; exact no _ _ a2) (by rw [e]; exact no _ _ a3) (by rw [e]; exact no _ _ a4), s.2⟩
theorem fs_set {v : Int32} (s : flS Q I J O0 p F m) (ne : ¬ a0 Q F 1 = F) (e : I1 = va_up I F (upd (I F) 3 v)) : flS Q I1 J O0 p F m := by
  have e1 : I1 (a0 Q F 1) = I (a0 Q F 1) := by rw [e]; exact va_up_ne _ _ ne
  have e2 : ∀ k, ¬ k = 3 → I1 F k = I F k := fun k hk => by rw [e, rz_fr _ _ _ _ hk]
  unfold flS
  rw [e1, e2 2 (by decide), e2 4 (by decide), e2 5 (by decide), e2 6 (by decide), e2 7 (by decide)]
  exact s
/-- what one call takes: the island of a row's first open place -/
def tiR (Q : Nat → Nat → Option Nat) (I1 : Nat → Nat → Int32) (J J1 : Nat → Nat → Int64) (F : Nat) (y r : Int) : Prop := (r = 0 → (∀ x, opn Q J F x y = false) ∧ ∀ X Y, opn Q J1 F X Y = opn Q J F X Y) ∧ (¬ r = 0 → ∃ x, opn Q J F x y = true ∧ (∀ x2, x2 < x → opn Q J F x2 y = false) ∧ (∀ u, B2P (opn Q J1 F) u ↔ B2P (opn Q J F) u ∧ ¬ con (B2P (opn Q J F)) (x, y) u) ∧ (I1 F 3).toInt = (cntD (dfB (opn Q J F) (opn Q J1 F)) : Int) ∧ exD (dfB (opn Q J F) (opn Q J1 F)) ((I1 F 4).toInt, (I1 F 5).toInt, (I1 F 6).toInt, (I1 F 7).toInt))
theorem ti_end (s : flS Q I1 J1 (opn Q J F) (x, y) F m) (hm : (I1 F 2).toInt.toNat ≤ m) (h3 : (I1 F 3).toInt = (I1 F 2).toInt) (o : opn Q J F x y = true) (n : opn Q J1 F x y = false) (f : ∀ x2, x2 < x → opn Q J F x2 y = false) : ∃ x, opn Q J F x y = true ∧ (∀ x2, x2 < x → opn Q J F x2 y = false) ∧ (∀ u, B2P (opn Q J1 F) u ↔ B2P (opn Q J F) u ∧ ¬ con (B2P (opn Q J F)) (x, y) u) ∧ (I1 F 3).toInt = (cntD (dfB (opn Q J F) (opn Q J1 F)) : Int) ∧ exD (dfB (opn Q J F) (opn Q J1 F)) ((I1 F 4).toInt, (I1 F 5).toInt, (I1 F 6).toInt, (I1 F 7).toInt) := by
  refine ⟨x, o, f, fl_end s.1 hm o (fun z => by
    have z2 : opn Q J1 F x y = true := z
    rw [n] at z2; cases z2), ?_, s.2.2.2⟩
  have k := df_cnt (O0 := opn Q J F) (O := opn Q J1 F) (fun X Y z => s.1.1 (X, Y) z)
  have k2 := s.2.2.1
  omega
end
/-! the class's walk over rows -/
theorem sc_lo {D O : Int × Int → Prop} {y x n x2 : Int} (h : scI D O y x n) (hx : x2 < x) : ¬ O (x2, y) := fun o => by
  have d := (h.1 _).mp o
  exact d.2 ⟨(x2, y), d.1, Or.inr ⟨rfl, hx⟩, con_refl _⟩
theorem sc_skips {D O : Int × Int → Prop} {y n : Int} (hy : 0 ≤ y) : ∀ (k : Nat) {x X : Int}, scI D O y x n → 0 ≤ x → X = x + (k : Int) → X ≤ 100 → (∀ x2, x ≤ x2 → x2 < X → ¬ O (x2, y)) → scI D O y X n := by
  intro k
  induction k with
  | zero => intro x X h _ e _ _; rw [show X = x by omega]; exact h
  | succ k ih =>
    intro x X h h0 e hX no
    exact ih (x := x + 1) (sc_skip h (by omega) hy rfl (no x (Int.le_refl _) (by omega))) (by omega) (by omega) hX (fun x2 a b => no x2 (by omega) b)
theorem sc_to {D O : Int × Int → Prop} {y n x X : Int} (h : scI D O y x n) (hy : 0 ≤ y) (h0 : 0 ≤ x) (hX : X ≤ 100) (no : ∀ x2, x ≤ x2 → x2 < X → ¬ O (x2, y)) (le : x ≤ X) : scI D O y X n := sc_skips hy (X - x).toNat h h0 (by omega) hX no
theorem scI_eq {D O O1 : Int × Int → Prop} {y n x : Int} (h : scI D O y x n) (e : ∀ u, O1 u ↔ O u) : scI D O1 y x n := ⟨fun u => (e u).trans (h.1 u), h.2⟩
theorem sc_b {D O : Int × Int → Prop} {y n x : Int} (h : scI D O y x n) (hy : 0 ≤ y ∧ y ≤ 40) (hx : 0 ≤ x ∧ x ≤ 100) : 0 ≤ n ∧ n ≤ 4100 := by
  have := isN_b D y x
  rw [h.2]; omega
noncomputable def isT (D : Int × Int → Prop) : Int := isN D 40 0
theorem isN_end {D : Int × Int → Prop} {h y : Int} (hD : ∀ u, D u → u.2 < h) (hy : h ≤ y) (h0 : 0 ≤ y) (h1 : y ≤ 40) : isT D = isN D y 0 := by
  unfold isT isN
  have q := nK_skip (P := fun k => fstP D (k % 100, k / 100)) (a := (100 * y + 0).toNat) (4000 - 100 * y).toNat (fun t a b f => by
    have k := hD _ f.1
    have k2 : (t : Int) / 100 < h := k
    omega)
  rw [show (100 * y + 0).toNat + (4000 - 100 * y).toNat = (100 * 40 + 0 : Int).toNat by omega] at q
  exact q
theorem sc_ok {Q : Nat → Nat → Option Nat} {J : Nat → Nat → Int64} {F : Nat} {f : Nat → Int64} {w h y x n : Int} (s : scI (B2P (md f)) (B2P (opn Q J F)) y x n) (ok : okm w h f) : okm w h (J (wo Q (a0 Q F 0))) := ⟨ok.1, ok.2.1, fun X Y k => ok.2.2 X Y ((s.1 (X, Y)).mp k).1⟩
theorem md_B {w h : Int} {f : Nat → Int64} (c : okm w h f) (u : Int × Int) (d : B2P (md f) u) : (0 ≤ u.1 ∧ u.1 < w) ∧ 0 ≤ u.2 ∧ u.2 < h := md_b c.2.2 _ _ d
section
variable {Q : Nat → Nat → Option Nat} {I1 : Nat → Nat → Int32} {J J1 : Nat → Nat → Int64} {F : Nat} {f : Nat → Int64} {w h y x n r k : Int}
theorem sc_no (s : scI (B2P (md f)) (B2P (opn Q J F)) y x n) (t : tiR Q I1 J J1 F y r) (hr : r = 0) (hy : 0 ≤ y) (hx : 0 ≤ x ∧ x ≤ 100) : scI (B2P (md f)) (B2P (opn Q J1 F)) y 100 n := by
  obtain ⟨a, b⟩ := t.1 hr
  refine scI_eq (sc_to s hy hx.1 (Int.le_refl _) (fun x2 _ _ z => ?_) hx.2) (fun u => by unfold B2P; rw [b])
  have z2 : opn Q J F x2 y = true := z
  rw [a] at z2; cases z2
theorem sc_yes (s : scI (B2P (md f)) (B2P (opn Q J F)) y x n) (t : tiR Q I1 J J1 F y r) (hr : ¬ r = 0) (c : okm w h f) (hy : 0 ≤ y) (hx : k ≤ x ∧ 0 ≤ x ∧ x ≤ 100) : (∃ x1, (k + 1 ≤ x1 ∧ 0 ≤ x1 ∧ x1 ≤ 100) ∧ scI (B2P (md f)) (B2P (opn Q J1 F)) y x1 (n + 1)) ∧ ∃ p, fstP (B2P (md f)) p ∧ isN (B2P (md f)) p.2 p.1 = n ∧ (I1 F 3).toInt = (cntD (cpB (B2P (md f)) p) : Int) ∧ exD (cpB (B2P (md f)) p) ((I1 F 4).toInt, (I1 F 5).toInt, (I1 F 6).toInt, (I1 F 7).toInt) := by
  obtain ⟨X, o, lo, e, c3, ex⟩ := t.2 hr
  have oB : B2P (opn Q J F) (X, y) := o
  have rg := md_B c _ ((s.1 _).mp oB).1
  have o1 := c.1
  have le : x ≤ X := Int.not_lt.mp (fun z => sc_lo s z oB)
  have s1 := sc_to s hy hx.2.1 (by have := rg.1.2; show X ≤ 100; have z : X < w := rg.1.2; omega) (fun x2 _ b z => by
    have z2 : opn Q J F x2 y = true := z
    rw [lo x2 b] at z2; cases z2) le
  have X0 : 0 ≤ X := rg.1.1
  have X1 : X < w := rg.1.2
  have eD : dfB (opn Q J F) (opn Q J1 F) = cpB (B2P (md f)) (X, y) := funext fun a => funext fun b => by
    apply Bool.eq_iff_iff.mpr
    rw [dfB_t, cpB_t]
    constructor
    · rintro ⟨p, q⟩
      have p2 : B2P (opn Q J F) (a, b) := p
      refine ⟨((s.1 _).mp p2).1, Classical.byContradiction (fun z => ?_)⟩
      have q2 : B2P (opn Q J1 F) (a, b) := (e _).mpr ⟨p2, fun k => z ((sc_con s1 oB).mp k)⟩
      have q3 : opn Q J1 F a b = true := q2
      rw [q] at q3; cases q3
    · rintro ⟨p, q⟩
      have p2 := sc_cl s1 oB q
      refine ⟨p2, ?_⟩
      cases z : opn Q J1 F a b with
      | false => rfl
      | true => exact absurd ((sc_con s1 oB).mpr q) ((e (a, b)).mp z).2
  refine ⟨⟨X + 1, by omega, sc_take s1 (by omega) hy rfl rfl oB e⟩, ⟨(X, y), sc_fst s1 oB, s1.2.symm, ?_, ?_⟩⟩
  · rw [c3, eD]
  · rw [← eD]; exact ex
end
theorem fst_uni {D : Int × Int → Prop} {p q : Int × Int} (r : ∀ u, D u → (0 ≤ u.1 ∧ u.1 < 100) ∧ 0 ≤ u.2 ∧ u.2 < 40) (fp : fstP D p) (fq : fstP D q) (e : isN D p.2 p.1 = isN D q.2 q.1) : p = q := by
  have rp := r p fp.1
  have rq := r q fq.1
  have a := isN_yes (D := D) (y := p.2) (x := p.1) (x1 := p.1 + 1) rp.1 rp.2.1 rfl fp
  have b := isN_yes (D := D) (y := q.2) (x := q.1) (x1 := q.1 + 1) rq.1 rq.2.1 rfl fq
  rcases Int.lt_trichotomy (100 * p.2 + p.1) (100 * q.2 + q.1) with w | w | w
  · have := isN_le (D := D) (y := p.2) (x := p.1 + 1) (y1 := q.2) (x1 := q.1) (by omega); omega
  · exact Prod.ext (by omega) (by omega)
  · have := isN_le (D := D) (y := q.2) (x := q.1 + 1) (y1 := p.2) (x1 := p.1) (by omega); omega
def ilA (w n : Int) (e : B4) : Int := if w = 0 then n else if w = 1 then e.1 else if w = 2 then e.2.1 else if w = 3 then e.2.2.1 else e.2.2.2
noncomputable def ilN (w t : Int) : Int := if w = 0 then t else -1
def ilF (D : Int → Int → Bool) (k w r : Int) : Prop := (k = -1 → r = ilN w (isT (B2P D))) ∧ (0 ≤ k → isT (B2P D) ≤ k → r = -1) ∧ (0 ≤ k → k < isT (B2P D) → ∃ p e, fstP (B2P D) p ∧ isN (B2P D) p.2 p.1 = k ∧ exD (cpB (B2P D) p) e ∧ r = ilA w (cntD (cpB (B2P D) p) : Int) e)
def ilV (σ : Sx) (m k w : Int32) : Prop := mK σ m ∧ -1 ≤ k.toInt ∧ 0 ≤ w.toInt ∧ w.toInt ≤ 4
def ilR (σ : Sx) (m k w r : Int32) : Prop := (ilV σ m k w → ilF (md (mF σ m)) k.toInt w.toInt r.toInt ∧ okm (mW σ m).toInt (mH σ m).toInt (mF σ m)) ∧ (¬ ilV σ m k w → r.toInt = -1)
theorem ilr_uni {σ : Sx} {m k w r s : Int32} (h : ilR σ m k w r) (g : ilR σ m k w s) : r = s := by
  by_cases q : ilV σ m k w
  · obtain ⟨⟨a1, a2, a3⟩, c⟩ := h.1 q
    obtain ⟨⟨b1, b2, b3⟩, -⟩ := g.1 q
    have rr : ∀ u, B2P (md (mF σ m)) u → (0 ≤ u.1 ∧ u.1 < 100) ∧ 0 ≤ u.2 ∧ u.2 < 40 := fun u d => by
      have := md_B c u d
      have := md_rng d
      have c1 := c.1
      omega
    by_cases w1 : k.toInt = -1
    · exact Int32.toInt_inj.mp ((a1 w1).trans (b1 w1).symm)
    · have k0 : 0 ≤ k.toInt := by have := q.2.1; omega
      by_cases w2 : isT (B2P (md (mF σ m))) ≤ k.toInt
      · exact Int32.toInt_inj.mp ((a2 k0 w2).trans (b2 k0 w2).symm)
      · obtain ⟨p, e, f1, f2, f3, f4⟩ := a3 k0 (by omega)
        obtain ⟨p2, e2, g1, g2, g3, g4⟩ := b3 k0 (by omega)
        have pe := fst_uni rr f1 g1 (f2.trans g2.symm)
        subst pe
        have ee := ex_uni f3 g3
        subst ee
        exact Int32.toInt_inj.mp (f4.trans g4.symm)
  · exact Int32.toInt_inj.mp ((h.2 q).trans (g.2 q).symm)
theorem fst_lt {D : Int × Int → Prop} {p : Int × Int} (r : ∀ u, D u → (0 ≤ u.1 ∧ u.1 < 100) ∧ 0 ≤ u.2 ∧ u.2 < 40) (f : fstP D p) : isN D p.2 p.1 < isT D := by
  have rp := r p f.1
  have a := isN_yes (D := D) (y := p.2) (x := p.1) (x1 := p.1 + 1) rp.1 rp.2.1 rfl f
  have b := isN_le (D := D) (y := p.2) (x := p.1 + 1) (y1 := 40) (x1 := 0) (by omega)
  unfold isT
  omega
theorem md_R {w h : Int} {f : Nat → Int64} (c : okm w h f) (u : Int × Int) (d : B2P (md f) u) : (0 ≤ u.1 ∧ u.1 < 100) ∧ 0 ≤ u.2 ∧ u.2 < 40 := by
  have a := md_B c u d
  have c1 := c.1
  have c2 := c.2.1
  omega
/-! islands, as the reference lays them: an array of numbers -/
def dsD (w h : Int) (f : Nat → Int64) (d : Int) (x y : Int) : Bool := decide ((0 ≤ x ∧ x < w) ∧ 0 ≤ y ∧ y < h) && decide (bi (md f x y) = d)
theorem dsD_t {w h : Int} {f : Nat → Int64} {d x y : Int} : dsD w h f d x y = true ↔ ((0 ≤ x ∧ x < w) ∧ 0 ≤ y ∧ y < h) ∧ bi (md f x y) = d := by
  unfold dsD; rw [Bool.and_eq_true, decide_eq_true_iff, decide_eq_true_iff]
theorem dsD_1 {w h : Int} {f : Nat → Int64} (c : mcl w h f) : dsD w h f 1 = md f := funext fun x => funext fun y => by
  apply Bool.eq_iff_iff.mpr
  rw [dsD_t]
  constructor
  · intro q
    cases k : md f x y with
    | true => rfl
    | false => have z := q.2; rw [k] at z; cases z
  · intro q
    exact ⟨md_b c x y q, by rw [q]; rfl⟩
def opA (A : Nat → Int32) (D : Int → Int → Bool) (X Y : Int) : Bool := D X Y && decide (A (100 * Y + X).toNat = -1)
theorem opA_t {A : Nat → Int32} {D : Int → Int → Bool} {X Y : Int} : opA A D X Y = true ↔ D X Y = true ∧ A (100 * Y + X).toNat = -1 := by
  unfold opA; rw [Bool.and_eq_true, decide_eq_true_iff]
def rgD (D : Int → Int → Bool) : Prop := ∀ X Y, D X Y = true → (0 ≤ X ∧ X < 100) ∧ 0 ≤ Y ∧ Y < 40
theorem opA_up {A : Nat → Int32} {D : Int → Int → Bool} {x y : Int} {v : Int32} (hv : ¬ v = -1) (r : rgD D) (o : opA A D x y = true) (X Y : Int) : opA (upd A (100 * y + x).toNat v) D X Y = (opA A D X Y && !decide (X = x ∧ Y = y)) := by
  have d := opA_t.mp o
  have rx := r x y d.1
  by_cases w : X = x ∧ Y = y
  · rw [decide_eq_true w, w.1, w.2]
    unfold opA upd
    rw [if_pos rfl, decide_eq_false hv]; simp
  · rw [decide_eq_false w]
    cases q : D X Y with
    | false => unfold opA; rw [q]; rfl
    | true =>
      have rX := r X Y q
      unfold opA upd
      rw [if_neg (by omega)]; simp
def lbI (A : Nat → Int32) (D : Int → Int → Bool) : Prop := ∀ x y : Int, (0 ≤ x ∧ x < 100) → (0 ≤ y ∧ y < 40) → A (100 * y + x).toNat = -1 ∨ (D x y = true ∧ ∃ f, fstP (B2P D) f ∧ con (B2P D) f (x, y) ∧ (A (100 * y + x).toNat).toInt = isN (B2P D) f.2 f.1)
def jnR (Q : Nat → Nat → Option Nat) (I I1 : Nat → Nat → Int32) (m : Nat) (D : Int → Int → Bool) (x y : Int) : Prop := (opA (I (a0 Q m 21)) D x y = false → I1 m = I m ∧ I1 (a0 Q m 21) = I (a0 Q m 21) ∧ I1 (a0 Q m 22) = I (a0 Q m 22)) ∧ (opA (I (a0 Q m 21)) D x y = true → I1 (a0 Q m 21) = upd (I (a0 Q m 21)) (100 * y + x).toNat (I m 23) ∧ (I1 m 24).toInt = (I m 24).toInt + 1 ∧ I1 m 23 = I m 23 ∧ (∀ i : Nat, ¬ i = (I m 24).toInt.toNat → I1 (a0 Q m 22) i = I (a0 Q m 22) i) ∧ (I1 (a0 Q m 22) (I m 24).toInt.toNat).toInt = 100 * y + x)
def frS (Q : Nat → Nat → Option Nat) (I : Nat → Nat → Int32) (m : Nat) (D O0 : Int → Int → Bool) (p : Int × Int) (k : Nat) : Prop := flI (B2P O0) p (B2P (opA (I (a0 Q m 21)) D)) (fun i => qdc (I (a0 Q m 22) i)) k (I m 24).toInt.toNat ∧ 0 ≤ (I m 24).toInt ∧ lbI (I (a0 Q m 21)) D ∧ (I m 23).toInt = isN (B2P D) p.2 p.1
section
variable {Q : Nat → Nat → Option Nat} {I I1 : Nat → Nat → Int32} {m k : Nat} {D O0 : Int → Int → Bool} {p : Int × Int} {x y : Int}
theorem fr_0 (q0 : (I m 24).toInt = 0) (e : O0 = opA (I (a0 Q m 21)) D) (l : lbI (I (a0 Q m 21)) D) (n : (I m 23).toInt = isN (B2P D) p.2 p.1) : frS Q I m D O0 p 0 := by
  refine ⟨?_, by omega, l, n⟩
  rw [show (I m 24).toInt.toNat = 0 by omega]
  exact fl_0 (fun u => by rw [e])
theorem fr_take (h : frS Q I m D O0 p k) (hk : k ≤ (I m 24).toInt.toNat) (t : jnR Q I I1 m D x y) (c : opA (I (a0 Q m 21)) D x y = true → con (B2P O0) p (x, y)) (r : rgD D) (sub : ∀ X Y, O0 X Y = true → D X Y = true) (fp : fstP (B2P D) p) : frS Q I1 m D O0 p k ∧ opA (I1 (a0 Q m 21)) D x y = false ∧ (∀ X Y, opA (I (a0 Q m 21)) D X Y = false → opA (I1 (a0 Q m 21)) D X Y = false) ∧ (I m 24).toInt ≤ (I1 m 24).toInt ∧ (∀ i, i < (I m 24).toInt.toNat → I1 (a0 Q m 22) i = I (a0 Q m 22) i) ∧ I1 m 23 = I m 23 := by
  obtain ⟨h1, h2, h3, h4⟩ := h
  cases o : opA (I (a0 Q m 21)) D x y with
  | false =>
    obtain ⟨b1, b2, b3⟩ := t.1 o
    refine ⟨?_, by rw [b2]; exact o, fun X Y z => by rw [b2]; exact z, by rw [b1]; exact Int.le_refl _, fun i _ => by rw [b3], by rw [b1]⟩
    unfold frS
    rw [b1, b2, b3]
    exact ⟨h1, h2, h3, h4⟩
  | true =>
    obtain ⟨a1, a2, a3, a4, a5⟩ := t.2 o
    have d := opA_t.mp o
    have rr := r x y d.1
    have nb := isN_b (B2P D) p.2 p.1
    have nv : ¬ I m 23 = -1 := fun z => by
      have z2 : (I m 23).toInt = -1 := by rw [z]; decide +kernel
      omega
    have up := opA_up nv r o
    rw [← a1] at up
    have cD : con (B2P D) p (x, y) := con_mono (fun a q => sub a.1 a.2 q) (c o)
    refine ⟨⟨?_, by omega, ?_, by rw [a3]; exact h4⟩, by rw [up, decide_eq_true ⟨rfl, rfl⟩]; simp, fun X Y z => by rw [up, z]; rfl, by omega, fun i hi => a4 i (by omega), a3⟩
    · exact fl_take (v := (x, y)) h1 hk o (c o) (rm_B up) (by omega) (fun i hi => by show qdc (I1 (a0 Q m 22) i) = qdc (I (a0 Q m 22) i); rw [a4 i (by omega)]) (qdc_of a5 rr.1)
    · intro X Y hX hY
      by_cases w : X = x ∧ Y = y
      · refine Or.inr ⟨by rw [w.1, w.2]; exact d.1, p, fp, by rw [w.1, w.2]; exact cD, ?_⟩
        rw [w.1, w.2, a1]
        unfold upd
        rw [if_pos rfl]
        exact h4
      · have e : I1 (a0 Q m 21) (100 * Y + X).toNat = I (a0 Q m 21) (100 * Y + X).toNat := by
          rw [a1]
          unfold upd
          rw [if_neg (by omega)]
        rw [e]
        exact h3 X Y hX hY
theorem fr_con (s : frS Q I m D O0 p k) (hk : k < (I m 24).toInt.toNat) {px py : Int} (e : qdc (I (a0 Q m 22) k) = (px, py)) {v : Int × Int} (a : adj (px, py) v) (d : O0 v.1 v.2 = true) : con (B2P O0) p v := by
  have z := (s.1.2.1 k hk).2.2
  have e2 : (fun i => qdc (I (a0 Q m 22) i)) k = (px, py) := e
  rw [e2] at z
  exact con_step z a d
theorem fr_next (s : frS Q I m D O0 p k) {px py : Int} {k1 : Nat} (e : qdc (I (a0 Q m 22) k) = (px, py)) (hk : k1 = k + 1) (a1 : opA (I (a0 Q m 21)) D (px + 1) py = false) (a2 : opA (I (a0 Q m 21)) D (px - 1) py = false) (a3 : opA (I (a0 Q m 21)) D px (py + 1) = false) (a4 : opA (I (a0 Q m 21)) D px (py - 1) = false) : frS Q I m D O0 p k1 := by
  have no : ∀ a b, opA (I (a0 Q m 21)) D a b = false → ¬ B2P (opA (I (a0 Q m 21)) D) (a, b) := fun a b z w => by
    have w2 : opA (I (a0 Q m 21)) D a b = true := w
    rw [z] at w2; cases w2
  exact ⟨fl_next s.1 hk (by rw [e]; exact no _ _ a1) (by rw [e]; exact no _ _ a2) (by rw [e]; exact no _ _ a3) (by rw [e]; exact no _ _ a4), s.2⟩
theorem fr_end (s : frS Q I m D O0 p k) (hk : (I m 24).toInt.toNat ≤ k) (o : O0 p.1 p.2 = true) (n : opA (I (a0 Q m 21)) D p.1 p.2 = false) (u : Int × Int) : B2P (opA (I (a0 Q m 21)) D) u ↔ B2P O0 u ∧ ¬ con (B2P O0) p u := fl_end s.1 hk o (fun z => by
    have z2 : opA (I (a0 Q m 21)) D p.1 p.2 = true := z
    rw [n] at z2; cases z2) u
end
theorem fst_con {D : Int × Int → Prop} {p q : Int × Int} (fp : fstP D p) (fq : fstP D q) (c : con D p q) : p = q := by
  have a : ¬ bef q.2 q.1 p := fun b => fq.2 ⟨p, fp.1, b, c⟩
  have b : ¬ bef p.2 p.1 q := fun b => fp.2 ⟨q, fq.1, b, con_sym fp.1 c⟩
  unfold bef at a b
  exact Prod.ext (by omega) (by omega)
/-- what lies in the array when all is laid -/
def lyR (A : Nat → Int32) (t : Int32) (D : Int → Int → Bool) : Prop := t.toInt = isT (B2P D) ∧ lbI A D ∧ ∀ x y, D x y = true → ¬ A (100 * y + x).toNat = -1
theorem ly_end {A : Nat → Int32} {t : Int32} {D : Int → Int → Bool} {h y : Int} (s : scI (B2P D) (B2P (opA A D)) y 0 t.toInt) (l : lbI A D) (hD : ∀ u, B2P D u → u.2 < h) (hy : h ≤ y) (h0 : 0 ≤ y) (h1 : y ≤ 40) : lyR A t D := by
  refine ⟨by rw [isN_end hD hy h0 h1]; exact s.2, l, fun X Y d z => ?_⟩
  have o : B2P (opA A D) (X, Y) := opA_t.mpr ⟨d, z⟩
  have k := (s.1 _).mp o
  have hd : B2P D (X, Y) := d
  have lt : Y < h := hD (X, Y) hd
  exact k.2 ⟨(X, Y), hd, Or.inl (by show Y < y; omega), con_refl _⟩
theorem ly_cp {A : Nat → Int32} {t : Int32} {D : Int → Int → Bool} {p : Int × Int} (r : rgD D) (s : lyR A t D) (fp : fstP (B2P D) p) {x y : Int} (hx : 0 ≤ x ∧ x < 100) (hy : 0 ≤ y ∧ y < 40) : (A (100 * y + x).toNat).toInt = isN (B2P D) p.2 p.1 ↔ cpB (B2P D) p x y = true := by
  have rr : ∀ u, B2P D u → (0 ≤ u.1 ∧ u.1 < 100) ∧ 0 ≤ u.2 ∧ u.2 < 40 := fun u d => r u.1 u.2 d
  have nb := isN_b (B2P D) p.2 p.1
  rw [cpB_t]
  constructor
  · intro e
    rcases s.2.1 x y hx hy with z | ⟨d, f, a, b, c⟩
    · have z2 : (A (100 * y + x).toNat).toInt = -1 := by rw [z]; decide +kernel
      omega
    · have k := fst_uni rr a fp (c.symm.trans e)
      rw [k] at b
      exact ⟨d, b⟩
  · rintro ⟨d, c⟩
    rcases s.2.1 x y hx hy with z | ⟨_, f, a, b, e⟩
    · exact absurd z (s.2.2 x y d)
    · have k := fst_con fp a (con_tr c (con_sym a.1 b))
      rw [e, k]
theorem ly_ex {D : Int → Int → Bool} (r : rgD D) {n : Int} (h0 : 0 ≤ n) (h1 : n < isT (B2P D)) : ∃ p, fstP (B2P D) p ∧ isN (B2P D) p.2 p.1 = n := by
  have key : ∀ t : Nat, n < nK (fun k => fstP (B2P D) (k % 100, k / 100)) t → ∃ j : Nat, j < t ∧ fstP (B2P D) ((j : Int) % 100, (j : Int) / 100) ∧ nK (fun k => fstP (B2P D) (k % 100, k / 100)) j = n := by
    intro t
    induction t with
    | zero => intro q; exact absurd q (by show ¬ n < 0; omega)
    | succ t ih =>
      intro q
      by_cases w : n < nK (fun k => fstP (B2P D) (k % 100, k / 100)) t
      · obtain ⟨j, a, b⟩ := ih w
        exact ⟨j, by omega, b⟩
      · have q2 : n < nK (fun k => fstP (B2P D) (k % 100, k / 100)) t + @ite _ (fstP (B2P D) ((t : Int) % 100, (t : Int) / 100)) (Classical.propDecidable _) 1 0 := q
        by_cases f : fstP (B2P D) ((t : Int) % 100, (t : Int) / 100)
        · rw [if_pos f] at q2
          exact ⟨t, by omega, f, by omega⟩
        · rw [if_neg f] at q2; omega
  obtain ⟨j, a, b, c⟩ := key _ h1
  refine ⟨_, b, ?_⟩
  unfold isN
  rw [show (100 * ((j : Int) / 100) + (j : Int) % 100).toNat = j by omega]
  exact c
/-- the reference counts an island's places one by one -/
def exI (C : Int → Int → Bool) (y x n l t r b : Int) : Prop := n = (cntD (ahD C y x) : Int) ∧ (((∀ X Y, ahD C y x X Y = false) ∧ (l = 100 ∧ t = 40) ∧ r = 0 ∧ b = 0) ∨ exD (ahD C y x) (l, t, r, b))
theorem exI_0 {C : Int → Int → Bool} (r : rgD C) : exI C 0 0 0 100 40 0 0 := by
  have z : ∀ X Y, ahD C 0 0 X Y = false := fun X Y => ah_lo (fun a b q => by have := r a b q; omega) X Y
  refine ⟨?_, Or.inl ⟨z, ⟨rfl, rfl⟩, rfl, rfl⟩⟩
  rw [cnt_z.mpr (fun X Y _ _ _ _ => z X Y)]; rfl
theorem exI_mv {C : Int → Int → Bool} {y x y1 x1 n l t r b : Int} (h : exI C y x n l t r b) (e : ∀ X Y, ahD C y1 x1 X Y = ahD C y x X Y) : exI C y1 x1 n l t r b := by
  have z : ahD C y1 x1 = ahD C y x := funext fun X => funext fun Y => e X Y
  unfold exI
  rw [z]
  exact h
theorem exI_yes {C : Int → Int → Bool} {y x x1 n n1 l t r b l1 t1 r1 b1 : Int} (h : exI C y x n l t r b) (rg : rgD C) (p : C x y = true) (h1 : x1 = x + 1) (hn : n1 = n + 1) (hl : l1 = min l x) (ht : t1 = min t y) (hr : r1 = max r x) (hb : b1 = max b y) : exI C y x1 n1 l1 t1 r1 b1 := by
  have q := rg x y p
  have e := ah_yes (D := C) (Y := y) (X := x) h1 p
  refine ⟨?_, Or.inr ?_⟩
  · rw [cnt_1 (D := ahD C y x) (E := ahD C y x1) (x := x) (y := y) ⟨q.1.1, by omega⟩ q.2 ah_me (fun X Y _ _ _ _ => e X Y), hn, h.1]
    omega
  · rcases h.2 with ⟨z, a, c⟩ | k
    · have z1 : ∀ X Y, ahD C y x1 X Y = decide (X = x ∧ Y = y) := fun X Y => by rw [e, z]; rfl
      rw [show l1 = x by omega, show t1 = y by omega, show r1 = x by omega, show b1 = y by omega]
      exact ex_one z1
    · exact ex_add k e hl ht hr hb
theorem exI_end {C : Int → Int → Bool} {y x n l t r b : Int} (h : exI C y x n l t r b) (e : ∀ X Y, ahD C y x X Y = C X Y) (ne : ∃ X Y, C X Y = true) : n = (cntD C : Int) ∧ exD C (l, t, r, b) := by
  have z : ahD C y x = C := funext fun X => funext fun Y => e X Y
  unfold exI at h
  rw [z] at h
  refine ⟨h.1, ?_⟩
  rcases h.2 with ⟨a, -⟩ | k
  · obtain ⟨X, Y, p⟩ := ne
    rw [a] at p; cases p
  · exact k
theorem cpB_rg {D : Int → Int → Bool} {p : Int × Int} (r : rgD D) : rgD (cpB (B2P D) p) := fun X Y q => r X Y (cpB_t.mp q).1
