/-! What a text tells: the parser's answer, as a function of the bytes -/
theorem narB (x : Int32) : -128 ≤ (vp_nar .byte x).toInt ∧ (vp_nar .byte x).toInt ≤ 127 := by
  rw [vp_nar_byte]
  have h1 := Int8.le_toInt x.toInt8
  have h2 := Int8.toInt_lt x.toInt8
  have e : x.toInt8.toInt32.toInt = x.toInt8.toInt := by simp
  rw [e]; omega
theorem tpX {L : List Nat} {K G : Nat → Nat} {Q : Nat → Nat → Option Nat} {x0 m0 : Nat} {tx : GT} {tm : GT × Int} {I : Nat → Nat → Int32} {p0 : Nat} (hQ : Sv L K G Q) (h : Iv L K x0 m0 tx tm I) (hL : p0 ∈ L) (hK : K p0 = 6) : I tx.2.1 = tx.2.2 := by
  obtain ⟨y, -, hy, ky⟩ := oQ_6_0 (Sv_at hQ hL hK)
  have q := h.2.2.2.2.2.1 y hy ky
  rw [← q.1]; exact q.2.1
theorem tpM {L : List Nat} {K G : Nat → Nat} {Q : Nat → Nat → Option Nat} {x0 m0 : Nat} {tx : GT} {tm : GT × Int} {I : Nat → Nat → Int32} {p0 : Nat} (hQ : Sv L K G Q) (h : Iv L K x0 m0 tx tm I) (hL : p0 ∈ L) (hK : K p0 = 7) : I tm.1.2.1 = tm.1.2.2 := by
  obtain ⟨y, -, hy, ky⟩ := oQ_7_12 (Sv_at hQ hL hK)
  have q := h.2.2.2.2.2.2 y hy ky
  rw [← q.1]; exact q.2.1
theorem tpB {L : List Nat} {K G : Nat → Nat} {Q : Nat → Nat → Option Nat} {x0 m0 : Nat} {tx : GT} {tm : GT × Int} {I : Nat → Nat → Int32} {p0 : Nat} (hQ : Sv L K G Q) (h : Iv L K x0 m0 tx tm I) (hL : p0 ∈ L) (hK : K p0 = 7) (k : Nat) : -128 ≤ (tm.1.2.2 k).toInt ∧ (tm.1.2.2 k).toInt ≤ 127 := by
  obtain ⟨y, -, hy, ky⟩ := oQ_7_12 (Sv_at hQ hL hK)
  exact (h.2.2.2.2.2.2 y hy ky).2.2 k
theorem tpC {L : List Nat} {K G : Nat → Nat} {Q : Nat → Nat → Option Nat} {x0 m0 : Nat} {tx : GT} {tm : GT × Int} {I : Nat → Nat → Int32} {p0 : Nat} (hQ : Sv L K G Q) (h : Iv L K x0 m0 tx tm I) (hL : p0 ∈ L) (hK : K p0 = 4) (k : Nat) : -128 ≤ (tx.2.2 k).toInt ∧ (tx.2.2 k).toInt ≤ 127 := by
  obtain ⟨y, -, hy, ky⟩ := oQ_4_0 (Sv_at hQ hL hK)
  exact (h.2.2.2.2.2.1 y hy ky).2.2 k
/-- the byte at a place; far below behind the end -/
def tb (f : Nat → Int32) (n k : Int) : Int := if 0 ≤ k ∧ k < n then (f k.toNat).toInt else -1000
theorem tb_at {f : Nat → Int32} {n k : Int} {z : Int32} (h0 : 0 ≤ k) (h : k < n) (e : z = f k.toNat) : tb f n k = z.toInt := by
  unfold tb; rw [if_pos ⟨h0, h⟩, e]
theorem tb_end {f : Nat → Int32} {n k : Int} (h : n ≤ k) : tb f n k = -1000 := if_neg (by omega)
theorem tb_in {f : Nat → Int32} {n k : Int} (h : ¬ tb f n k = -1000) : k < n := by
  rcases Int.lt_or_le k n with q | q
  · exact q
  · exact absurd (tb_end q) h
theorem tb_agr {f g : Nat → Int32} {n : Int} (h : ∀ k : Nat, k < n.toNat → f k = g k) : tb f n = tb g n := by
  funext k
  unfold tb
  split
  · next w => rw [h k.toNat (by omega)]
  · rfl
def runP (P : Int → Bool) : Nat → Int → Int
  | 0, i => i
  | k + 1, i => if P i then runP P k (i + 1) else i
theorem runP_eq {P : Int → Bool} : ∀ {m : Nat} {i j : Int}, i ≤ j → j ≤ i + m → (∀ k, i ≤ k → k < j → P k = true) → P j = false → runP P m i = j := by
  intro m
  induction m with
  | zero => intro i j h1 h2 _ _; show i = j; omega
  | succ m ih =>
    intro i j h1 h2 h3 h4
    unfold runP
    rcases Int.lt_or_le i j with q | q
    · rw [if_pos (h3 i (Int.le_refl _) q)]
      exact ih (by omega) (by omega) (fun k hk hj => h3 k (by omega) hj) h4
    · obtain rfl : i = j := by omega
      rw [if_neg (by rw [h4]; decide)]
theorem runP_le {P : Int → Bool} : ∀ {m : Nat} {i : Int}, i ≤ runP P m i := by
  intro m
  induction m with
  | zero => intro i; exact Int.le_refl _
  | succ m ih =>
    intro i
    unfold runP
    split
    · have := @ih (i + 1); omega
    · exact Int.le_refl _
/-- behind bytes of a kind -/
def rn (p : Int → Bool) (t : Int → Int) (i : Int) : Int := runP (fun k => p (t k)) 401 i
def pB (b : Int) : Bool := decide (b = 32)
def pL (b : Int) : Bool := decide (97 ≤ b ∧ b ≤ 122)
def pD (b : Int) : Bool := decide (48 ≤ b ∧ b ≤ 57)
def pS (b : Int) : Bool := decide (b = 35 ∨ b = 46)
theorem rn_eq {p : Int → Bool} {t : Int → Int} {i j : Int} (h1 : i ≤ j) (h2 : j ≤ i + 401) (h3 : ∀ k, i ≤ k → k < j → p (t k) = true) (h4 : p (t j) = false) : j = rn p t i := (runP_eq h1 h2 h3 h4).symm
theorem rn_out {p : Int → Bool} {f : Nat → Int32} {n i j : Int} (hp : p (-1000) = false) (h1 : i ≤ j) (h2 : j ≤ i + 401) (h3 : ∀ k, i ≤ k → k < j → p (tb f n k) = true) (h : n ≤ j) : j = rn p (tb f n) i := rn_eq h1 h2 h3 (by rw [tb_end h]; exact hp)
theorem rn_hit {p : Int → Bool} {f : Nat → Int32} {n i j : Int} {z : Int32} (h1 : i ≤ j) (h2 : j ≤ i + 401) (h3 : ∀ k, i ≤ k → k < j → p (tb f n k) = true) (h0 : 0 ≤ j) (h : j < n) (e : z = f j.toNat) (hz : p z.toInt = false) : j = rn p (tb f n) i := rn_eq h1 h2 h3 (by rw [tb_at h0 h e]; exact hz)
theorem rn_nil {p : Int → Bool} {t : Int → Int} {i j : Int} (h : j ≤ i) : ∀ k, i ≤ k → k < j → p (t k) = true := fun k a b => absurd b (by omega)
theorem rn_step {p : Int → Bool} {f : Nat → Int32} {n i j j2 : Int} {z : Int32} (h3 : ∀ k, i ≤ k → k < j → p (tb f n k) = true) (h0 : 0 ≤ j) (h : j < n) (e : z = f j.toNat) (hz : p z.toInt = true) (h2 : j2 = j + 1) : ∀ k, i ≤ k → k < j2 → p (tb f n k) = true := fun k a b => by
  rcases Int.lt_or_le k j with q | q
  · exact h3 k a q
  · obtain rfl : k = j := by omega
    rw [tb_at h0 h e]; exact hz
theorem rn_le {p : Int → Bool} {t : Int → Int} {i : Int} : i ≤ rn p t i := runP_le
theorem runP_len {p : Int → Bool} {f : Nat → Int32} {n : Int} (hp : p (-1000) = false) : ∀ {m : Nat} {i : Int}, i ≤ n → runP (fun k => p (tb f n k)) m i ≤ n := by
  intro m
  induction m with
  | zero => intro i h; exact h
  | succ m ih =>
    intro i h
    unfold runP
    split
    · next q =>
      rcases Int.lt_or_le i n with w | w
      · exact ih (by omega)
      · rw [tb_end w, hp] at q; exact absurd q (by decide)
    · exact h
theorem rn_len {p : Int → Bool} {f : Nat → Int32} {n i : Int} (hp : p (-1000) = false) (h : i ≤ n) : rn p (tb f n) i ≤ n := runP_len hp h
theorem rn_stay {p : Int → Bool} {t : Int → Int} {i : Int} (h : p (t i) = false) : rn p t i = i := (rn_eq (Int.le_refl _) (by omega) (rn_nil (Int.le_refl _)) h).symm
theorem runP_end {p : Int → Bool} {f : Nat → Int32} {n : Int} (hp : p (-1000) = false) : ∀ {m : Nat} {i : Int}, n ≤ i + m → p (tb f n (runP (fun k => p (tb f n k)) m i)) = false := by
  intro m
  induction m with
  | zero => intro i h; show p (tb f n i) = false; rw [tb_end (by omega)]; exact hp
  | succ m ih =>
    intro i h
    unfold runP
    split
    · exact ih (by omega)
    · next q => exact Bool.eq_false_iff.mpr q
theorem rn_end {p : Int → Bool} {f : Nat → Int32} {n i : Int} (hp : p (-1000) = false) (h0 : 0 ≤ i) (hn : n ≤ 400) : p (tb f n (rn p (tb f n) i)) = false := runP_end hp (by omega)
/-- behind blanks, behind letters, behind digits, behind signs -/
abbrev sk := rn pB
abbrev wr := rn pL
abbrev dg := rn pD
abbrev sr := rn pS
/-- two numbers' bytes onto a tape -/
def by8 (v s : Int32) : Int32 := vp_nar .byte (v >>> (s &&& 31)).toInt8.toInt32
def w4 (f : Nat → Int32) (t : Nat) (v : Int32) : Nat → Nat → Int32
  | 0 => f
  | j + 1 => upd (w4 f t v j) (t + j) (by8 v (Int32.ofInt (24 - 8 * j)))
theorem w4_agr {f g : Nat → Int32} {t : Nat} {v : Int32} (h : ∀ k, k < t → f k = g k) : ∀ j k, k < t + j → w4 f t v j k = w4 g t v j k := by
  intro j
  induction j with
  | zero => intro k hk; exact h k hk
  | succ j ih =>
    intro k hk
    unfold w4 upd
    split
    · rfl
    · exact ih k (by omega)
def fd5 (f : Nat → Int32) (t : Nat) (a b c d e : Int32) : Nat → Int32 := w4 (w4 (w4 (w4 (w4 f t a 4) (t + 4) b 4) (t + 8) c 4) (t + 12) d 4) (t + 16) e 4
theorem fd5_agr {f g : Nat → Int32} {t : Nat} {a b c d e : Int32} (h : ∀ k, k < t → f k = g k) : ∀ k, k < t + 20 → fd5 f t a b c d e k = fd5 g t a b c d e k := fun k hk => w4_agr (w4_agr (w4_agr (w4_agr (w4_agr h 4) 4) 4) 4) 4 k (by omega)
/-- the word that comes next is this one -/
abbrev tw (t : Int → Int) (w : List Int32) (i : Int) : Prop := wr t (sk t i) - sk t i = w.length ∧ ∀ k : Nat, k < w.length → t (sk t i + k) = (w.getD k 0).toInt
/-- the number that k signs from j on tell -/
def vl (t : Int → Int) (j : Int) : Nat → Int
  | 0 => 0
  | k + 1 => 10 * vl t j k + (t (j + k) - 48)
def wBox : List Int32 := [98, 111, 120]
def wFrame : List Int32 := [102, 114, 97, 109, 101]
def wDisk : List Int32 := [100, 105, 115, 107]
def wMask : List Int32 := [109, 97, 115, 107]
def wBody : List Int32 := [98, 111, 100, 121]
def wFlip : List Int32 := [102, 108, 105, 112]
def wLayer : List Int32 := [108, 97, 121, 101, 114]
def wMoves : List Int32 := [109, 111, 118, 101, 115]
/-- a number, a signed one: fault (0: none) and the place behind -/
def pn (t : Int → Int) (lo hi i : Int) : Int × Int := if dg t (sk t i) = sk t i then (8 * sk t i + 1, sk t i) else if lo ≤ vl t (sk t i) (dg t (sk t i) - sk t i).toNat ∧ vl t (sk t i) (dg t (sk t i) - sk t i).toNat ≤ hi then (0, dg t (sk t i)) else (8 * sk t i + 2, dg t (sk t i))
def sq (a : Int × Int) (f : Int → Int × Int) : Int × Int := if a.1 = 0 then f a.2 else a
def ps (t : Int → Int) (m i : Int) : Int × Int := if t (sk t i) = 45 then pn t 0 m (sk t i + 1) else pn t 0 m (sk t i)
def pfl (t : Int → Int) (i : Int) : Int × Int := if tw t wFlip i then pn t 0 3 (wr t (sk t i)) else (0, sk t i)
def ply (t : Int → Int) (i : Int) : Int × Int := if tw t wLayer i then sq (pn t 0 15 (wr t (sk t i))) (pn t 0 15) else (0, sk t i)
def pmv (t : Int → Int) (i : Int) : Int × Int := if tw t wMoves i then sq (ps t 20 (wr t (sk t i))) (ps t 20) else (0, sk t i)
def pbd (t : Int → Int) (M i : Int) : Int × Int := sq (sq (sq (sq (sq (pn t 0 (M - 1) i) (ps t 999)) (ps t 999)) (pfl t)) (ply t)) (pmv t)
def psz (t : Int → Int) (i : Int) : Int × Int := sq (pn t 1 100 i) (pn t 1 40)
/-- rows from the y-th on, as long as w -/
def prw (t : Int → Int) : Nat → Int → Int → Int → Int × Int
  | 0, _, _, i => (0, i)
  | k + 1, y, w, i => if sr t (sk t i) = sk t i then (8 * sk t i + 1, sk t i) else if y = 40 then (8 * sk t i + 3, sk t i) else if y = 0 ∧ 100 < sr t (sk t i) - sk t i then (8 * (sk t i + 100) + 4, sk t i) else if 0 < y ∧ ¬ sr t (sk t i) - sk t i = w then (8 * sk t i + 4, sk t i) else if t (sk t (sr t (sk t i))) = 47 then prw t k (y + 1) (sr t (sk t i) - sk t i) (sk t (sr t (sk t i)) + 1) else (0, sk t (sr t (sk t i)))
def pfm (t : Int → Int) (i : Int) : Int × Int := if tw t wBox i then psz t (wr t (sk t i)) else if tw t wFrame i then psz t (wr t (sk t i)) else if tw t wDisk i then pn t 0 19 (wr t (sk t i)) else prw t 41 0 0 i
/-- a part: fault, place, masks, bodies -/
def ppt (t : Int → Int) (M N i : Int) : (Int × Int) × Int × Int := if tw t wMask i then (if 8 ≤ M then ((8 * sk t i + 3, sk t i), M, N) else (pfm t (wr t (sk t i)), M + 1, N)) else if tw t wBody i then (if 10 ≤ N then ((8 * sk t i + 3, sk t i), M, N) else (pbd t M (wr t (sk t i)), M, N + 1)) else ((8 * sk t i + 1, sk t i), M, N)
/-- parts: the answer of tell -/
def prs (t : Int → Int) : Nat → Int → Int → Int → Int
  | 0, _, _, _ => 0
  | k + 1, M, N, i => if ¬ (ppt t M N i).1.1 = 0 then -2 - (ppt t M N i).1.1 else if t (sk t (ppt t M N i).1.2) = -1000 then (ppt t M N i).2.2 else if t (sk t (ppt t M N i).1.2) = 59 then prs t k (ppt t M N i).2.1 (ppt t M N i).2.2 (sk t (ppt t M N i).1.2 + 1) else -2 - (8 * sk t (ppt t M N i).1.2 + 1)
def tellR (t : Int → Int) : Int := if t (sk t 0) = -1000 then 0 else prs t 401 0 0 0
/-- the reader goes on: its place, its length, its fault -/
def rdA (I I1 : Nat → Nat → Int32) (p : Nat) (s : Int) : Prop := (I1 p 2).toInt = s ∧ I1 p 1 = I p 1 ∧ I1 p 5 = I p 5
def rdF (I I1 : Nat → Nat → Int32) (p : Nat) (F : Int) : Prop := (I1 p 5).toInt = F ∧ I1 p 1 = I p 1
def rdP (I I1 : Nat → Nat → Int32) (p : Nat) (u : Int32) (a : Int × Int) : Prop := (a.1 = 0 → u.toInt = 1 ∧ rdA I I1 p a.2) ∧ (¬ a.1 = 0 → u.toInt = 0 ∧ rdF I I1 p a.1)
def rdS (I I1 : Nat → Nat → Int32) (p : Nat) : Prop := I1 p 1 = I p 1 ∧ I1 p 2 = I p 2 ∧ I1 p 5 = I p 5
theorem rdA_tr {I Ia I1 : Nat → Nat → Int32} {p : Nat} {s s2 : Int} (h : rdA I Ia p s) (h2 : rdA Ia I1 p s2) : rdA I I1 p s2 := ⟨h2.1, h2.2.1.trans h.2.1, h2.2.2.trans h.2.2⟩
theorem rdA_S {I Ia I1 : Nat → Nat → Int32} {p : Nat} {s : Int} (h : rdA I Ia p s) (h2 : rdS Ia I1 p) : rdA I I1 p s := ⟨by rw [h2.2.1]; exact h.1, h2.1.trans h.2.1, h2.2.2.trans h.2.2⟩
theorem rdA_F {I Ia I1 : Nat → Nat → Int32} {p : Nat} {s F : Int} (h : rdA I Ia p s) (h2 : rdF Ia I1 p F) : rdF I I1 p F := ⟨h2.1, h2.2.trans h.2.1⟩
theorem rdP_S {I Ia I1 : Nat → Nat → Int32} {p : Nat} {u : Int32} {a : Int × Int} (h : rdP I Ia p u a) (h2 : rdS Ia I1 p) : rdP I I1 p u a := ⟨fun q => ⟨(h.1 q).1, rdA_S (h.1 q).2 h2⟩, fun q => ⟨(h.2 q).1, by rw [h2.2.2]; exact (h.2 q).2.1, h2.1.trans (h.2 q).2.2⟩⟩
theorem rdP_A {I Ia I1 : Nat → Nat → Int32} {p : Nat} {u : Int32} {s : Int} {a : Int × Int} (h : rdA I Ia p s) (h2 : rdP Ia I1 p u a) : rdP I I1 p u a := ⟨fun q => ⟨(h2.1 q).1, rdA_tr h (h2.1 q).2⟩, fun q => ⟨(h2.2 q).1, rdA_F h (h2.2 q).2⟩⟩
theorem rdP_ok {I I1 : Nat → Nat → Int32} {p : Nat} {u : Int32} {a : Int × Int} (h : rdP I I1 p u a) (hu : ¬ u.toInt = 0) : a.1 = 0 ∧ rdA I I1 p a.2 := by
  by_cases q : a.1 = 0
  · exact ⟨q, (h.1 q).2⟩
  · exact absurd (h.2 q).1 hu
theorem rdP_no {I I1 : Nat → Nat → Int32} {p : Nat} {u : Int32} {a : Int × Int} (h : rdP I I1 p u a) (hu : u.toInt = 0) : ¬ a.1 = 0 ∧ rdF I I1 p a.1 := by
  by_cases q : a.1 = 0
  · have := (h.1 q).1; omega
  · exact ⟨q, (h.2 q).2⟩
theorem rdP_bind {I Ia I1 : Nat → Nat → Int32} {p : Nat} {u u2 : Int32} {a : Int × Int} {f : Nat → Int32} {g : (Int → Int) → Int → Int × Int} (h1 : rdP I Ia p u a) (hu : ¬ u.toInt = 0) (h2 : rdP Ia I1 p u2 (g (tb f (Ia p 1).toInt) (Ia p 2).toInt)) : rdP I I1 p u2 (sq a (g (tb f (I p 1).toInt))) := by
  obtain ⟨q, h3⟩ := rdP_ok h1 hu
  unfold sq
  rw [if_pos q, ← h3.1, ← h3.2.1]
  exact rdP_A h3 h2
theorem rdP_fail {I Ia : Nat → Nat → Int32} {p : Nat} {u u2 : Int32} {a : Int × Int} {g : Int → Int × Int} (h1 : rdP I Ia p u a) (hu : u.toInt = 0) (hu2 : u2.toInt = 0) : rdP I Ia p u2 (sq a g) := by
  obtain ⟨q, h3⟩ := rdP_no h1 hu
  unfold sq
  rw [if_neg q]
  exact ⟨fun w => absurd w q, fun _ => ⟨hu2, h3⟩⟩
theorem rdP_yes {I I1 : Nat → Nat → Int32} {p : Nat} {u : Int32} {s : Int} (hu : u.toInt = 1) (h : rdA I I1 p s) : rdP I I1 p u (0, s) := ⟨fun _ => ⟨hu, h⟩, fun q => absurd rfl q⟩
theorem rdP_bad {I I1 : Nat → Nat → Int32} {p : Nat} {u : Int32} {s F : Int} (hF : ¬ F = 0) (hu : u.toInt = 0) (h : rdF I I1 p F) : rdP I I1 p u (F, s) := ⟨fun q => absurd q hF, fun _ => ⟨hu, h⟩⟩
def rdW (f : Nat → Int32) (I I1 : Nat → Nat → Int32) (p : Nat) (u : Int32) (w : List Int32) : Prop := (tw (tb f (I p 1).toInt) w (I p 2).toInt → u.toInt = 1 ∧ rdA I I1 p (wr (tb f (I p 1).toInt) (sk (tb f (I p 1).toInt) (I p 2).toInt)) ∧ (I1 p 3).toInt = sk (tb f (I p 1).toInt) (I p 2).toInt) ∧ (¬ tw (tb f (I p 1).toInt) w (I p 2).toInt → u.toInt = 0 ∧ rdA I I1 p (sk (tb f (I p 1).toInt) (I p 2).toInt))
theorem rdW_no {f : Nat → Int32} {I I1 : Nat → Nat → Int32} {p : Nat} {u : Int32} {w : List Int32} (h : rdW f I I1 p u w) (hu : u.toInt = 0) : ¬ tw (tb f (I p 1).toInt) w (I p 2).toInt ∧ rdA I I1 p (sk (tb f (I p 1).toInt) (I p 2).toInt) := by
  by_cases q : tw (tb f (I p 1).toInt) w (I p 2).toInt
  · have := (h.1 q).1; omega
  · exact ⟨q, (h.2 q).2⟩
theorem rdW_yes {f : Nat → Int32} {I I1 : Nat → Nat → Int32} {p : Nat} {u : Int32} {w : List Int32} (h : rdW f I I1 p u w) (hu : ¬ u.toInt = 0) : tw (tb f (I p 1).toInt) w (I p 2).toInt ∧ rdA I I1 p (wr (tb f (I p 1).toInt) (sk (tb f (I p 1).toInt) (I p 2).toInt)) ∧ (I1 p 3).toInt = sk (tb f (I p 1).toInt) (I p 2).toInt := by
  by_cases q : tw (tb f (I p 1).toInt) w (I p 2).toInt
  · exact ⟨q, (h.1 q).2⟩
  · exact absurd (h.2 q).1 hu
theorem rdW_then {f : Nat → Int32} {I Ia I1 : Nat → Nat → Int32} {p : Nat} {u u2 : Int32} {w : List Int32} {g : (Int → Int) → Int → Int × Int} (h : rdW f I Ia p u w) (hu : ¬ u.toInt = 0) (h2 : rdP Ia I1 p u2 (g (tb f (Ia p 1).toInt) (Ia p 2).toInt)) : rdP I I1 p u2 (g (tb f (I p 1).toInt) (wr (tb f (I p 1).toInt) (sk (tb f (I p 1).toInt) (I p 2).toInt))) := by
  obtain ⟨-, h3, -⟩ := rdW_yes h hu
  rw [h3.1, h3.2.1] at h2
  exact rdP_A h3 h2
theorem rdP_1 {I I1 : Nat → Nat → Int32} {p : Nat} {u : Int32} {a : Int × Int} (h : rdP I I1 p u a) (hu : ¬ u.toInt = 0) : rdP I I1 p 1 a := ⟨fun q => ⟨by decide +kernel, (h.1 q).2⟩, fun q => absurd (h.2 q).1 hu⟩
theorem rdP_0 {I I1 : Nat → Nat → Int32} {p : Nat} {u : Int32} {a : Int × Int} (h : rdP I I1 p u a) (hu : u.toInt = 0) : rdP I I1 p 0 a := ⟨fun q => by have := (h.1 q).1; omega, fun q => ⟨by decide +kernel, (h.2 q).2⟩⟩
theorem rdP_f {I I1 : Nat → Nat → Int32} {p : Nat} {a : Int × Int} {g : Int → Int × Int} (h : rdP I I1 p 0 a) : rdP I I1 p 0 (sq a g) := rdP_fail h (by decide +kernel) (by decide +kernel)
theorem sk_idem {f : Nat → Int32} {n i : Int} (h0 : 0 ≤ i) (hn : n ≤ 400) : sk (tb f n) (sk (tb f n) i) = sk (tb f n) i := rn_stay (rn_end (by decide) h0 hn)
theorem tw_sk {t : Int → Int} {w : List Int32} {i : Int} (h : sk t (sk t i) = sk t i) : tw t w (sk t i) = tw t w i := by unfold tw; rw [h]
theorem pn_adv {t : Int → Int} {lo hi i : Int} (h : (pn t lo hi i).1 = 0) : i ≤ (pn t lo hi i).2 := by
  have h1 : i ≤ sk t i := rn_le
  have h2 : sk t i ≤ dg t (sk t i) := rn_le
  revert h
  unfold pn
  split
  · intro; exact h1
  · split
    · intro; exact Int.le_trans h1 h2
    · intro; exact Int.le_trans h1 h2
theorem sq_adv {a : Int × Int} {g : Int → Int × Int} {i : Int} (ha : a.1 = 0 → i ≤ a.2) (hg : ∀ j, (g j).1 = 0 → j ≤ (g j).2) (h : (sq a g).1 = 0) : i ≤ (sq a g).2 := by
  unfold sq at h ⊢
  by_cases q : a.1 = 0
  · rw [if_pos q] at h ⊢
    exact Int.le_trans (ha q) (hg _ h)
  · rw [if_neg q] at h
    exact absurd h q
theorem ps_adv {t : Int → Int} {m i : Int} (h : (ps t m i).1 = 0) : i ≤ (ps t m i).2 := by
  have h1 : i ≤ sk t i := rn_le
  unfold ps at h ⊢
  split at h
  · next q => rw [if_pos q]; have := pn_adv h; omega
  · next q => rw [if_neg q]; have := pn_adv h; omega
theorem pfl_adv {t : Int → Int} {i : Int} (h : (pfl t i).1 = 0) : i ≤ (pfl t i).2 := by
  have h1 : i ≤ sk t i := rn_le
  have h2 : sk t i ≤ wr t (sk t i) := rn_le
  unfold pfl at h ⊢
  split at h
  · next q => rw [if_pos q]; have := pn_adv h; omega
  · next q => rw [if_neg q]; exact h1
theorem ply_adv {t : Int → Int} {i : Int} (h : (ply t i).1 = 0) : i ≤ (ply t i).2 := by
  have h1 : i ≤ sk t i := rn_le
  have h2 : sk t i ≤ wr t (sk t i) := rn_le
  unfold ply at h ⊢
  split at h
  · next q => rw [if_pos q]; have := sq_adv (i := wr t (sk t i)) (g := pn t 0 15) (fun w => pn_adv w) (fun j w => pn_adv w) h; omega
  · next q => rw [if_neg q]; exact h1
theorem pmv_adv {t : Int → Int} {i : Int} (h : (pmv t i).1 = 0) : i ≤ (pmv t i).2 := by
  have h1 : i ≤ sk t i := rn_le
  have h2 : sk t i ≤ wr t (sk t i) := rn_le
  unfold pmv at h ⊢
  split at h
  · next q => rw [if_pos q]; have := sq_adv (i := wr t (sk t i)) (g := ps t 20) (fun w => ps_adv w) (fun j w => ps_adv w) h; omega
  · next q => rw [if_neg q]; exact h1
theorem pbd_adv {t : Int → Int} {M i : Int} (h : (pbd t M i).1 = 0) : i ≤ (pbd t M i).2 := sq_adv (sq_adv (sq_adv (sq_adv (sq_adv (fun w => pn_adv w) (fun _ w => ps_adv w)) (fun _ w => ps_adv w)) (fun _ w => pfl_adv w)) (fun _ w => ply_adv w)) (fun _ w => pmv_adv w) h
theorem prw_adv {t : Int → Int} : ∀ (k : Nat) (y w i : Int), i ≤ (prw t k y w i).2 := by
  intro k
  induction k with
  | zero => intro y w i; exact Int.le_refl _
  | succ k ih =>
    intro y w i
    have h1 : i ≤ sk t i := rn_le
    have h2 : sk t i ≤ sr t (sk t i) := rn_le
    have h3 : sr t (sk t i) ≤ sk t (sr t (sk t i)) := rn_le
    unfold prw
    split
    · exact h1
    · split
      · exact h1
      · split
        · exact h1
        · split
          · exact h1
          · split
            · have := ih (y + 1) (sr t (sk t i) - sk t i) (sk t (sr t (sk t i)) + 1); omega
            · show i ≤ sk t (sr t (sk t i)); omega
theorem pfm_adv {t : Int → Int} {i : Int} (h : (pfm t i).1 = 0) : i ≤ (pfm t i).2 := by
  have h1 : i ≤ sk t i := rn_le
  have h2 : sk t i ≤ wr t (sk t i) := rn_le
  have z : ∀ j, (psz t j).1 = 0 → j ≤ (psz t j).2 := fun j w => sq_adv (fun w => pn_adv w) (fun _ w => pn_adv w) w
  unfold pfm at h ⊢
  split at h
  · next q => rw [if_pos q]; have := z _ h; omega
  · next q =>
    rw [if_neg q]
    split at h
    · next q => rw [if_pos q]; have := z _ h; omega
    · next q =>
      rw [if_neg q]
      split at h
      · next q => rw [if_pos q]; have := pn_adv h; omega
      · next q => rw [if_neg q]; exact prw_adv _ _ _ _
theorem ppt_adv {t : Int → Int} {M N i : Int} (h : (ppt t M N i).1.1 = 0) (hi : 0 ≤ i) : i + 4 ≤ (ppt t M N i).1.2 := by
  have h1 : i ≤ sk t i := rn_le
  unfold ppt at h ⊢
  split at h
  · next q =>
    rw [if_pos q]
    have w := q.1
    have e : (wMask.length : Int) = 4 := rfl
    split at h
    · next z => have h : 8 * sk t i + 3 = 0 := h; omega
    · next z => rw [if_neg z]; have h : (pfm t (wr t (sk t i))).1 = 0 := h; have := pfm_adv h; show i + 4 ≤ (pfm t (wr t (sk t i))).2; omega
  · next q =>
    rw [if_neg q]
    split at h
    · next q =>
      rw [if_pos q]
      have w := q.1
      have e : (wBody.length : Int) = 4 := rfl
      split at h
      · next z => have h : 8 * sk t i + 3 = 0 := h; omega
      · next z => rw [if_neg z]; have h : (pbd t M (wr t (sk t i))).1 = 0 := h; have := pbd_adv h; show i + 4 ≤ (pbd t M (wr t (sk t i))).2; omega
    · next q => have h : 8 * sk t i + 1 = 0 := h; omega
theorem ppt_sk {t : Int → Int} {M N i : Int} (h : sk t (sk t i) = sk t i) : ppt t M N (sk t i) = ppt t M N i := by
  unfold ppt; simp only [tw_sk h, h]
theorem prs_sk {t : Int → Int} {k : Nat} {M N i : Int} (h : sk t (sk t i) = sk t i) : prs t (k + 1) M N (sk t i) = prs t (k + 1) M N i := by
  unfold prs; rw [ppt_sk h]
theorem tb_ne {f : Nat → Int32} {n k : Int} (hb : ∀ k, -128 ≤ (f k).toInt ∧ (f k).toInt ≤ 127) (h0 : 0 ≤ k) (h : k < n) : ¬ tb f n k = -1000 := by
  rw [tb_at h0 h rfl]; have := hb k.toNat; omega
section PRS
variable {t : Int → Int} {k : Nat} {M N i : Int}
theorem prs_bad (h : ¬ (ppt t M N i).1.1 = 0) : prs t (k + 1) M N i = -2 - (ppt t M N i).1.1 := if_pos h
theorem prs_end (h : (ppt t M N i).1.1 = 0) (h2 : t (sk t (ppt t M N i).1.2) = -1000) : prs t (k + 1) M N i = (ppt t M N i).2.2 := by
  unfold prs; rw [if_neg (fun q => q h), if_pos h2]
theorem prs_go (h : (ppt t M N i).1.1 = 0) (h2 : ¬ t (sk t (ppt t M N i).1.2) = -1000) (h3 : t (sk t (ppt t M N i).1.2) = 59) : prs t (k + 1) M N i = prs t k (ppt t M N i).2.1 (ppt t M N i).2.2 (sk t (ppt t M N i).1.2 + 1) := by
  conv => lhs; unfold prs
  rw [if_neg (fun q => q h), if_neg h2, if_pos h3]
theorem prs_sig (h : (ppt t M N i).1.1 = 0) (h2 : ¬ t (sk t (ppt t M N i).1.2) = -1000) (h3 : ¬ t (sk t (ppt t M N i).1.2) = 59) : prs t (k + 1) M N i = -2 - (8 * sk t (ppt t M N i).1.2 + 1) := by
  unfold prs; rw [if_neg (fun q => q h), if_neg h2, if_neg h3]
end PRS
theorem rdW_next {f : Nat → Int32} {I Ia Ib : Nat → Nat → Int32} {p : Nat} {u : Int32} {w : List Int32} (h : rdA I Ia p (sk (tb f (I p 1).toInt) (I p 2).toInt)) (h0 : 0 ≤ (I p 2).toInt) (hn : (I p 1).toInt ≤ 400) (h2 : rdW f Ia Ib p u w) : rdW f I Ib p u w := by
  unfold rdW at h2 ⊢
  rw [h.1, h.2.1, sk_idem h0 hn, tw_sk (sk_idem h0 hn)] at h2
  exact ⟨fun q => ⟨(h2.1 q).1, rdA_tr h (h2.1 q).2.1, (h2.1 q).2.2⟩, fun q => ⟨(h2.2 q).1, rdA_tr h (h2.2 q).2⟩⟩
/-- a mask, a body, neither -/
theorem ppt_mask {f : Nat → Int32} {I Ia I1 : Nat → Nat → Int32} {p q : Nat} {u u1 : Int32} (h : rdW f I Ia p u wMask) (hu : ¬ u.toInt = 0) (hq : Ia q = I q) (h2 : (8 ≤ (Ia q 2).toInt → u1.toInt = 0 ∧ rdF Ia I1 p (8 * (Ia p 3).toInt + 3)) ∧ ((Ia q 2).toInt < 8 → rdP Ia I1 p u1 (pfm (tb f (Ia p 1).toInt) (Ia p 2).toInt) ∧ (I1 q 2).toInt = (Ia q 2).toInt + 1 ∧ I1 q 3 = Ia q 3)) (h0 : 0 ≤ (I p 2).toInt) : rdP I I1 p u1 (ppt (tb f (I p 1).toInt) (I q 2).toInt (I q 3).toInt (I p 2).toInt).1 ∧ (u1.toInt = 1 → (I1 q 2).toInt = (ppt (tb f (I p 1).toInt) (I q 2).toInt (I q 3).toInt (I p 2).toInt).2.1 ∧ (I1 q 3).toInt = (ppt (tb f (I p 1).toInt) (I q 2).toInt (I q 3).toInt (I p 2).toInt).2.2) := by
  obtain ⟨w, a, b⟩ := rdW_yes h hu
  have hs : (I p 2).toInt ≤ sk (tb f (I p 1).toInt) (I p 2).toInt := rn_le
  rw [hq] at h2
  unfold ppt
  rw [if_pos w]
  rcases Int.lt_or_le (I q 2).toInt 8 with z | z
  · rw [if_neg (by omega)]
    have h3 := h2.2 z
    refine ⟨rdW_then (g := pfm) h hu h3.1, fun _ => ⟨h3.2.1, ?_⟩⟩
    rw [h3.2.2]
  · rw [if_pos z]
    have h3 := h2.1 z
    rw [b] at h3
    exact ⟨rdP_bad (by omega) h3.1 (rdA_F a h3.2), fun e => by have := h3.1; omega⟩
theorem ppt_body {f : Nat → Int32} {I Ia Ib I1 : Nat → Nat → Int32} {p q : Nat} {u u0 u1 : Int32} (g : rdW f I Ia p u0 wMask) (gu : u0.toInt = 0) (h : rdW f Ia Ib p u wBody) (hu : ¬ u.toInt = 0) (hq : Ib q = I q) (h2 : (10 ≤ (Ib q 3).toInt → u1.toInt = 0 ∧ rdF Ib I1 p (8 * (Ib p 3).toInt + 3)) ∧ ((Ib q 3).toInt < 10 → rdP Ib I1 p u1 (pbd (tb f (Ib p 1).toInt) (Ib q 2).toInt (Ib p 2).toInt) ∧ (u1.toInt = 1 → (I1 q 3).toInt = (Ib q 3).toInt + 1 ∧ I1 q 2 = Ib q 2))) (h0 : 0 ≤ (I p 2).toInt) (hn : (I p 1).toInt ≤ 400) : rdP I I1 p u1 (ppt (tb f (I p 1).toInt) (I q 2).toInt (I q 3).toInt (I p 2).toInt).1 ∧ (u1.toInt = 1 → (I1 q 2).toInt = (ppt (tb f (I p 1).toInt) (I q 2).toInt (I q 3).toInt (I p 2).toInt).2.1 ∧ (I1 q 3).toInt = (ppt (tb f (I p 1).toInt) (I q 2).toInt (I q 3).toInt (I p 2).toInt).2.2) := by
  have g2 := rdW_no g gu
  have h := rdW_next g2.2 h0 hn h
  obtain ⟨w, a, b⟩ := rdW_yes h hu
  have hs : (I p 2).toInt ≤ sk (tb f (I p 1).toInt) (I p 2).toInt := rn_le
  rw [hq] at h2
  unfold ppt
  rw [if_neg g2.1, if_pos w]
  rcases Int.lt_or_le (I q 3).toInt 10 with z | z
  · rw [if_neg (by omega)]
    have h3 := h2.2 z
    refine ⟨rdW_then (g := fun t => pbd t (I q 2).toInt) h hu h3.1, fun e => ⟨?_, (h3.2 e).1⟩⟩
    rw [(h3.2 e).2]
  · rw [if_pos z]
    have h3 := h2.1 z
    rw [b] at h3
    exact ⟨rdP_bad (by omega) h3.1 (rdA_F a h3.2), fun e => by have := h3.1; omega⟩
theorem ppt_none {f : Nat → Int32} {I Ia Ib I1 : Nat → Nat → Int32} {p q : Nat} {u u0 u1 : Int32} (g : rdW f I Ia p u0 wMask) (gu : u0.toInt = 0) (h : rdW f Ia Ib p u wBody) (hu : u.toInt = 0) (h2 : u1.toInt = 0 ∧ rdF Ib I1 p (8 * (Ib p 2).toInt + 1)) (h0 : 0 ≤ (I p 2).toInt) (hn : (I p 1).toInt ≤ 400) : rdP I I1 p u1 (ppt (tb f (I p 1).toInt) (I q 2).toInt (I q 3).toInt (I p 2).toInt).1 ∧ (u1.toInt = 1 → (I1 q 2).toInt = (ppt (tb f (I p 1).toInt) (I q 2).toInt (I q 3).toInt (I p 2).toInt).2.1 ∧ (I1 q 3).toInt = (ppt (tb f (I p 1).toInt) (I q 2).toInt (I q 3).toInt (I p 2).toInt).2.2) := by
  have g2 := rdW_no g gu
  have w := rdW_no (rdW_next g2.2 h0 hn h) hu
  have hs : (I p 2).toInt ≤ sk (tb f (I p 1).toInt) (I p 2).toInt := rn_le
  unfold ppt
  rw [if_neg g2.1, if_neg w.1]
  rw [w.2.1] at h2
  exact ⟨rdP_bad (by omega) h2.1 (rdA_F w.2 h2.2), fun e => by have := h2.1; omega⟩
theorem dg_ne {p : Int → Bool} {t : Int → Int} {i : Int} (h : p (t i) = true) : ¬ rn p t i = i := by
  have e : rn p t i = runP (fun k => p (t k)) 400 (i + 1) := by
    show runP (fun k => p (t k)) (400 + 1) i = _
    conv => lhs; unfold runP
    rw [if_pos h]
  have := @runP_le (fun k => p (t k)) 400 (i + 1)
  omega
/-- a byte as the reference has it: without a sign, -1 behind the end -/
def sgB (x : Int) : Int := if x = -1000 then -1 else x % 256
def rgB (x : Int) : Prop := x = -1000 ∨ (-128 ≤ x ∧ x ≤ 127)
theorem sg_t {x c : Int} (hx : rgB x) (hc : 0 ≤ c ∧ c ≤ 127) (h : sgB x = c) : x = c := by
  unfold sgB at h; unfold rgB at hx; split at h <;> omega
theorem sg_c {c : Int} (hc : 0 ≤ c ∧ c ≤ 127) : sgB c = c := by
  unfold sgB; rw [if_neg (by omega)]; omega
theorem sg_e {x : Int} (h : sgB x = -1) : x = -1000 := by
  unfold sgB at h; split at h
  · next q => exact q
  · omega
theorem sg_d {x : Int} (hx : rgB x) (lo hi : Int) (hc : 0 ≤ lo ∧ hi ≤ 127) : (lo ≤ sgB x ∧ sgB x ≤ hi) ↔ (lo ≤ x ∧ x ≤ hi) := by
  unfold sgB; unfold rgB at hx; split <;> omega
theorem sg_v {x : Int} (hx : rgB x) (h : 0 ≤ x ∨ (0 ≤ sgB x ∧ sgB x ≤ 127)) : sgB x = x := by
  unfold sgB at h ⊢; unfold rgB at hx; split at h <;> split <;> omega
theorem tb_rng {f : Nat → Int32} {n k : Int} (hb : ∀ k, -128 ≤ (f k).toInt ∧ (f k).toInt ≤ 127) : rgB (tb f n k) := by
  unfold tb
  split
  · exact Or.inr (hb _)
  · exact Or.inl rfl
theorem and255 {x z : Int32} (e : z = x &&& 255) (h : -128 ≤ x.toInt ∧ x.toInt ≤ 127) : z.toInt = sgB x.toInt := by
  have key : ∀ k : Fin 256, ((Int32.ofInt ((k.1 : Int) - 128)) &&& 255).toInt = sgB ((k.1 : Int) - 128) := by decide +kernel
  have q := key ⟨(x.toInt + 128).toNat, by omega⟩
  have e2 : (((x.toInt + 128).toNat : Nat) : Int) - 128 = x.toInt := by omega
  rw [show (((⟨(x.toInt + 128).toNat, by omega⟩ : Fin 256).1 : Nat) : Int) = (((x.toInt + 128).toNat : Nat) : Int) from rfl, e2, Int32.ofInt_toInt] at q
  rw [e]; exact q
/-- the reference goes on: its tape's length, its fault, its place -/
def mdQ (I I1 : Nat → Nat → Int32) (p : Nat) (a : Int × Int) : Prop := I1 p 13 = I p 13 ∧ ((I p 15).toInt = -1 → (a.1 = 0 → (I1 p 15).toInt = -1 ∧ (I1 p 14).toInt = a.2) ∧ (¬ a.1 = 0 → (I1 p 15).toInt = a.1 ∧ ¬ a.1 = -1)) ∧ (¬ (I p 15).toInt = -1 → I1 p 15 = I p 15)
theorem mdQ_bad {I I1 : Nat → Nat → Int32} {p : Nat} {a : Int × Int} (h : ¬ (I p 15).toInt = -1) (h1 : I1 p 13 = I p 13) (h2 : I1 p 15 = I p 15) : mdQ I I1 p a := ⟨h1, fun q => absurd q h, fun _ => h2⟩
theorem mdQ_ok {I I1 : Nat → Nat → Int32} {p : Nat} {s : Int} (h1 : I1 p 13 = I p 13) (h : (I p 15).toInt = -1) (h2 : (I1 p 15).toInt = -1) (h3 : (I1 p 14).toInt = s) : mdQ I I1 p (0, s) := ⟨h1, fun _ => ⟨fun _ => ⟨h2, h3⟩, fun q => absurd rfl q⟩, fun q => absurd h q⟩
theorem mdQ_no {I I1 : Nat → Nat → Int32} {p : Nat} {F s : Int} (h1 : I1 p 13 = I p 13) (h : (I p 15).toInt = -1) (hF : 0 < F) (h2 : (I1 p 15).toInt = F) : mdQ I I1 p (F, s) := ⟨h1, fun _ => ⟨fun q => by have q : F = 0 := q; omega, fun _ => ⟨h2, by show ¬ F = -1; omega⟩⟩, fun q => absurd h q⟩
theorem mdQ_bind {I Ia I1 : Nat → Nat → Int32} {p : Nat} {a : Int × Int} {f : Nat → Int32} {g : (Int → Int) → Int → Int × Int} (h1 : mdQ I Ia p a) (h2 : mdQ Ia I1 p (g (tb f (Ia p 13).toInt) (Ia p 14).toInt)) : mdQ I I1 p (sq a (g (tb f (I p 13).toInt))) := by
  refine ⟨h2.1.trans h1.1, fun q => ?_, fun q => (h2.2.2 (by rw [h1.2.2 q]; exact q)).trans (h1.2.2 q)⟩
  unfold sq
  have h3 := h1.2.1 q
  by_cases w : a.1 = 0
  · rw [if_pos w]
    have h4 := h2.2.1 (h3.1 w).1
    rw [h1.1, (h3.1 w).2] at h4
    exact h4
  · rw [if_neg w]
    refine ⟨fun z => absurd z w, fun _ => ⟨?_, (h3.2 w).2⟩⟩
    rw [h2.2.2 (by rw [(h3.2 w).1]; exact (h3.2 w).2)]; exact (h3.2 w).1
def mdS (I I1 : Nat → Nat → Int32) (p : Nat) : Prop := I1 p 13 = I p 13 ∧ I1 p 14 = I p 14 ∧ I1 p 15 = I p 15
theorem md_fr {I I1 : Nat → Nat → Int32} {p : Nat} (h : I1 p = I p) : mdS I I1 p := ⟨congrFun h 13, congrFun h 14, congrFun h 15⟩
theorem mdQ_S {I Ia I1 : Nat → Nat → Int32} {p : Nat} {a : Int × Int} (h : mdQ I Ia p a) (h2 : mdS Ia I1 p) : mdQ I I1 p a := by
  unfold mdQ at h ⊢
  rw [← h2.1, ← h2.2.1, ← h2.2.2] at h
  exact h
theorem mdQ_sgn {I Ia I1 : Nat → Nat → Int32} {p : Nat} {f : Nat → Int32} {m : Int} (h13 : Ia p 13 = I p 13) (h15 : Ia p 15 = I p 15) (h : (I p 15).toInt = -1 → (tb f (I p 13).toInt (sk (tb f (I p 13).toInt) (I p 14).toInt) = 45 ∧ (Ia p 14).toInt = sk (tb f (I p 13).toInt) (I p 14).toInt + 1) ∨ (¬ tb f (I p 13).toInt (sk (tb f (I p 13).toInt) (I p 14).toInt) = 45 ∧ (Ia p 14).toInt = sk (tb f (I p 13).toInt) (I p 14).toInt)) (h2 : mdQ Ia I1 p (pn (tb f (Ia p 13).toInt) 0 m (Ia p 14).toInt)) : mdQ I I1 p (ps (tb f (I p 13).toInt) m (I p 14).toInt) := by
  refine ⟨h2.1.trans h13, fun q => ?_, fun q => (h2.2.2 (by rw [h15]; exact q)).trans h15⟩
  have h3 := h2.2.1 (by rw [h15]; exact q)
  rw [h13] at h3
  unfold ps
  rcases h q with ⟨a, b⟩ | ⟨a, b⟩
  · rw [if_pos a, ← b]; exact h3
  · rw [if_neg a, ← b]; exact h3
theorem w4_step {g f : Nat → Int32} {t j i j2 : Nat} {v s b : Int32} (h : g = w4 f t v j) (hs : s.toInt = 24 - 8 * (j : Int)) (hb : b = vp_nar .byte (v >>> (s &&& 31)).toInt8.toInt32) (hi : i = t + j) (hj : j2 = j + 1) : upd g i b = w4 f t v j2 := by
  subst hj
  show _ = upd (w4 f t v j) (t + j) (by8 v (Int32.ofInt (24 - 8 * (j : Int))))
  rw [h, hi, hb, ← hs, Int32.ofInt_toInt]
  rfl
theorem tpXn {L : List Nat} {K G : Nat → Nat} {Q : Nat → Nat → Option Nat} {x0 m0 : Nat} {tx : GT} {tm : GT × Int} {I : Nat → Nat → Int32} {p0 : Nat} (hQ : Sv L K G Q) (h : Iv L K x0 m0 tx tm I) (hL : p0 ∈ L) (hK : K p0 = 6) : ¬ tx.2.1 = p0 := fun e => by
  obtain ⟨y, -, hy, ky⟩ := oQ_6_0 (Sv_at hQ hL hK)
  have q := (h.2.2.2.2.2.1 y hy ky).1
  rw [q, e, hK] at ky; exact absurd ky (by decide)
theorem tpMn {L : List Nat} {K G : Nat → Nat} {Q : Nat → Nat → Option Nat} {x0 m0 : Nat} {tx : GT} {tm : GT × Int} {I : Nat → Nat → Int32} {p0 : Nat} (hQ : Sv L K G Q) (h : Iv L K x0 m0 tx tm I) (hL : p0 ∈ L) (hK : K p0 = 7) : ¬ tm.1.2.1 = p0 := fun e => by
  obtain ⟨y, -, hy, ky⟩ := oQ_7_12 (Sv_at hQ hL hK)
  have q := (h.2.2.2.2.2.2 y hy ky).1
  rw [q, e, hK] at ky; exact absurd ky (by decide)
/-- rows, as the reference goes through them -/
def bR (R : Int × Int) (F : Int) : Prop := ¬ R.1 = 0 ∧ ¬ R.1 = -1 ∧ F = R.1
def rwP (P : Prop) (R : Int × Int) (F : Int) : Prop := (P ∧ F = -1) ∨ bR R F
theorem rwP_imp {P P' : Prop} {R : Int × Int} {F : Int} (h : rwP P R F) (f : P → P') : rwP P' R F := h.elim (fun q => Or.inl ⟨f q.1, q.2⟩) Or.inr
theorem rwP_fail {P P' : Prop} {R : Int × Int} {F F' V : Int} (h : rwP P R F) (hp : P → R.1 = V) (hV : 0 < V) (fz : (F = -1 → F' = V) ∧ (¬ F = -1 → F' = F)) : rwP P' R F' := by
  rcases h with ⟨q, e⟩ | q
  · have := hp q; exact Or.inr ⟨by omega, by omega, by rw [fz.1 e, this]⟩
  · exact Or.inr ⟨q.1, q.2.1, by rw [fz.2 (by rw [q.2.2]; exact q.2.1)]; exact q.2.2⟩
theorem rwP_bd {P P' : Prop} {R : Int × Int} {F : Int} (h : rwP P R F) (hn : ¬ F = -1) : rwP P' R F := h.elim (fun q => absurd q.2 hn) Or.inr
theorem rwP_good {P : Prop} {R : Int × Int} {F : Int} (h : rwP P R F) (hF : F = -1) : P := h.elim (fun q => q.1) (fun q => absurd (q.2.2.symm.trans hF) q.2.1)
def rwC (I I4 Ix : Nat → Nat → Int32) (p yh : Nat) (a : Int) : Prop := Ix p 13 = I p 13 ∧ (Ix p 14).toInt = a ∧ Ix yh = I4 yh
theorem rwC_step {I I4 Ix Iy : Nat → Nat → Int32} {p yh : Nat} {a : Int} (h : rwC I I4 Ix p yh a) (k : ∀ k, ¬ k = 15 → Iy p k = Ix p k) (fr : Iy yh = Ix yh) : rwC I I4 Iy p yh a := ⟨(k 13 (by decide)).trans h.1, by rw [k 14 (by decide)]; exact h.2.1, fr.trans h.2.2⟩
def rwL (t : Int → Int) (I Ix : Nat → Nat → Int32) (p yh c : Nat) (u y a : Int) (R : Int × Int) : Prop := Ix p 13 = I p 13 ∧ ((u = 1 ∧ (Ix p 15).toInt = -1 ∧ R = prw t (41 - y).toNat y (Ix yh c).toInt a) ∨ (u = 0 ∧ rwP (R = (0, a)) R (Ix p 15).toInt))
theorem rwL_go {t : Int → Int} {I Ix : Nat → Nat → Int32} {p yh c : Nat} {u y a : Int} {R : Int × Int} (h : rwL t I Ix p yh c u y a R) (hu : ¬ u = 0) : Ix p 13 = I p 13 ∧ (Ix p 15).toInt = -1 ∧ R = prw t (41 - y).toNat y (Ix yh c).toInt a := ⟨h.1, h.2.elim (fun q => q.2) (fun q => absurd q.1 hu)⟩
theorem rwL_put {t : Int → Int} {I Ix Iy : Nat → Nat → Int32} {p yh c : Nat} {u y a a2 : Int} {R : Int × Int} (h : rwL t I Ix p yh c u y a R) (h13 : Iy p 13 = Ix p 13) (h15 : Iy p 15 = Ix p 15) (hy : Iy yh c = Ix yh c) (ha : a2 = a) : rwL t I Iy p yh c u y a2 R := by
  unfold rwL at h ⊢
  rw [h13, h15, hy, ha]
  exact h
theorem bR_md {I Ix : Nat → Nat → Int32} {p : Nat} {R : Int × Int} (h13 : Ix p 13 = I p 13) (hf : (I p 15).toInt = -1) (h : bR R (Ix p 15).toInt) : mdQ I Ix p R := ⟨h13, fun _ => ⟨fun q => absurd q h.1, fun _ => ⟨h.2.2, h.2.1⟩⟩, fun q => absurd hf q⟩
theorem rwP_md {I Ix : Nat → Nat → Int32} {p : Nat} {R : Int × Int} (h13 : Ix p 13 = I p 13) (hf : (I p 15).toInt = -1) (h : rwP (R = (0, (Ix p 14).toInt)) R (Ix p 15).toInt) : mdQ I Ix p R := by
  rcases h with ⟨q, e⟩ | q
  · rw [q]; exact mdQ_ok h13 hf e rfl
  · exact bR_md h13 hf q
theorem rwL_end {t : Int → Int} {I Ix : Nat → Nat → Int32} {p yh c : Nat} {u y : Int} {R : Int × Int} (h : rwL t I Ix p yh c u y (Ix p 14).toInt R) (hu : u = 0) (hf : (I p 15).toInt = -1) : mdQ I Ix p R := by
  rcases h.2 with q | q
  · have := q.1; omega
  · exact rwP_md h.1 hf q.2
theorem rwL_bad {t : Int → Int} {I Ix : Nat → Nat → Int32} {p yh c : Nat} {u y : Int} {R : Int × Int} (h : rwL t I Ix p yh c u y (Ix p 14).toInt R) (hn : ¬ (Ix p 15).toInt = -1) (hf : (I p 15).toInt = -1) : mdQ I Ix p R := by
  rcases h.2 with q | q
  · exact absurd q.2.1 hn
  · exact rwP_md h.1 hf q.2
theorem prw_w0 {t : Int → Int} {w w2 i : Int} : prw t 41 0 w i = prw t 41 0 w2 i := by
  show prw t (40 + 1) 0 w i = prw t (40 + 1) 0 w2 i
  unfold prw
  rw [if_neg (show ¬ ((0 : Int) < 0 ∧ ¬ sr t (sk t i) - sk t i = w) from fun q => absurd q.1 (by decide)), if_neg (show ¬ ((0 : Int) < 0 ∧ ¬ sr t (sk t i) - sk t i = w2) from fun q => absurd q.1 (by decide))]
/-- the reference at a place, a word taken or not -/
def mdA (I I1 : Nat → Nat → Int32) (p : Nat) (s : Int) : Prop := I1 p 13 = I p 13 ∧ I1 p 15 = I p 15 ∧ (I1 p 14).toInt = s
def mdW (f : Nat → Int32) (I I1 : Nat → Nat → Int32) (p : Nat) (u : Int32) (w : List Int32) : Prop := (tw (tb f (I p 13).toInt) w (I p 14).toInt → u.toInt = 1 ∧ mdA I I1 p (wr (tb f (I p 13).toInt) (sk (tb f (I p 13).toInt) (I p 14).toInt))) ∧ (¬ tw (tb f (I p 13).toInt) w (I p 14).toInt → u.toInt = 0 ∧ mdA I I1 p (sk (tb f (I p 13).toInt) (I p 14).toInt))
theorem mdW_of {f : Nat → Int32} {I I1 : Nat → Nat → Int32} {p : Nat} {u : Int32} {w : List Int32} (k : ∀ k, ¬ k = 14 → I1 p k = I p k) (h : (tw (tb f (I p 13).toInt) w (I p 14).toInt → u.toInt = 1 ∧ (I1 p 14).toInt = wr (tb f (I p 13).toInt) (sk (tb f (I p 13).toInt) (I p 14).toInt)) ∧ (¬ tw (tb f (I p 13).toInt) w (I p 14).toInt → u.toInt = 0 ∧ (I1 p 14).toInt = sk (tb f (I p 13).toInt) (I p 14).toInt)) : mdW f I I1 p u w := ⟨fun q => ⟨(h.1 q).1, k 13 (by decide), k 15 (by decide), (h.1 q).2⟩, fun q => ⟨(h.2 q).1, k 13 (by decide), k 15 (by decide), (h.2 q).2⟩⟩
theorem mdA_tr {I Ia I1 : Nat → Nat → Int32} {p : Nat} {s s2 : Int} (h : mdA I Ia p s) (h2 : mdA Ia I1 p s2) : mdA I I1 p s2 := ⟨h2.1.trans h.1, h2.2.1.trans h.2.1, h2.2.2⟩
theorem mdW_next {f : Nat → Int32} {I Ia Ib : Nat → Nat → Int32} {p : Nat} {u : Int32} {w : List Int32} (h : mdA I Ia p (sk (tb f (I p 13).toInt) (I p 14).toInt)) (h0 : 0 ≤ (I p 14).toInt) (hn : (I p 13).toInt ≤ 400) (h2 : mdW f Ia Ib p u w) : mdW f I Ib p u w := by
  unfold mdW at h2 ⊢
  rw [h.2.2, h.1, sk_idem h0 hn, tw_sk (sk_idem h0 hn)] at h2
  exact ⟨fun q => ⟨(h2.1 q).1, mdA_tr h (h2.1 q).2⟩, fun q => ⟨(h2.2 q).1, mdA_tr h (h2.2 q).2⟩⟩
theorem mdW_no {f : Nat → Int32} {I I1 : Nat → Nat → Int32} {p : Nat} {u : Int32} {w : List Int32} (h : mdW f I I1 p u w) (hu : u.toInt = 0) : ¬ tw (tb f (I p 13).toInt) w (I p 14).toInt ∧ mdA I I1 p (sk (tb f (I p 13).toInt) (I p 14).toInt) := by
  by_cases q : tw (tb f (I p 13).toInt) w (I p 14).toInt
  · have := (h.1 q).1; omega
  · exact ⟨q, (h.2 q).2⟩
theorem mdW_yes {f : Nat → Int32} {I I1 : Nat → Nat → Int32} {p : Nat} {u : Int32} {w : List Int32} (h : mdW f I I1 p u w) (hu : ¬ u.toInt = 0) : tw (tb f (I p 13).toInt) w (I p 14).toInt ∧ mdA I I1 p (wr (tb f (I p 13).toInt) (sk (tb f (I p 13).toInt) (I p 14).toInt)) := by
  by_cases q : tw (tb f (I p 13).toInt) w (I p 14).toInt
  · exact ⟨q, (h.1 q).2⟩
  · exact absurd (h.2 q).1 hu
theorem mdQ_A {f : Nat → Int32} {I Ia I1 : Nat → Nat → Int32} {p : Nat} {s : Int} {g : (Int → Int) → Int → Int × Int} (h : mdA I Ia p s) (h2 : mdQ Ia I1 p (g (tb f (Ia p 13).toInt) (Ia p 14).toInt)) : mdQ I I1 p (g (tb f (I p 13).toInt) s) := by
  unfold mdQ at h2 ⊢
  rw [h.1, h.2.1, h.2.2] at h2
  exact h2
theorem pfm_sign {t : Int → Int} {i : Int} (h : pS (t (sk t i)) = true) : pfm t i = prw t 41 0 0 i := by
  have e : wr t (sk t i) = sk t i := rn_stay (by
    have h : t (sk t i) = 35 ∨ t (sk t i) = 46 := of_decide_eq_true h
    exact decide_eq_false (by omega))
  have n : ∀ w : List Int32, 0 < w.length → ¬ tw t w i := fun w hw q => by have := q.1; omega
  unfold pfm
  rw [if_neg (n _ (by decide)), if_neg (n _ (by decide)), if_neg (n _ (by decide))]
theorem prw_skM {t : Int → Int} {i : Int} (h : sk t (sk t i) = sk t i) : prw t 41 0 0 (sk t i) = prw t 41 0 0 i := by
  show prw t (40 + 1) 0 0 (sk t i) = prw t (40 + 1) 0 0 i
  unfold prw; rw [h]
theorem pfm_no {t : Int → Int} {i : Int} (h : ¬ pS (t (sk t i)) = true) (h1 : ¬ tw t wBox i) (h2 : ¬ tw t wFrame i) (h3 : ¬ tw t wDisk i) : pfm t i = (8 * sk t i + 1, sk t i) := by
  unfold pfm
  rw [if_neg h1, if_neg h2, if_neg h3]
  show prw t (40 + 1) 0 0 i = _
  unfold prw
  rw [if_pos (rn_stay (Bool.eq_false_iff.mpr h))]
/-- what may be told and isn't, or is -/
def mdO (f : Nat → Int32) (I Ix : Nat → Nat → Int32) (p : Nat) (u : Int) (w : List Int32) (g : (Int → Int) → Int → Int × Int) : Prop := (u = 1 ∧ (I p 15).toInt = -1 ∧ tw (tb f (I p 13).toInt) w (I p 14).toInt ∧ mdA I Ix p (wr (tb f (I p 13).toInt) (sk (tb f (I p 13).toInt) (I p 14).toInt))) ∨ (u = 0 ∧ mdQ I Ix p (g (tb f (I p 13).toInt) (I p 14).toInt))
def mdO2 (f : Nat → Int32) (I Ix : Nat → Nat → Int32) (p : Nat) (u : Int) (w : List Int32) (q g : (Int → Int) → Int → Int × Int) : Prop := (u = 1 ∧ tw (tb f (I p 13).toInt) w (I p 14).toInt ∧ mdQ I Ix p (q (tb f (I p 13).toInt) (wr (tb f (I p 13).toInt) (sk (tb f (I p 13).toInt) (I p 14).toInt)))) ∨ (u = 0 ∧ mdQ I Ix p (g (tb f (I p 13).toInt) (I p 14).toInt))
section MDO
variable {f : Nat → Int32} {I Ia Ib I1 : Nat → Nat → Int32} {p : Nat} {u : Int32} {uu : Int} {w : List Int32} {q g : (Int → Int) → Int → Int × Int}
theorem mdQ_id {a : Int × Int} (h : ¬ (I p 15).toInt = -1) : mdQ I I p a := mdQ_bad h rfl rfl
/-- without the word -/
theorem md_none (hg : ∀ t i, ¬ tw t w i → g t i = (0, sk t i)) (hf : (I p 15).toInt = -1) (h : mdW f I Ia p u w) (hu : u.toInt = 0) : mdQ I Ia p (g (tb f (I p 13).toInt) (I p 14).toInt) := by
  have k := mdW_no h hu
  rw [hg _ _ k.1]
  exact mdQ_ok k.2.1 hf (by rw [k.2.2.1]; exact hf) k.2.2.2
theorem md_one (hg : ∀ t i, tw t w i → g t i = q t (wr t (sk t i))) (h : mdW f I Ia p u w) (hu : ¬ u.toInt = 0) (h2 : mdQ Ia I1 p (q (tb f (Ia p 13).toInt) (Ia p 14).toInt)) : mdQ I I1 p (g (tb f (I p 13).toInt) (I p 14).toInt) := by
  have k := mdW_yes h hu
  rw [hg _ _ k.1]
  exact mdQ_A (g := q) k.2 h2
theorem mdO_yes (hf : (I p 15).toInt = -1) (h : mdW f I Ia p u w) (hu : ¬ u.toInt = 0) (h1 : uu = 1) : mdO f I Ia p uu w g := Or.inl ⟨h1, hf, mdW_yes h hu⟩
theorem mdO_1 (h : mdO f I Ia p uu w g) (hu : ¬ uu = 0) (h2 : mdQ Ia Ib p (q (tb f (Ia p 13).toInt) (Ia p 14).toInt)) : mdO2 f I Ib p uu w q g := by
  rcases h with k | k
  · exact Or.inl ⟨k.1, k.2.2.1, mdQ_A (g := q) k.2.2.2 h2⟩
  · exact absurd k.1 hu
theorem mdO_0 (h : mdO f I Ia p uu w g) (hu : uu = 0) : mdO2 f I Ia p uu w q g := by
  rcases h with k | k
  · have := k.1; omega
  · exact Or.inr k
theorem mdO2_S (h : mdO2 f I Ia p uu w q g) (h2 : mdS Ia Ib p) : mdO2 f I Ib p uu w q g := h.elim (fun k => Or.inl ⟨k.1, k.2.1, mdQ_S k.2.2 h2⟩) (fun k => Or.inr ⟨k.1, mdQ_S k.2 h2⟩)
theorem mdO2_1 (hg : ∀ t i, tw t w i → g t i = sq (q t (wr t (sk t i))) (q t)) (h : mdO2 f I Ia p uu w q g) (hu : ¬ uu = 0) (h2 : mdQ Ia Ib p (q (tb f (Ia p 13).toInt) (Ia p 14).toInt)) : mdQ I Ib p (g (tb f (I p 13).toInt) (I p 14).toInt) := by
  rcases h with k | k
  · rw [hg _ _ k.2.1]; exact mdQ_bind (g := q) k.2.2 h2
  · exact absurd k.1 hu
theorem mdO2_0 (h : mdO2 f I Ia p uu w q g) (hu : uu = 0) : mdQ I Ia p (g (tb f (I p 13).toInt) (I p 14).toInt) := by
  rcases h with k | k
  · have := k.1; omega
  · exact k.2
end MDO
theorem pfl_n (t : Int → Int) (i : Int) (h : ¬ tw t wFlip i) : pfl t i = (0, sk t i) := if_neg h
theorem pfl_y (t : Int → Int) (i : Int) (h : tw t wFlip i) : pfl t i = pn t 0 3 (wr t (sk t i)) := if_pos h
theorem ply_n (t : Int → Int) (i : Int) (h : ¬ tw t wLayer i) : ply t i = (0, sk t i) := if_neg h
theorem ply_y (t : Int → Int) (i : Int) (h : tw t wLayer i) : ply t i = sq (pn t 0 15 (wr t (sk t i))) (pn t 0 15) := if_pos h
theorem pmv_n (t : Int → Int) (i : Int) (h : ¬ tw t wMoves i) : pmv t i = (0, sk t i) := if_neg h
theorem pmv_y (t : Int → Int) (i : Int) (h : tw t wMoves i) : pmv t i = sq (ps t 20 (wr t (sk t i))) (ps t 20) := if_pos h
section MPT
variable {f : Nat → Int32} {I Ia Ib I1 : Nat → Nat → Int32} {p yh : Nat} {u u0 : Int32}
def mpC (f : Nat → Int32) (I I1 : Nat → Nat → Int32) (p yh : Nat) : Prop := mdQ I I1 p (ppt (tb f (I p 13).toInt) (I yh 0).toInt (I yh 1).toInt (I p 14).toInt).1 ∧ ((ppt (tb f (I p 13).toInt) (I yh 0).toInt (I yh 1).toInt (I p 14).toInt).1.1 = 0 → (I1 yh 0).toInt = (ppt (tb f (I p 13).toInt) (I yh 0).toInt (I yh 1).toInt (I p 14).toInt).2.1 ∧ (I1 yh 1).toInt = (ppt (tb f (I p 13).toInt) (I yh 0).toInt (I yh 1).toInt (I p 14).toInt).2.2)
theorem mpt_mask (h : mdW f I Ia p u wMask) (hu : ¬ u.toInt = 0) (hy : Ia yh = I yh) (hM : (I yh 0).toInt < 8) (h2 : mdQ Ia I1 p (pfm (tb f (Ia p 13).toInt) (Ia p 14).toInt) ∧ ((pfm (tb f (Ia p 13).toInt) (Ia p 14).toInt).1 = 0 → (I1 yh 0).toInt = (Ia yh 0).toInt + 1) ∧ I1 yh 1 = Ia yh 1) : mpC f I I1 p yh := by
  have k := mdW_yes h hu
  have q := mdQ_A (g := pfm) k.2 h2.1
  rw [k.2.1, k.2.2.2, hy] at h2
  unfold mpC ppt
  rw [if_pos k.1, if_neg (by omega)]
  exact ⟨q, fun e => ⟨h2.2.1 e, by rw [h2.2.2]⟩⟩
theorem mpt_mask8 (h : mdW f I Ia p u wMask) (hu : ¬ u.toInt = 0) (hf : (I p 15).toInt = -1) (hs : 0 ≤ sk (tb f (I p 13).toInt) (I p 14).toInt) (hM : 8 ≤ (I yh 0).toInt) (h13 : I1 p 13 = Ia p 13) (h2 : (Ia p 15).toInt = -1 → (I1 p 15).toInt = 8 * sk (tb f (I p 13).toInt) (I p 14).toInt + 3) : mpC f I I1 p yh := by
  have k := mdW_yes h hu
  unfold mpC ppt
  rw [if_pos k.1, if_pos hM]
  exact ⟨mdQ_no (h13.trans k.2.1) hf (by omega) (h2 (by rw [k.2.2.1]; exact hf)), fun e => by have e : 8 * sk (tb f (I p 13).toInt) (I p 14).toInt + 3 = 0 := e; omega⟩
theorem mpt_body (g : mdW f I Ia p u0 wMask) (gu : u0.toInt = 0) (h : mdW f I Ib p u wBody) (hu : ¬ u.toInt = 0) (hy : Ib yh = I yh) (hN : (I yh 1).toInt < 10) (h2 : mdQ Ib I1 p (pbd (tb f (Ib p 13).toInt) (Ib yh 0).toInt (Ib p 14).toInt) ∧ ((pbd (tb f (Ib p 13).toInt) (Ib yh 0).toInt (Ib p 14).toInt).1 = 0 → (I1 yh 1).toInt = (Ib yh 1).toInt + 1) ∧ I1 yh 0 = Ib yh 0) : mpC f I I1 p yh := by
  have k0 := mdW_no g gu
  have k := mdW_yes h hu
  rw [hy] at h2
  have q := mdQ_A (g := fun t => pbd t (I yh 0).toInt) k.2 h2.1
  rw [k.2.1, k.2.2.2] at h2
  unfold mpC ppt
  rw [if_neg k0.1, if_pos k.1, if_neg (by omega)]
  exact ⟨q, fun e => ⟨by rw [h2.2.2], h2.2.1 e⟩⟩
theorem mpt_body10 (g : mdW f I Ia p u0 wMask) (gu : u0.toInt = 0) (h : mdW f I Ib p u wBody) (hu : ¬ u.toInt = 0) (hf : (I p 15).toInt = -1) (hs : 0 ≤ sk (tb f (I p 13).toInt) (I p 14).toInt) (hN : 10 ≤ (I yh 1).toInt) (h13 : I1 p 13 = Ib p 13) (h2 : (Ib p 15).toInt = -1 → (I1 p 15).toInt = 8 * sk (tb f (I p 13).toInt) (I p 14).toInt + 3) : mpC f I I1 p yh := by
  have k0 := mdW_no g gu
  have k := mdW_yes h hu
  unfold mpC ppt
  rw [if_neg k0.1, if_pos k.1, if_pos hN]
  exact ⟨mdQ_no (h13.trans k.2.1) hf (by omega) (h2 (by rw [k.2.2.1]; exact hf)), fun e => by have e : 8 * sk (tb f (I p 13).toInt) (I p 14).toInt + 3 = 0 := e; omega⟩
theorem mpt_none (g : mdW f I Ia p u0 wMask) (gu : u0.toInt = 0) (h : mdW f I Ib p u wBody) (hu : u.toInt = 0) (hf : (I p 15).toInt = -1) (hs : 0 ≤ sk (tb f (I p 13).toInt) (I p 14).toInt) (h13 : I1 p 13 = Ib p 13) (h2 : (Ib p 15).toInt = -1 → (I1 p 15).toInt = 8 * sk (tb f (I p 13).toInt) (I p 14).toInt + 1) : mpC f I I1 p yh := by
  have k0 := mdW_no g gu
  have k := mdW_no h hu
  unfold mpC ppt
  rw [if_neg k0.1, if_neg k.1]
  exact ⟨mdQ_no (h13.trans k.2.1) hf (by omega) (h2 (by rw [k.2.2.1]; exact hf)), fun e => by have e : 8 * sk (tb f (I p 13).toInt) (I p 14).toInt + 1 = 0 := e; omega⟩
end MPT
theorem tpMk {L : List Nat} {K G : Nat → Nat} {Q : Nat → Nat → Option Nat} {x0 m0 : Nat} {tx : GT} {tm : GT × Int} {I : Nat → Nat → Int32} {p0 : Nat} (hQ : Sv L K G Q) (h : Iv L K x0 m0 tx tm I) (hL : p0 ∈ L) (hK : K p0 = 7) : K tm.1.2.1 = 31 := by
  obtain ⟨y, -, hy, ky⟩ := oQ_7_12 (Sv_at hQ hL hK)
  have q := (h.2.2.2.2.2.2 y hy ky).1
  rw [← q]; exact ky
/-- the reference's tell, at its loop and behind it -/
def tlF (t : Int → Int) (TR F N a : Int) : Prop := (¬ F = -1 ∧ TR = -2 - F) ∨ (F = -1 ∧ sk t a = a ∧ ((t a = -1000 ∧ TR = N) ∨ (¬ t a = -1000 ∧ TR = -2 - (8 * a + 1))))
def tlL (t : Int → Int) (TR : Int) (I Ix : Nat → Nat → Int32) (p yh tp : Nat) (u a : Int) : Prop := (Ix tp = I tp ∧ Ix p 13 = I p 13) ∧ ((u = 1 ∧ (Ix p 15).toInt = -1 ∧ ∃ k : Nat, 401 ≤ (k : Int) + a ∧ TR = prs t k (Ix yh 0).toInt (Ix yh 1).toInt a) ∨ (u = 0 ∧ tlF t TR (Ix p 15).toInt (Ix yh 1).toInt a))
def tlE (TR F N : Int) : Prop := (¬ F = -1 ∧ TR = -2 - F) ∨ (F = -1 ∧ TR = N)
section TL
variable {f : Nat → Int32} {TR : Int} {I Ix Iy Iz : Nat → Nat → Int32} {p yh tp : Nat} {u a : Int}
theorem tlL_go {t : Int → Int} (h : tlL t TR I Ix p yh tp u a) (hu : ¬ u = 0) (ha : a ≤ 400) : (Ix tp = I tp ∧ Ix p 13 = I p 13) ∧ (Ix p 15).toInt = -1 ∧ ∃ k : Nat, 401 ≤ ((k + 1 : Nat) : Int) + a ∧ TR = prs t (k + 1) (Ix yh 0).toInt (Ix yh 1).toInt a := by
  refine ⟨h.1, ?_⟩
  rcases h.2 with ⟨-, q, k, hk, e⟩ | q
  · refine ⟨q, k - 1, ?_, ?_⟩
    · omega
    · rw [show k - 1 + 1 = k by omega]; exact e
  · exact absurd q.1 hu
theorem tlL_end {t : Int → Int} (h : tlL t TR I Ix p yh tp u a) (hu : u = 0) : tlF t TR (Ix p 15).toInt (Ix yh 1).toInt a := by
  rcases h.2 with q | q
  · have := q.1; omega
  · exact q.2
theorem tlL_bad {t : Int → Int} (h : tlL t TR I Ix p yh tp u a) (hn : ¬ (Ix p 15).toInt = -1) : tlF t TR (Ix p 15).toInt (Ix yh 1).toInt a := by
  rcases h.2 with q | q
  · exact absurd q.2.1 hn
  · exact q.2
theorem tlL_put {t : Int → Int} {a2 : Int} (h : tlL t TR I Ix p yh tp u a) (h1 : Iy tp = Ix tp) (h13 : Iy p 13 = Ix p 13) (h15 : Iy p 15 = Ix p 15) (hy : Iy yh = Ix yh) (ha : a2 = a) : tlL t TR I Iy p yh tp u a2 := by
  unfold tlL at h ⊢
  rw [h1, h13, h15, hy, ha]; exact h
variable {t : Int → Int} {M N : Int} {k : Nat} {i : Int}
/-- a part that is none -/
theorem tl_bad (e : TR = prs t (k + 1) M N i) (hF : ¬ (Iy p 15).toInt = -1) (h0 : (Ix p 15).toInt = -1) (h : mdQ Ix Iy p (ppt t M N i).1) {b c : Int} : tlF t TR (Iy p 15).toInt b c := by
  have q := h.2.1 h0
  by_cases w : (ppt t M N i).1.1 = 0
  · exact absurd (q.1 w).1 hF
  · refine Or.inl ⟨hF, ?_⟩
    rw [e, prs_bad w, (q.2 w).1]
/-- a part, and no more of them -/
theorem tl_last (e : TR = prs t (k + 1) M N i) (hF : (Iy p 15).toInt = -1) (h0 : (Ix p 15).toInt = -1) (h : mdQ Ix Iy p (ppt t M N i).1) (hN : (ppt t M N i).1.1 = 0 → (Iy yh 1).toInt = (ppt t M N i).2.2) (h15 : Iz p 15 = Iy p 15) (hy : Iz yh = Iy yh) (ha : (Iz p 14).toInt = sk t (Iy p 14).toInt) (hi : sk t (sk t (Iy p 14).toInt) = sk t (Iy p 14).toInt) (hn : ¬ t (Iz p 14).toInt = 59) : tlF t TR (Iz p 15).toInt (Iz yh 1).toInt (Iz p 14).toInt := by
  have q := h.2.1 h0
  by_cases w : (ppt t M N i).1.1 = 0
  · have q2 := (q.1 w).2
    rw [h15, hy, hN w]
    rw [q2] at ha hi
    refine Or.inr ⟨hF, by rw [ha]; exact hi, ?_⟩
    rw [ha] at hn ⊢
    by_cases z : t (sk t (ppt t M N i).1.2) = -1000
    · exact Or.inl ⟨z, by rw [e, prs_end w z]⟩
    · exact Or.inr ⟨z, by rw [e, prs_sig w z hn]⟩
  · exact absurd hF (by rw [(q.2 w).1]; exact (q.2 w).2)
/-- a part, and the next one -/
theorem tl_more (e : TR = prs t (k + 1) M N i) (hk : 401 ≤ ((k + 1 : Nat) : Int) + i) (hF : (Iy p 15).toInt = -1) (h0 : (Ix p 15).toInt = -1) (h : mdQ Ix Iy p (ppt t M N i).1) (hN : (ppt t M N i).1.1 = 0 → (Iy yh 0).toInt = (ppt t M N i).2.1 ∧ (Iy yh 1).toInt = (ppt t M N i).2.2) (hy : Iz yh = Iy yh) (ha : (Iz p 14).toInt = sk t (Iy p 14).toInt) (hi0 : 0 ≤ i) (hn : t (Iz p 14).toInt = 59) : ∃ k : Nat, 401 ≤ (k : Int) + ((Iz p 14).toInt + 1) ∧ TR = prs t k (Iz yh 0).toInt (Iz yh 1).toInt ((Iz p 14).toInt + 1) := by
  have q := h.2.1 h0
  by_cases w : (ppt t M N i).1.1 = 0
  · have q2 := (q.1 w).2
    have ad := ppt_adv w hi0
    rw [q2] at ha
    have le : (ppt t M N i).1.2 ≤ sk t (ppt t M N i).1.2 := rn_le
    refine ⟨k, by rw [ha]; omega, ?_⟩
    rw [ha] at hn ⊢
    rw [e, prs_go w (by rw [hn]; decide) hn, hy, (hN w).1, (hN w).2]
  · exact absurd hF (by rw [(q.2 w).1]; exact (q.2 w).2)
theorem tlE_bad {F N a : Int} (h : tlF t TR F N a) (hF : ¬ F = -1) : tlE TR F N := h.elim Or.inl (fun q => absurd q.1 hF)
theorem tlE_end {F N a N2 F2 : Int} (h : tlF t TR F N a) (hF : F = -1) (hz : t a = -1000) (hN : N2 = N) (h2 : F2 = F) : tlE TR F2 N2 := by
  rcases h with q | ⟨-, -, q | q⟩
  · exact absurd hF q.1
  · exact Or.inr ⟨h2.trans hF, by rw [hN]; exact q.2⟩
  · exact absurd hz q.1
theorem tlE_sig {F N a N2 F2 : Int} (h : tlF t TR F N a) (hF : F = -1) (hz : ¬ t a = -1000) (ha : 0 ≤ a) (h2 : F2 = 8 * a + 1) : tlE TR F2 N2 := by
  rcases h with q | ⟨-, -, q | q⟩
  · exact absurd hF q.1
  · exact absurd q.1 hz
  · exact Or.inl ⟨by omega, by rw [h2]; exact q.2⟩
theorem tlF_sk {F N a : Int} (h : tlF t TR F N a) (hF : F = -1) : sk t a = a := by
  rcases h with q | q
  · exact absurd hF q.1
  · exact q.2.1
end TL
