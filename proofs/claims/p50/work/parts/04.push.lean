/-! cells that come into the pool -/
abbrev Pl := List Nat × (Nat → Nat) × (Nat → Nat) × (Nat → Nat → Option Nat) × (Nat → Nat → Int32) × (Nat → Nat → Int64)
def rl (l : List Nat) (i : Nat) : Option Nat := l[i]?
theorem rl_up {l : List Nat} {i : Int32} {q : Nat} (h : i.toNatClampNeg = l.length) : va_up (rl l) i.toNatClampNeg (some q) = rl (l ++ [q]) := by
  funext j
  rw [h]
  by_cases hj : j = l.length
  · subst hj; rw [va_up_self]; unfold rl; simp
  · rw [va_up_ne _ _ hj]
    unfold rl
    rcases Nat.lt_or_ge j l.length with q1 | q1
    · rw [List.getElem?_append_left q1]
    · rw [List.getElem?_eq_none q1, List.getElem?_eq_none (by simp; omega)]
section MO
variable {L L1 : List Nat} {K K1 G G1 : Nat → Nat} {F : Option Nat} {t g : Nat}
theorem mo0 (h : ∀ y, y ∈ L → y ∈ L1 ∧ K1 y = K y ∧ G1 y = G y) (e : ∃ y, F = some y ∧ y ∈ L ∧ K y = t) : ∃ y, F = some y ∧ y ∈ L1 ∧ K1 y = t := by
  obtain ⟨y, a, b, c⟩ := e
  exact ⟨y, a, (h y b).1, (h y b).2.1.trans c⟩
theorem mo1 (h : ∀ y, y ∈ L → y ∈ L1 ∧ K1 y = K y ∧ G1 y = G y) (e : ∃ y, F = some y ∧ y ∈ L ∧ K y = t ∧ G y = g) : ∃ y, F = some y ∧ y ∈ L1 ∧ K1 y = t ∧ G1 y = g := by
  obtain ⟨y, a, b, c, d⟩ := e
  exact ⟨y, a, (h y b).1, (h y b).2.1.trans c, (h y b).2.2.trans d⟩
theorem mo2 (h : ∀ y, y ∈ L → y ∈ L1 ∧ K1 y = K y ∧ G1 y = G y) (e : ∃ y, F = some y ∧ y ∈ L ∧ K y = t ∧ ¬ G y = g) : ∃ y, F = some y ∧ y ∈ L1 ∧ K1 y = t ∧ ¬ G1 y = g := by
  obtain ⟨y, a, b, c, d⟩ := e
  exact ⟨y, a, (h y b).1, (h y b).2.1.trans c, fun z => d ((h y b).2.2.symm.trans z)⟩
end MO
theorem okQ_mono {L L1 : List Nat} {K K1 G G1 : Nat → Nat} (h : ∀ y, y ∈ L → y ∈ L1 ∧ K1 y = K y ∧ G1 y = G y) {κ g : Nat} {f : Nat → Option Nat} (hq : okQ L K G κ g f) : okQ L1 K1 G1 κ g f := by
  by_cases c1 : κ = 1
  · subst c1; exact ⟨mo1 h (hq.1), mo1 h (hq.2)⟩
  by_cases c2 : κ = 2
  · subst c2; exact ⟨mo1 h (hq.1), mo0 h (hq.2)⟩
  by_cases c3 : κ = 3
  · subst c3; exact mo1 h (hq)
  by_cases c4 : κ = 4
  · subst c4; exact mo0 h (hq)
  by_cases c5 : κ = 5
  · subst c5; exact ⟨mo1 h (hq.1), mo1 h (hq.2)⟩
  by_cases c6 : κ = 6
  · subst c6; exact ⟨mo0 h (hq.1), mo1 h (hq.2.1), mo1 h (hq.2.2.1), mo0 h (hq.2.2.2.1), mo1 h (hq.2.2.2.2.1), mo1 h (hq.2.2.2.2.2.1), mo0 h (hq.2.2.2.2.2.2.1), mo0 h (hq.2.2.2.2.2.2.2.1), mo0 h (hq.2.2.2.2.2.2.2.2)⟩
  by_cases c7 : κ = 7
  · subst c7; exact ⟨mo0 h (hq.1), mo0 h (hq.2.1), mo0 h (hq.2.2.1), mo0 h (hq.2.2.2.1), mo0 h (hq.2.2.2.2.1), mo0 h (hq.2.2.2.2.2.1), mo0 h (hq.2.2.2.2.2.2.1), mo0 h (hq.2.2.2.2.2.2.2.1), mo0 h (hq.2.2.2.2.2.2.2.2.1), mo0 h (hq.2.2.2.2.2.2.2.2.2.1), mo0 h (hq.2.2.2.2.2.2.2.2.2.2.1), mo0 h (hq.2.2.2.2.2.2.2.2.2.2.2.1), mo0 h (hq.2.2.2.2.2.2.2.2.2.2.2.2.1), mo0 h (hq.2.2.2.2.2.2.2.2.2.2.2.2.2.1), mo0 h (hq.2.2.2.2.2.2.2.2.2.2.2.2.2.2.1), mo0 h (hq.2.2.2.2.2.2.2.2.2.2.2.2.2.2.2.1), mo0 h (hq.2.2.2.2.2.2.2.2.2.2.2.2.2.2.2.2.1), mo0 h (hq.2.2.2.2.2.2.2.2.2.2.2.2.2.2.2.2.2)⟩
  by_cases c13 : κ = 13
  · subst c13; exact ⟨fun i hi => mo1 h (hq.1 i hi), hq.2⟩
  by_cases c14 : κ = 14
  · subst c14; exact ⟨fun i hi => mo1 h (hq.1 i hi), hq.2⟩
  by_cases c15 : κ = 15
  · subst c15; exact ⟨fun i hi => mo1 h (hq.1 i hi), hq.2⟩
  by_cases c16 : κ = 16
  · subst c16; exact fun i hi => (hq i hi).elim Or.inl (fun q => Or.inr (mo1 h q))
  by_cases c17 : κ = 17
  · subst c17; exact fun i hi => (hq i hi).elim Or.inl (fun q => Or.inr (mo1 h q))
  unfold okQ
  split <;> first | trivial | (exfalso; omega)
theorem Wd_push {cs : Nat → ClassId} {L : List Nat} {K : Nat → Nat} {I : Nat → Nat → Int32} {J : Nat → Nat → Int64} {Q : Nat → Nat → Option Nat} {a κ : Nat} {fi : Nat → Int32} {fj : Nat → Int64} {fq : Nat → Option Nat} (h : a ∉ L) : Wd cs L K I J Q ++ [(a, ent cs κ fi fj fq)] = Wd cs (L ++ [a]) (va_up K a κ) (va_up I a fi) (va_up J a fj) (va_up Q a fq) := by
  refine (va_pl_push h).trans ?_
  unfold Wd
  refine va_pl_congr (fun b => ?_)
  by_cases q : b = a
  · subst q; simp only [va_up_self]
  · rw [va_up_ne _ _ q, va_up_ne _ _ q, va_up_ne _ _ q, va_up_ne _ _ q, va_up_ne _ _ q]
theorem nd_push {A : Nat → Prop} {L : List Nat} {a : Nat} (hD : ∀ F, va_D A (va_pl L F)) (h : a ∉ L) (hA : A a) : ∀ F, va_D A (va_pl (L ++ [a]) F) := by
  intro F
  have e : va_pl (L ++ [a]) F = va_pl L F ++ [(a, F a)] := by unfold va_pl; simp
  have hl : (va_pl L F).length = L.length := by unfold va_pl; simp
  rw [e]
  have old : ∀ (i : Nat) (x : Nat × va_E), (va_pl L F ++ [(a, F a)])[i]? = some x → (i < L.length ∧ (va_pl L F)[i]? = some x) ∨ (i = L.length ∧ x = (a, F a)) := by
    intro i x hx
    rcases Nat.lt_or_ge i (va_pl L F).length with q | q
    · rw [List.getElem?_append_left q] at hx
      exact Or.inl ⟨by omega, hx⟩
    · rw [List.getElem?_append_right q] at hx
      have z : i - (va_pl L F).length < 1 := (List.getElem?_eq_some_iff.mp hx).1
      rw [show i - (va_pl L F).length = 0 by omega] at hx
      exact Or.inr ⟨by omega, (Option.some.inj hx).symm⟩
  refine ⟨fun i j x y hx hy hxy => ?_, fun k q hk => ?_⟩
  · rcases old i x hx with ⟨i1, i2⟩ | ⟨i1, i2⟩ <;> rcases old j y hy with ⟨j1, j2⟩ | ⟨j1, j2⟩
    · exact (hD F).1 i j x y i2 j2 hxy
    · exact absurd (by have z : x.1 = a := by rw [j2] at hxy; exact hxy
                       rw [← z]; exact pl_mem i2) h
    · exact absurd (by have z : a = y.1 := by rw [i2] at hxy; exact hxy
                       rw [z]; exact pl_mem j2) h
    · omega
  · rcases old k q hk with ⟨i1, i2⟩ | ⟨i1, i2⟩
    · exact (hD F).2 k q i2
    · rw [i2]; exact hA
def PO (D : va_G) (cs : Nat → ClassId) (A : Nat → Prop) (x0 m0 : Nat) (tx : GT) (tm : GT × Int) (H : Heap) (P : Pl) : Prop := Sv P.1 P.2.1 P.2.2.1 P.2.2.2.1 ∧ Iv P.1 P.2.1 x0 m0 tx tm P.2.2.2.2.1 ∧ va_P D vwCl (Wd cs P.1 P.2.1 P.2.2.2.2.1 P.2.2.2.2.2 P.2.2.2.1) H ∧ ∀ F, va_D A (va_pl P.1 F)
def EX (P P1 : Pl) : Prop := ∀ y, y ∈ P.1 → y ∈ P1.1 ∧ P1.2.1 y = P.2.1 y ∧ P1.2.2.1 y = P.2.2.1 y ∧ P1.2.2.2.1 y = P.2.2.2.1 y ∧ P1.2.2.2.2.1 y = P.2.2.2.2.1 y ∧ P1.2.2.2.2.2 y = P.2.2.2.2.2 y
def At (P : Pl) (a κ g : Nat) : Prop := a ∈ P.1 ∧ P.2.1 a = κ ∧ P.2.2.1 a = g
theorem EX.at {P P1 : Pl} {a κ g : Nat} (h : EX P P1) (ha : At P a κ g) : At P1 a κ g := ⟨(h a ha.1).1, (h a ha.1).2.1.trans ha.2.1, (h a ha.1).2.2.1.trans ha.2.2⟩
def Ct (P : Pl) (a : Nat) (fq : Nat → Option Nat) (fi : Nat → Int32) : Prop := P.2.2.2.1 a = fq ∧ P.2.2.2.2.1 a = fi
theorem EX.ct {P P1 : Pl} {a : Nat} {fq : Nat → Option Nat} {fi : Nat → Int32} (h : EX P P1) (ha : a ∈ P.1) (hc : Ct P a fq fi) : Ct P1 a fq fi := ⟨(h a ha).2.2.2.1.trans hc.1, (h a ha).2.2.2.2.1.trans hc.2⟩
theorem EX.ci {P P1 : Pl} {a : Nat} {fi : Nat → Int32} (h : EX P P1) (ha : a ∈ P.1) (hc : P.2.2.2.2.1 a = fi) : P1.2.2.2.2.1 a = fi := (h a ha).2.2.2.2.1.trans hc
theorem EX.refl {P : Pl} : EX P P := fun _ h => ⟨h, rfl, rfl, rfl, rfl, rfl⟩
theorem EX.trans {P P1 P2 : Pl} (h : EX P P1) (h2 : EX P1 P2) : EX P P2 := fun y hy => ⟨(h2 y (h y hy).1).1, (h2 y (h y hy).1).2.1.trans (h y hy).2.1, (h2 y (h y hy).1).2.2.1.trans (h y hy).2.2.1, (h2 y (h y hy).1).2.2.2.1.trans (h y hy).2.2.2.1, (h2 y (h y hy).1).2.2.2.2.1.trans (h y hy).2.2.2.2.1, (h2 y (h y hy).1).2.2.2.2.2.trans (h y hy).2.2.2.2.2⟩
section PU
variable {D : va_G} {cs : Nat → ClassId} {A : Nat → Prop} {x0 m0 : Nat} {tx : GT} {tm : GT × Int} {H : Heap}
theorem push1 {P : Pl} (hPO : PO D cs A x0 m0 tx tm H P) {a κ g : Nat} {fi : Nat → Int32} {fj : Nat → Int64} {fq : Nat → Option Nat} {e : va_E} (hE : va_P D vwCl [(a, e)] H) (ha : a ∉ P.1) (hAa : A a) (he : e = ent cs κ fi fj fq) (hi : okI tm.2 κ fi) (hq : okQ P.1 P.2.1 P.2.2.1 κ g fq) (hx : a = x0 → κ = 6 ∧ fi 1 = tx.1) (hm : a = m0 → κ = 7 ∧ fi 13 = tm.1.1) (h10 : κ = 10 → a = tx.2.1 ∧ fi = tx.2.2 ∧ ∀ k, -128 ≤ (tx.2.2 k).toInt ∧ (tx.2.2 k).toInt ≤ 127 := by intro h; exact absurd h (by decide)) (h31 : κ = 31 → a = tm.1.2.1 ∧ fi = tm.1.2.2 ∧ ∀ k, -128 ≤ (tm.1.2.2 k).toInt ∧ (tm.1.2.2 k).toInt ≤ 127 := by intro h; exact absurd h (by decide)) : ∃ P1, PO D cs A x0 m0 tx tm H P1 ∧ EX P P1 ∧ At P1 a κ g ∧ P1.2.2.2.1 a = fq ∧ P1.2.2.2.2.1 a = fi ∧ ∀ y, y ∈ P1.1 → y ∈ P.1 ∨ y = a := by
  obtain ⟨L, K, G, Q, I, J⟩ := P
  obtain ⟨hS, hI, hP, hD⟩ := hPO
  have ne : ∀ y, y ∈ L → ¬ y = a := fun y hy q => ha (q ▸ hy)
  have mon : ∀ y, y ∈ L → y ∈ L ++ [a] ∧ va_up K a κ y = K y ∧ va_up G a g y = G y := fun y hy => ⟨List.mem_append_left _ hy, va_up_ne _ _ (ne y hy), va_up_ne _ _ (ne y hy)⟩
  refine ⟨(L ++ [a], va_up K a κ, va_up G a g, va_up Q a fq, va_up I a fi, va_up J a fj), ⟨?_, ?_, ?_, nd_push hD ha hAa⟩, fun y hy => ⟨List.mem_append_left _ hy, va_up_ne _ _ (ne y hy), va_up_ne _ _ (ne y hy), va_up_ne _ _ (ne y hy), va_up_ne _ _ (ne y hy), va_up_ne _ _ (ne y hy)⟩, ⟨List.mem_append_right _ (List.mem_singleton.mpr rfl), va_up_self _ _ _, va_up_self _ _ _⟩, va_up_self _ _ _, va_up_self _ _ _, fun y hy => ?_⟩
  · intro b hb
    rcases List.mem_append.mp hb with hb | hb
    · show okQ _ _ _ (va_up K a κ b) (va_up G a g b) (va_up Q a fq b)
      rw [va_up_ne _ _ (ne b hb), va_up_ne _ _ (ne b hb), va_up_ne _ _ (ne b hb)]
      exact okQ_mono mon (hS b hb)
    · obtain rfl := List.mem_singleton.mp hb
      show okQ _ _ _ (va_up K b κ b) (va_up G b g b) (va_up Q b fq b)
      rw [va_up_self, va_up_self, va_up_self]
      exact okQ_mono mon hq
  · refine ⟨fun b hb => ?_, ⟨?_, ?_⟩, ?_, ?_, hI.2.2.2.2.1, fun b hb hk => ?_, fun b hb hk => ?_⟩
    · rcases List.mem_append.mp hb with hb | hb
      · show okI tm.2 (va_up K a κ b) (va_up I a fi b)
        rw [va_up_ne _ _ (ne b hb), va_up_ne _ _ (ne b hb)]
        exact hI.1 b hb
      · obtain rfl := List.mem_singleton.mp hb
        show okI tm.2 (va_up K b κ b) (va_up I b fi b)
        rw [va_up_self, va_up_self]
        exact hi
    · show va_up K a κ x0 = 6
      by_cases q : x0 = a
      · rw [← q, va_up_self]; exact (hx q.symm).1
      · rw [va_up_ne _ _ q]; exact hI.2.1.1
    · show va_up K a κ m0 = 7
      by_cases q : m0 = a
      · rw [← q, va_up_self]; exact (hm q.symm).1
      · rw [va_up_ne _ _ q]; exact hI.2.1.2
    · show va_up I a fi x0 1 = tx.1
      by_cases q : x0 = a
      · rw [← q, va_up_self]; exact (hx q.symm).2
      · rw [va_up_ne _ _ q]; exact hI.2.2.1
    · show va_up I a fi m0 13 = tm.1.1
      by_cases q : m0 = a
      · rw [← q, va_up_self]; exact (hm q.symm).2
      · rw [va_up_ne _ _ q]; exact hI.2.2.2.1
    · rcases List.mem_append.mp hb with hb | hb
      · have hk : va_up K a κ b = 10 := hk
        show b = tx.2.1 ∧ va_up I a fi b = tx.2.2 ∧ ∀ k, -128 ≤ (tx.2.2 k).toInt ∧ (tx.2.2 k).toInt ≤ 127
        rw [va_up_ne _ _ (ne b hb)] at hk ⊢
        exact hI.2.2.2.2.2.1 b hb hk
      · obtain rfl := List.mem_singleton.mp hb
        have hk : va_up K b κ b = 10 := hk
        show b = tx.2.1 ∧ va_up I b fi b = tx.2.2 ∧ ∀ k, -128 ≤ (tx.2.2 k).toInt ∧ (tx.2.2 k).toInt ≤ 127
        rw [va_up_self] at hk ⊢
        exact h10 hk
    · rcases List.mem_append.mp hb with hb | hb
      · have hk : va_up K a κ b = 31 := hk
        show b = tm.1.2.1 ∧ va_up I a fi b = tm.1.2.2 ∧ ∀ k, -128 ≤ (tm.1.2.2 k).toInt ∧ (tm.1.2.2 k).toInt ≤ 127
        rw [va_up_ne _ _ (ne b hb)] at hk ⊢
        exact hI.2.2.2.2.2.2 b hb hk
      · obtain rfl := List.mem_singleton.mp hb
        have hk : va_up K b κ b = 31 := hk
        show b = tm.1.2.1 ∧ va_up I b fi b = tm.1.2.2 ∧ ∀ k, -128 ≤ (tm.1.2.2 k).toInt ∧ (tm.1.2.2 k).toInt ≤ 127
        rw [va_up_self] at hk ⊢
        exact h31 hk
  · show va_P D vwCl (Wd cs (L ++ [a]) (va_up K a κ) (va_up I a fi) (va_up J a fj) (va_up Q a fq)) H
    rw [← Wd_push ha, ← he]
    exact hP.app hE
  · rcases List.mem_append.mp hy with h | h
    · exact Or.inl h
    · exact Or.inr (List.mem_singleton.mp h)

def mkM (w : Nat) : va_E := .inr (3, [.int 0, .int 0, .ref w, .int 0, .int 0, .int 0, .int 0, .int 0])
def mkB : va_E := .inr (0, [.int 0, .int 0, .int 0, .int 0, .int 0, .int 0, .int 0, .int 0])
def mkW (cs : Nat → ClassId) : va_E := .inl (cs 12, 80, .inr (.inl (fun _ => 0)))
theorem okI_z {B : Int} (hB : 999 ≤ B ∧ B ≤ 6000000) (κ : Nat) : okI B κ (fun _ => 0) := by
  have e0 : (0 : Int32).toInt = 0 := rfl
  unfold okI
  split <;> first | trivial | (unfold bI; decide +kernel) | (intro i; unfold rng; rw [e0]; omega) | (unfold bI; rw [e0]; omega) | (intro i; rw [e0]; omega) | (intro i; decide +kernel) | (simp [bI]; done)
/-- a mask and its words -/
theorem pushM {P : Pl} (hPO : PO D cs A x0 m0 tx tm H P) (g : Nat) {a w : Nat} (hE : va_P D vwCl [(a, mkM w)] H) (hF : va_P D vwCl [(w, mkW cs)] H) (ha : a ∉ P.1) (hw : w ∉ P.1) (hne : ¬ a = w) (hAa : A a) (hAw : A w) (n1 : ¬ a = x0) (n2 : ¬ a = m0) (n3 : ¬ w = x0) (n4 : ¬ w = m0) : ∃ P1, PO D cs A x0 m0 tx tm H P1 ∧ EX P P1 ∧ At P1 a 3 g ∧ ∀ y, y ∈ P1.1 → y ∈ P.1 ∨ y = a ∨ y = w := by
  obtain ⟨P1, h1, e1, a1, -, -, m1⟩ := push1 (κ := 12) (g := g) (fi := fun _ => 0) (fj := fun _ => 0) (fq := fun _ => none) hPO hF hw hAw rfl (okI_z hPO.2.1.2.2.2.2.1 12) trivial (fun q => absurd q n3) (fun q => absurd q n4)
  obtain ⟨P2, h2, e2, a2, -, -, m2⟩ := push1 (κ := 3) (g := g) (fi := fun _ => 0) (fj := fun _ => 0) (fq := fun k => if k = 2 then some w else none) h1 hE (fun q => (m1 a q).elim ha hne) hAa rfl (okI_z hPO.2.1.2.2.2.2.1 3) ⟨w, rfl, a1.1, a1.2.1, a1.2.2⟩ (fun q => absurd q n1) (fun q => absurd q n2)
  exact ⟨P2, h2, e1.trans e2, a2, fun y hy => (m2 y hy).elim (fun q => (m1 y q).elim Or.inl (fun z => Or.inr (Or.inr z))) (fun q => Or.inr (Or.inl q))⟩
theorem pushMs : ∀ (ms : List (Nat × Nat)) (g : Nat) {P : Pl}, PO D cs A x0 m0 tx tm H P → (∀ q ∈ ms, va_P D vwCl [(q.1, mkM q.2)] H ∧ va_P D vwCl [(q.2, mkW cs)] H) → (ms.flatMap (fun q => [q.1, q.2])).Nodup → (∀ y ∈ ms.flatMap (fun q => [q.1, q.2]), y ∉ P.1 ∧ A y ∧ ¬ y = x0 ∧ ¬ y = m0) → ∃ P1, PO D cs A x0 m0 tx tm H P1 ∧ EX P P1 ∧ (∀ i q, ms[i]? = some q → At P1 q.1 3 (g + i)) ∧ ∀ y, y ∈ P1.1 → y ∈ P.1 ∨ y ∈ ms.flatMap (fun q => [q.1, q.2]) := by
  intro ms
  induction ms with
  | nil => intro g P h _ _ _; exact ⟨P, h, EX.refl, fun i q hq => by simp at hq, fun y hy => Or.inl hy⟩
  | cons q ms ih =>
    intro g P h hE hN hO
    have hc := hE q List.mem_cons_self
    simp only [List.flatMap_cons, List.cons_append, List.nil_append, List.nodup_cons, List.mem_cons, not_or] at hN
    have o1 := hO q.1 (by simp)
    have o2 := hO q.2 (by simp)
    obtain ⟨P1, h1, e1, a1, m1⟩ := pushM h g hc.1 hc.2 o1.1 o2.1 hN.1.1 o1.2.1 o2.2.1 o1.2.2.1 o1.2.2.2 o2.2.2.1 o2.2.2.2
    obtain ⟨P2, h2, e2, a2, m2⟩ := ih (g + 1) h1 (fun r hr => hE r (List.mem_cons_of_mem _ hr)) hN.2.2 (fun y hy => by
      have o := hO y (by simp only [List.flatMap_cons, List.cons_append, List.nil_append, List.mem_cons]; exact Or.inr (Or.inr hy))
      refine ⟨fun z => ?_, o.2⟩
      rcases m1 y z with z | z | z
      · exact o.1 z
      · exact hN.1.2 (z ▸ hy)
      · exact hN.2.1 (z ▸ hy))
    refine ⟨P2, h2, e1.trans e2, fun i r hr => ?_, fun y hy => ?_⟩
    · cases i with
      | zero =>
        obtain rfl : q = r := Option.some.inj hr
        exact e2.at a1
      | succ i =>
        have z := a2 i r hr
        rw [show g + 1 + i = g + (i + 1) by omega] at z
        exact z
    · simp only [List.flatMap_cons, List.cons_append, List.nil_append, List.mem_cons]
      rcases m2 y hy with z | z
      · rcases m1 y z with z | z | z
        · exact Or.inl z
        · exact Or.inr (Or.inl z)
        · exact Or.inr (Or.inr (Or.inl z))
      · exact Or.inr (Or.inr (Or.inr z))
theorem pushBs (g : Nat) : ∀ (bs : List Nat) {P : Pl}, PO D cs A x0 m0 tx tm H P → (∀ q ∈ bs, va_P D vwCl [(q, mkB)] H) → bs.Nodup → (∀ y ∈ bs, y ∉ P.1 ∧ A y ∧ ¬ y = x0 ∧ ¬ y = m0) → ∃ P1, PO D cs A x0 m0 tx tm H P1 ∧ EX P P1 ∧ (∀ q ∈ bs, At P1 q 0 g) ∧ ∀ y, y ∈ P1.1 → y ∈ P.1 ∨ y ∈ bs := by
  intro bs
  induction bs with
  | nil => intro P h _ _ _; exact ⟨P, h, EX.refl, fun q hq => absurd hq List.not_mem_nil, fun y hy => Or.inl hy⟩
  | cons q bs ih =>
    intro P h hE hN hO
    have hN := List.nodup_cons.mp hN
    have o1 := hO q List.mem_cons_self
    obtain ⟨P1, h1, e1, a1, -, -, m1⟩ := push1 (κ := 0) (g := g) (fi := fun _ => 0) (fj := fun _ => 0) (fq := fun _ => none) h (hE q List.mem_cons_self) o1.1 o1.2.1 rfl (okI_z h.2.1.2.2.2.2.1 0) trivial (fun z => absurd z o1.2.2.1) (fun z => absurd z o1.2.2.2)
    obtain ⟨P2, h2, e2, a2, m2⟩ := ih h1 (fun r hr => hE r (List.mem_cons_of_mem _ hr)) hN.2 (fun y hy => by
      have o := hO y (List.mem_cons_of_mem _ hy)
      exact ⟨fun z => (m1 y z).elim o.1 (fun z => hN.1 (z ▸ hy)), o.2⟩)
    refine ⟨P2, h2, e1.trans e2, fun r hr => ?_, fun y hy => ?_⟩
    · rcases List.mem_cons.mp hr with rfl | hr
      · exact e2.at a1
      · exact a2 r hr
    · rcases m2 y hy with z | z
      · rcases m1 y z with z | z
        · exact Or.inl z
        · exact Or.inr (z ▸ List.mem_cons_self)
      · exact Or.inr (List.mem_cons_of_mem _ z)
theorem rl_all {P : Pl} {l : List Nat} {n κ g : Nat} (hl : l.length = n) (h : ∀ y ∈ l, At P y κ g) : ∀ i, i < n → ∃ y, rl l i = some y ∧ y ∈ P.1 ∧ P.2.1 y = κ ∧ P.2.2.1 y = g := by
  intro i hi
  have hi2 : i < l.length := by omega
  exact ⟨l[i], List.getElem?_eq_getElem hi2, h _ (List.getElem_mem hi2)⟩
theorem rl_ix {P : Pl} {ms : List (Nat × Nat)} {n κ g : Nat} (hl : ms.length = n) (h : ∀ i q, ms[i]? = some q → At P q.1 κ (g + i)) : ∀ i, i < n → ∃ y, rl (ms.map Prod.fst) i = some y ∧ y ∈ P.1 ∧ P.2.1 y = κ ∧ P.2.2.1 y = g + i := by
  intro i hi
  have hi2 : i < ms.length := by omega
  exact ⟨ms[i].1, by unfold rl; rw [List.getElem?_map, List.getElem?_eq_getElem hi2]; rfl, h i _ (List.getElem?_eq_getElem hi2)⟩
theorem rl_inj {l : List Nat} {n : Nat} (hl : l.length = n) (h : l.Nodup) : ∀ i j, i < n → j < n → rl l i = rl l j → i = j := by
  intro i j hi hj e
  unfold rl at e
  exact (List.getElem?_inj (by omega) h).mp e
/-- a field: its masks, bodies, arrays -/
theorem pushF {P : Pl} (hPO : PO D cs A x0 m0 tx tm H P) (g : Nat) {q am ab : Nat} {ms : List (Nat × Nat)} {bs : List Nat} (hm8 : ms.length = 8) (hb10 : bs.length = 10)
    (hq : va_P D vwCl [(q, .inr (1, [.ref am, .ref ab, .int 0, .int 0, .int 0]))] H) (hm : va_P D vwCl [(am, .inl (cs 13, 8, .inr (.inr (.inr (.inr (rl (ms.map Prod.fst)))))))] H) (hb : va_P D vwCl [(ab, .inl (cs 14, 10, .inr (.inr (.inr (.inr (rl bs))))))] H)
    (hE : ∀ q ∈ ms, va_P D vwCl [(q.1, mkM q.2)] H ∧ va_P D vwCl [(q.2, mkW cs)] H) (hF : ∀ q ∈ bs, va_P D vwCl [(q, mkB)] H)
    (hN : (ms.flatMap (fun q => [q.1, q.2]) ++ (bs ++ [am, ab, q])).Nodup) (hO : ∀ y ∈ ms.flatMap (fun q => [q.1, q.2]) ++ (bs ++ [am, ab, q]), y ∉ P.1 ∧ A y ∧ ¬ y = x0 ∧ ¬ y = m0) :
    ∃ P1, PO D cs A x0 m0 tx tm H P1 ∧ EX P P1 ∧ At P1 q 1 g ∧ P1.2.2.2.2.1 q = (fun _ => 0) ∧ ∀ y, y ∈ P1.1 → y ∈ P.1 ∨ y ∈ ms.flatMap (fun q => [q.1, q.2]) ++ (bs ++ [am, ab, q]) := by
  have N1 := List.nodup_append.mp hN
  have N2 := List.nodup_append.mp N1.2.1
  obtain ⟨P1, h1, e1, a1, m1⟩ := pushMs ms (100 * g) hPO hE N1.1 (fun y hy => hO y (List.mem_append_left _ hy))
  obtain ⟨P2, h2, e2, a2, m2⟩ := pushBs g bs h1 hF N2.1 (fun y hy => by
    have o := hO y (List.mem_append_right _ (List.mem_append_left _ hy))
    exact ⟨fun z => (m1 y z).elim o.1 (fun z => N1.2.2 y z y (List.mem_append_left _ hy) rfl), o.2⟩)
  have out : ∀ y, y ∈ [am, ab, q] → y ∉ P2.1 := fun y hy z => by
    have o := hO y (List.mem_append_right _ (List.mem_append_right _ hy))
    rcases m2 y z with z | z
    · exact (m1 y z).elim o.1 (fun z => N1.2.2 y z y (List.mem_append_right _ hy) rfl)
    · exact N2.2.2 y z y hy rfl
  have oam := hO am (by simp)
  have oab := hO ab (by simp)
  have oq := hO q (by simp)
  have N3 : ¬ am = ab ∧ ¬ am = q ∧ ¬ ab = q := by
    have := N2.2.1
    simp at this
    exact ⟨this.1.1, this.1.2, this.2⟩
  have fm : ∀ i q, ms[i]? = some q → At P2 q.1 3 (100 * g + i) := fun i q hq => e2.at (a1 i q hq)
  have ndm : (ms.map Prod.fst).Nodup := by
    have aux : ∀ l : List (Nat × Nat), (l.flatMap (fun q => [q.1, q.2])).Nodup → (l.map Prod.fst).Nodup := by
      intro l
      induction l with
      | nil => intro _; exact List.nodup_nil
      | cons r l ih =>
        intro h
        simp only [List.flatMap_cons, List.cons_append, List.nil_append, List.nodup_cons, List.mem_cons, not_or] at h
        refine List.nodup_cons.mpr ⟨fun z => h.1.2 ?_, ih h.2.2⟩
        obtain ⟨t, ht, e⟩ := List.mem_map.mp z
        exact List.mem_flatMap.mpr ⟨t, ht, by rw [← e]; simp⟩
    exact aux ms N1.1
  obtain ⟨P3, h3, e3, a3, -, -, m3⟩ := push1 (κ := 13) (g := g) (fi := fun _ => 0) (fj := fun _ => 0) (fq := rl (ms.map Prod.fst)) h2 hm (out am (by simp)) oam.2.1 rfl (okI_z hPO.2.1.2.2.2.2.1 13) ⟨rl_ix hm8 fm, rl_inj (by simp [hm8]) ndm⟩ (fun z => absurd z oam.2.2.1) (fun z => absurd z oam.2.2.2)
  obtain ⟨P4, h4, e4, a4, -, -, m4⟩ := push1 (κ := 14) (g := g) (fi := fun _ => 0) (fj := fun _ => 0) (fq := rl bs) h3 hb (fun z => (m3 ab z).elim (out ab (by simp)) (fun z => N3.1 z.symm)) oab.2.1 rfl (okI_z hPO.2.1.2.2.2.2.1 14) ⟨rl_all hb10 (fun y hy => e3.at (a2 y hy)), rl_inj hb10 N2.1⟩ (fun z => absurd z oab.2.2.1) (fun z => absurd z oab.2.2.2)
  have a3' := e4.at a3
  obtain ⟨P5, h5, e5, a5, -, c5, m5⟩ := push1 (κ := 1) (g := g) (fi := fun _ => 0) (fj := fun _ => 0) (fq := fun k => if k = 0 then some am else if k = 1 then some ab else none) h4 hq (fun z => (m4 q z).elim (fun z => (m3 q z).elim (out q (by simp)) (fun z => N3.2.1 z.symm)) (fun z => N3.2.2 z.symm)) oq.2.1 rfl (okI_z hPO.2.1.2.2.2.2.1 1) ⟨⟨am, rfl, a3'.1, a3'.2.1, a3'.2.2⟩, ⟨ab, rfl, a4.1, a4.2.1, a4.2.2⟩⟩ (fun z => absurd z oq.2.2.1) (fun z => absurd z oq.2.2.2)
  refine ⟨P5, h5, (((e1.trans e2).trans e3).trans e4).trans e5, a5, c5, fun y hy => ?_⟩
  rcases m5 y hy with z | z
  · rcases m4 y z with z | z
    · rcases m3 y z with z | z
      · rcases m2 y z with z | z
        · rcases m1 y z with z | z
          · exact Or.inl z
          · exact Or.inr (List.mem_append_left _ z)
        · exact Or.inr (List.mem_append_right _ (List.mem_append_left _ z))
      · exact Or.inr (List.mem_append_right _ (List.mem_append_right _ (by simp [z])))
    · exact Or.inr (List.mem_append_right _ (List.mem_append_right _ (by simp [z])))
  · exact Or.inr (List.mem_append_right _ (List.mem_append_right _ (by simp [z])))
end PU
/-! methods that make objects: the pool grows -/
/-- no tag of a field of the past, nor of its masks -/
abbrev nP (g : Nat) : Prop := ¬ (20 ≤ g ∧ g < 30) ∧ ¬ (2000 ≤ g ∧ g < 3000)
def extW (L : List Nat) (K G : Nat → Nat) (Q : Nat → Nat → Option Nat) (L1 : List Nat) (K1 G1 : Nat → Nat) (Q1 : Nat → Nat → Option Nat) : Prop := ∀ y, y ∈ L → y ∈ L1 ∧ K1 y = K y ∧ G1 y = G y ∧ (¬ K y = 16 → ¬ K y = 17 → Q1 y = Q y)
theorem extW_refl {L : List Nat} {K G : Nat → Nat} {Q : Nat → Nat → Option Nat} : extW L K G Q L K G Q := fun _ h => ⟨h, rfl, rfl, fun _ _ => rfl⟩
theorem extW_trans {L L1 L2 : List Nat} {K K1 K2 G G1 G2 : Nat → Nat} {Q Q1 Q2 : Nat → Nat → Option Nat} (h : extW L K G Q L1 K1 G1 Q1) (h2 : extW L1 K1 G1 Q1 L2 K2 G2 Q2) : extW L K G Q L2 K2 G2 Q2 := fun y hy => by
  obtain ⟨a1, a2, a3, a4⟩ := h y hy
  obtain ⟨b1, b2, b3, b4⟩ := h2 y a1
  exact ⟨b1, b2.trans a2, b3.trans a3, fun n1 n2 => (b4 (by rw [a2]; exact n1) (by rw [a2]; exact n2)).trans (a4 n1 n2)⟩
theorem extW_ast {L0 L : List Nat} {K0 K G0 G : Nat → Nat} {Q0 Q : Nat → Nat → Option Nat} {a : Nat} {f : Nat → Option Nat} (h : extW L0 K0 G0 Q0 L K G Q) (ha : K a = 16 ∨ K a = 17) : extW L0 K0 G0 Q0 L K G (va_up Q a f) := fun y hy => by
  obtain ⟨a1, a2, a3, a4⟩ := h y hy
  refine ⟨a1, a2, a3, fun n1 n2 => ?_⟩
  rw [va_up_ne _ _ (fun z => by rw [z] at a2; rw [a2] at ha; exact ha.elim (fun q => n1 (z ▸ q)) (fun q => n2 (z ▸ q)))]
  exact a4 n1 n2
theorem Sv_ast {L : List Nat} {K G : Nat → Nat} {Q : Nat → Nat → Option Nat} (h : Sv L K G Q) {a : Nat} {f : Nat → Option Nat} (ha : okQ L K G (K a) (G a) f) : Sv L K G (va_up Q a f) := by
  intro b hb
  by_cases q : b = a
  · rw [q, va_up_self]; exact ha
  · rw [va_up_ne _ _ q]; exact h b hb
theorem Sv_ast16 {L : List Nat} {K G : Nat → Nat} {Q : Nat → Nat → Option Nat} (h : Sv L K G Q) {a v i : Nat} (hL : a ∈ L) (hK : K a = 16) (hv : v ∈ L) (hKv : K v = 1) (hGv : G v = 20 + i) : Sv L K G (va_up Q a (va_up (Q a) i (some v))) := by
  refine Sv_ast h ?_
  rw [hK]
  intro j hj
  by_cases q : j = i
  · rw [q, va_up_self]; exact Or.inr ⟨v, rfl, hv, hKv, hGv⟩
  · rw [va_up_ne _ _ q]; exact (Sv_at h hL hK) j hj
theorem Sv_ast17 {L : List Nat} {K G : Nat → Nat} {Q : Nat → Nat → Option Nat} (h : Sv L K G Q) {a v i : Nat} (hL : a ∈ L) (hK : K a = 17) (hv : v ∈ L) (hKv : K v = 1) (hGv : G v = 6 + i) : Sv L K G (va_up Q a (va_up (Q a) i (some v))) := by
  refine Sv_ast h ?_
  rw [hK]
  intro j hj
  by_cases q : j = i
  · rw [q, va_up_self]; exact Or.inr ⟨v, rfl, hv, hKv, hGv⟩
  · rw [va_up_ne _ _ q]; exact (Sv_at h hL hK) j hj
def sA (D : va_G) (cs : Nat → ClassId) (L : List Nat) (K G : Nat → Nat) (Q : Nat → Nat → Option Nat) (x0 m0 : Nat) (tx : GT) (tm : GT × Int) (sz : Nat) (Z : List Nat → (Nat → Nat) → (Nat → Nat) → (Nat → Nat → Option Nat) → (Nat → Nat → Int32) → (Nat → Nat → Int64) → Prop) (t : State) : Prop := ∃ (L1 : List Nat) (K1 G1 : Nat → Nat) (Q1 : Nat → Nat → Option Nat) (I1 : Nat → Nat → Int32) (J1 : Nat → Nat → Int64), extW L K G Q L1 K1 G1 Q1 ∧ Sv L1 K1 G1 Q1 ∧ Iv L1 K1 x0 m0 tx tm I1 ∧ (∀ F, va_D (fun _ => True) (va_pl L1 F)) ∧ (∀ q, q ∈ L1 → q ∈ L ∨ sz ≤ q) ∧ va_P D vwCl (Wd cs L1 K1 I1 J1 Q1) t.heap ∧ Z L1 K1 G1 Q1 I1 J1
theorem P_last {D : va_G} {cl : List vw_C} {w : va_W} {x : Nat × va_E} {H : Heap} (h : va_P D cl (w ++ [x]) H) : va_P D cl [x] H := by
  refine h.by (fun _ => w.length) (fun k q hk => ?_)
  have z : k < 1 := (List.getElem?_eq_some_iff.mp hk).1
  rw [show k = 0 by omega] at hk
  rw [List.getElem?_append_right (Nat.le_refl _), Nat.sub_self]
  exact hk
theorem D_last {A : Nat → Prop} {w : va_W} {x : Nat × va_E} (h : va_D A (w ++ [x])) : va_D A [x] := by
  refine h.by (fun _ => w.length) (fun k q hk => ?_) (fun i j hi hj _ => ?_)
  · have z : k < 1 := (List.getElem?_eq_some_iff.mp hk).1
    rw [show k = 0 by omega] at hk
    rw [List.getElem?_append_right (Nat.le_refl _), Nat.sub_self]
    exact hk
  · simp at hi hj; omega
theorem nd_of {A : Nat → Prop} {ws : va_W} (h : va_D A ws) : (ws.map Prod.fst).Nodup := by
  refine List.pairwise_iff_getElem.mpr (fun i j hi hj hij e => ?_)
  simp only [List.length_map] at hi hj
  rw [List.getElem_map, List.getElem_map] at e
  have := h.1 i j ws[i] ws[j] (List.getElem?_eq_getElem hi) (List.getElem?_eq_getElem hj) e
  omega
theorem K_uniq {D : va_G} {cl : List vw_C} {t1 t2 : List (ClassId × FieldType)} {s : State} (h1 : va_K D cl t1 s) (h2 : va_K D cl t2 s) {i j : Nat} {c1 c2 : ClassId} {ty : FieldType} (e1 : t1[i]? = some (c1, ty)) (e2 : t2[j]? = some (c2, ty)) : c2 = c1 := by
  have a := (h1.2 i _ e1).2
  have b := (h2.2 j _ e2).2
  cases ty with
  | object C =>
    obtain ⟨_, _, _, _, _, a4⟩ := a
    obtain ⟨_, _, _, _, _, b4⟩ := b
    exact Option.some.inj (b4.symm.trans a4)
  | _ => exact Option.some.inj ((show s.vm.findClass _ = some c2 from b).symm.trans (show s.vm.findClass _ = some c1 from a))
/-! what is known of bodies, over a method that makes objects -/
theorem glOK_al {B : Int} {L L1 : List Nat} {K G K1 G1 : Nat → Nat} {Q Q1 : Nat → Nat → Option Nat} {I I1 : Nat → Nat → Int32} {ys : Nat} {b : Int32} (hQ : Sv L K G Q) (hE : extW L K G Q L1 K1 G1 Q1) (hz : ∀ b, b ∈ L → nP (G b) → ¬ K b = 6 → I1 b = I b) (hL : ys ∈ L) (hK : K ys = 5) (hG : G ys = 1) (hb : 0 ≤ b.toInt ∧ b.toInt ≤ 9) (h : glOK B Q I ys b) : glOK B Q1 I1 ys b := by
  intro yf yB y e1 e2 e3
  rw [(hE ys hL).2.2.2 (by rw [hK]; decide) (by rw [hK]; decide)] at e1
  obtain ⟨yf', f1, l1, k1, g1⟩ := oQ_5_0 (Sv_at hQ hL hK)
  obtain rfl : yf = yf' := Option.some.inj (e1.symm.trans f1)
  rw [(hE yf l1).2.2.2 (by rw [k1]; decide) (by rw [k1]; decide)] at e2
  obtain ⟨yB', f2, l2, k2, g2⟩ := oQ_1_1 (Sv_at hQ l1 k1)
  obtain rfl : yB = yB' := Option.some.inj (e2.symm.trans f2)
  rw [(hE yB l2).2.2.2 (by rw [k2]; decide) (by rw [k2]; decide)] at e3
  obtain ⟨y', f3, l3, k3, g3⟩ := (Sv_at hQ l2 k2).1 b.toNatClampNeg (by show b.toInt.toNat < 10; omega)
  obtain rfl : y = y' := Option.some.inj (e3.symm.trans f3)
  have hr := h yf yB y e1 e2 e3
  unfold bnd at hr ⊢
  rw [hz y l3 (by rw [g3, g2, g1]; decide) (by rw [k3]; decide), hz ys hL (by rw [hG]; decide) (by rw [hK]; decide)]
  exact hr
theorem goAll_al {B : Int} {L L1 : List Nat} {K G K1 G1 : Nat → Nat} {Q Q1 : Nat → Nat → Option Nat} {I I1 : Nat → Nat → Int32} {x0 m0 : Nat} {tx : GT} {tm : GT × Int} {ys : Nat} {g dx dy : Int32} (hQ : Sv L K G Q) (hI : Iv L K x0 m0 tx tm I) (hE : extW L K G Q L1 K1 G1 Q1) (hz : ∀ b, b ∈ L → nP (G b) → ¬ K b = 6 → I1 b = I b) (hL : ys ∈ L) (hK : K ys = 5) (hG : G ys = 1) (h : goAll B Q I ys g dx dy) : goAll B Q1 I1 ys g dx dy := by
  intro yf e1 yf2 yB y i e1' e2 a3 a4 e3 a6
  obtain rfl : yf = yf2 := Option.some.inj (e1.symm.trans e1')
  rw [(hE ys hL).2.2.2 (by rw [hK]; decide) (by rw [hK]; decide)] at e1
  obtain ⟨yf', f1, l1, k1, g1⟩ := oQ_5_0 (Sv_at hQ hL hK)
  obtain rfl : yf = yf' := Option.some.inj (e1.symm.trans f1)
  rw [(hE yf l1).2.2.2 (by rw [k1]; decide) (by rw [k1]; decide)] at e2
  obtain ⟨yB', f2, l2, k2, g2⟩ := oQ_1_1 (Sv_at hQ l1 k1)
  obtain rfl : yB = yB' := Option.some.inj (e2.symm.trans f2)
  rw [(hE yB l2).2.2.2 (by rw [k2]; decide) (by rw [k2]; decide)] at e3
  rw [hz yf l1 (by rw [g1]; decide) (by rw [k1]; decide)] at a4
  have hn := oI_1_3 (Iv_at hI l1 k1)
  obtain ⟨y', f3, l3, k3, g3⟩ := (Sv_at hQ l2 k2).1 i.toNatClampNeg (by show i.toInt.toNat < 10; omega)
  obtain rfl : y = y' := Option.some.inj (e3.symm.trans f3)
  have hr := h yf e1 yf yB y i e1 e2 a3 a4 e3 a6
  unfold bnd at hr ⊢
  rw [hz y l3 (by rw [g3, g2, g1]; decide) (by rw [k3]; decide)]
  exact hr
/-- the bodies of the field now lie within c -/
def crB (Q : Nat → Nat → Option Nat) (I : Nat → Nat → Int32) (p0 : Nat) (c : Int) : Prop := ∀ yf yB y (i : Nat), Q p0 2 = some yf → Q yf 1 = some yB → i < 10 → Q yB i = some y → (-c ≤ (I y 1).toInt ∧ (I y 1).toInt ≤ c) ∧ (-c ≤ (I y 2).toInt ∧ (I y 2).toInt ≤ c)
theorem crB_fr {L : List Nat} {K G : Nat → Nat} {Q : Nat → Nat → Option Nat} {I I1 : Nat → Nat → Int32} {p0 : Nat} {c : Int} (hQ : Sv L K G Q) (hL : p0 ∈ L) (hK : K p0 = 6) (hz : ∀ b, K b = 0 → I1 b = I b) (h : crB Q I p0 c) : crB Q I1 p0 c := by
  intro yf yB y i e1 e2 hi e3
  obtain ⟨yf', f1, l1, k1, g1⟩ := oQ_6_2 (Sv_at hQ hL hK)
  obtain rfl : yf = yf' := Option.some.inj (e1.symm.trans f1)
  obtain ⟨yB', f2, l2, k2, g2⟩ := oQ_1_1 (Sv_at hQ l1 k1)
  obtain rfl : yB = yB' := Option.some.inj (e2.symm.trans f2)
  obtain ⟨y', f3, l3, k3, g3⟩ := (Sv_at hQ l2 k2).1 i hi
  obtain rfl : y = y' := Option.some.inj (e3.symm.trans f3)
  rw [hz y k3]
  exact h yf yB y i e1 e2 hi e3
theorem crB_al {L L1 : List Nat} {K G K1 G1 : Nat → Nat} {Q Q1 : Nat → Nat → Option Nat} {I I1 : Nat → Nat → Int32} {p0 : Nat} {c : Int} (hQ : Sv L K G Q) (hE : extW L K G Q L1 K1 G1 Q1) (hz : ∀ b, b ∈ L → nP (G b) → ¬ K b = 6 → I1 b = I b) (hL : p0 ∈ L) (hK : K p0 = 6) (h : crB Q I p0 c) : crB Q1 I1 p0 c := by
  intro yf yB y i e1 e2 hi e3
  rw [(hE p0 hL).2.2.2 (by rw [hK]; decide) (by rw [hK]; decide)] at e1
  obtain ⟨yf', f1, l1, k1, g1⟩ := oQ_6_2 (Sv_at hQ hL hK)
  obtain rfl : yf = yf' := Option.some.inj (e1.symm.trans f1)
  rw [(hE yf l1).2.2.2 (by rw [k1]; decide) (by rw [k1]; decide)] at e2
  obtain ⟨yB', f2, l2, k2, g2⟩ := oQ_1_1 (Sv_at hQ l1 k1)
  obtain rfl : yB = yB' := Option.some.inj (e2.symm.trans f2)
  rw [(hE yB l2).2.2.2 (by rw [k2]; decide) (by rw [k2]; decide)] at e3
  obtain ⟨y', f3, l3, k3, g3⟩ := (Sv_at hQ l2 k2).1 i hi
  obtain rfl : y = y' := Option.some.inj (e3.symm.trans f3)
  rw [hz y l3 (by rw [g3, g2, g1]; decide) (by rw [k3]; decide)]
  exact h yf yB y i e1 e2 hi e3
theorem crB_init {L : List Nat} {K G : Nat → Nat} {Q : Nat → Nat → Option Nat} {I : Nat → Nat → Int32} {x0 m0 : Nat} {tx : GT} {tm : GT × Int} {p0 : Nat} (hQ : Sv L K G Q) (hI : Iv L K x0 m0 tx tm I) (hL : p0 ∈ L) (hK : K p0 = 6) : crB Q I p0 tm.2 := by
  intro yf yB y i e1 e2 hi e3
  obtain ⟨yf', f1, l1, k1, g1⟩ := oQ_6_2 (Sv_at hQ hL hK)
  obtain rfl : yf = yf' := Option.some.inj (e1.symm.trans f1)
  obtain ⟨yB', f2, l2, k2, g2⟩ := oQ_1_1 (Sv_at hQ l1 k1)
  obtain rfl : yB = yB' := Option.some.inj (e2.symm.trans f2)
  obtain ⟨y', f3, l3, k3, g3⟩ := (Sv_at hQ l2 k2).1 i hi
  obtain rfl : y = y' := Option.some.inj (e3.symm.trans f3)
  exact ⟨oI_0_1 (Iv_at hI l3 k3), oI_0_2 (Iv_at hI l3 k3)⟩
theorem crB_mono {Q : Nat → Nat → Option Nat} {I : Nat → Nat → Int32} {p0 : Nat} {c d : Int} (h : crB Q I p0 c) (hc : c ≤ d) : crB Q I p0 d := by
  intro yf yB z i e1 e2 hi e3
  have hr := h yf yB z i e1 e2 hi e3
  omega
theorem crB_step {Q : Nat → Nat → Option Nat} {I I1 : Nat → Nat → Int32} {p0 y : Nat} {c d : Int} (h : crB Q I p0 c) (hc : c ≤ d) (hz : ∀ b, ¬ b = y → I1 b = I b) (h1 : -d ≤ (I1 y 1).toInt ∧ (I1 y 1).toInt ≤ d) (h2 : -d ≤ (I1 y 2).toInt ∧ (I1 y 2).toInt ≤ d) : crB Q I1 p0 d := by
  intro yf yB z i e1 e2 hi e3
  by_cases q : z = y
  · rw [q]; exact ⟨h1, h2⟩
  · have hr := h yf yB z i e1 e2 hi e3
    rw [hz z q]
    omega
section AL
variable {p : Program} {l : Launch} {e : Env} {R : Room} {s : State} {m : MethodId} {args : Array Value} {below : List Frame} {meth : Method} {c : Code} {H : Heap} {locs : List Loc} {cells slots : Nat} {Qq : State → Prop}
variable {pc : Nat} {ls : Array Slot} {rest st0 : List Value} {a : Array Value} {A0 : Nat → Prop} {H0 : Heap} {D : va_G} {cs : Nat → ClassId} {L : List Nat} {K G : Nat → Nat} {Q : Nat → Nat → Option Nat} {x0 m0 : Nat} {tx : GT} {tm : GT × Int} {Z : List Nat → (Nat → Nat) → (Nat → Nat) → (Nat → Nat → Option Nat) → (Nat → Nat → Int32) → (Nat → Nat → Int64) → Prop}
theorem sa_i {mc ms : Nat} {post : Int32 → Unit → Prop} (hr : va_Run p l e R s m args below meth c H locs cells slots mc ms (F0 m pc ls st0) rest (va_Qi post (fun _ t => sA D cs L K G Q x0 m0 tx tm H.size Z t) (fun q => q ∈ L ∨ H.size ≤ q) a) (fun q => q ∈ L ∨ H.size ≤ q)) (hS : va_S A0 H0 H locs) (hAL : ∀ q, q ∈ L → A0 q) (hA : ∀ q, H0.size ≤ q → A0 q)
    (kk : ∀ (r : Int32) (L1 : List Nat) (K1 G1 : Nat → Nat) (Q1 : Nat → Nat → Option Nat) (I1 : Nat → Nat → Int32) (J1 : Nat → Nat → Int64) (H1 : Heap) (locs1 : List Loc), post r () → extW L K G Q L1 K1 G1 Q1 → Sv L1 K1 G1 Q1 → Iv L1 K1 x0 m0 tx tm I1 → (∀ F, va_D A0 (va_pl L1 F)) → (∀ q, q ∈ L1 → A0 q) → va_P D vwCl (Wd cs L1 K1 I1 J1 Q1) H1 → Z L1 K1 G1 Q1 I1 J1 → va_S A0 H0 H1 locs1 → W p l e R s m args below meth c H1 locs1 (cells + mc) (slots + ms) Qq (F0 m (pc + 3) ls (.int r :: rest))) : W p l e R s m args below meth c H locs cells slots Qq (F0 m pc ls st0) :=
  va_calli hr hS (fun q _ h => h.elim (hAL q) (fun h => hA q (Nat.le_trans hS.1 h))) (fun q h => h.elim (hAL q) (fun h => hA q (Nat.le_trans hS.1 h))) (fun r u t H1 locs1 ht hvm hw hB hz1 hk1 hS1 => by
    obtain ⟨L1, K1, G1, Q1, I1, J1, b1, b2, b3, b4, b5, b6, b7⟩ := hB
    rw [ht] at b6
    have b8 : ∀ q, q ∈ L1 → A0 q := fun q h => (b5 q h).elim (hAL q) (fun h => hA q (Nat.le_trans hS.1 h))
    exact kk r L1 K1 G1 Q1 I1 J1 H1 locs1 hw b1 b2 b3 (fun F => (b4 F).weaken (fun k q hk _ => b8 _ (pl_mem hk))) b8 b6 b7 hS1)
theorem sa_v {mc ms : Nat} {post : Unit → Prop} (hr : va_Run p l e R s m args below meth c H locs cells slots mc ms (F0 m pc ls st0) rest (va_Qv post (fun _ t => sA D cs L K G Q x0 m0 tx tm H.size Z t) (fun q => q ∈ L ∨ H.size ≤ q) a) (fun q => q ∈ L ∨ H.size ≤ q)) (hS : va_S A0 H0 H locs) (hAL : ∀ q, q ∈ L → A0 q) (hA : ∀ q, H0.size ≤ q → A0 q)
    (kk : ∀ (L1 : List Nat) (K1 G1 : Nat → Nat) (Q1 : Nat → Nat → Option Nat) (I1 : Nat → Nat → Int32) (J1 : Nat → Nat → Int64) (H1 : Heap) (locs1 : List Loc), post () → extW L K G Q L1 K1 G1 Q1 → Sv L1 K1 G1 Q1 → Iv L1 K1 x0 m0 tx tm I1 → (∀ F, va_D A0 (va_pl L1 F)) → (∀ q, q ∈ L1 → A0 q) → va_P D vwCl (Wd cs L1 K1 I1 J1 Q1) H1 → Z L1 K1 G1 Q1 I1 J1 → va_S A0 H0 H1 locs1 → W p l e R s m args below meth c H1 locs1 (cells + mc) (slots + ms) Qq (F0 m (pc + 3) ls rest)) : W p l e R s m args below meth c H locs cells slots Qq (F0 m pc ls st0) :=
  va_callv hr hS (fun q _ h => h.elim (hAL q) (fun h => hA q (Nat.le_trans hS.1 h))) (fun q h => h.elim (hAL q) (fun h => hA q (Nat.le_trans hS.1 h))) (fun u t H1 locs1 ht hvm hw hB hz1 hk1 hS1 => by
    obtain ⟨L1, K1, G1, Q1, I1, J1, b1, b2, b3, b4, b5, b6, b7⟩ := hB
    rw [ht] at b6
    have b8 : ∀ q, q ∈ L1 → A0 q := fun q h => (b5 q h).elim (hAL q) (fun h => hA q (Nat.le_trans hS.1 h))
    exact kk L1 K1 G1 Q1 I1 J1 H1 locs1 hw b1 b2 b3 (fun F => (b4 F).weaken (fun k q hk _ => b8 _ (pl_mem hk))) b8 b6 b7 hS1)
theorem p_aast {cc : ByteArray} {I : Nat → Nat → Int32} {J : Nat → Nat → Int64} {v a : Nat} (hexec : p.tables.exec = Jvm.exec) (hb : c.code = cc) {tys : List (ClassId × FieldType)} (hK : va_K D vwCl tys s) (hP : va_P D vwCl (Wd cs L K I J Q) H) (hD : ∀ F, va_D A0 (va_pl L F)) (hS : va_S A0 H0 H locs) (t0 : Nat) {κ κv n ci : Nat} {cA : ClassId} {r : vw_C} {vs : List Value} (ha : a ∈ L) (hκ : K a = κ) (hfs : ent cs κ (I a) (J a) (Q a) = .inl (cA, n, .inr (.inr (.inr (.inr (Q a)))))) (hset : ∀ f, Sum.inl (cA, n, .inr (.inr (.inr (.inr f)))) = ent cs κ (I a) (J a) f) (ht : tys[t0]? = some (cA, .object r.1)) (hv : v ∈ L) (hKv : K v = κv) (hfv : ent cs κv (I v) (J v) (Q v) = .inr (ci, vs)) (hc : vwCl[ci]? = some r) {i : Int32} (hin : vp_in i n) (hdg : decode cc pc = .ok (.aastore, 1))
    (kk : ∀ (H1 : Heap) (locs1 : List Loc), va_P D vwCl (Wd cs L K I J (va_up Q a (va_up (Q a) i.toNatClampNeg (some v)))) H1 → va_S A0 H0 H1 locs1 → W p l e R s m args below meth c H1 locs1 cells slots Qq (F0 m (pc + 1) ls rest)) : W p l e R s m args below meth c H locs cells slots Qq (F0 m pc ls (.ref v :: .int i :: .ref a :: rest)) := by
  obtain ⟨q, hq⟩ := Wd_at ha hκ hfs
  obtain ⟨qv, hqv⟩ := Wd_at hv hKv hfv
  refine va_astq hexec hb hK hP (hD _) hS q t0 qv ci hq ht hqv hc hin hdg (fun H1 locs1 hP1 _ hS1 => kk H1 locs1 ?_ hS1)
  rw [Wd_set (I2 := I) (J2 := J) (Q2 := va_up Q a (va_up (Q a) i.toNatClampNeg (some v))) hD ha hκ hfs hq (by rw [va_up_self]; exact hset _) (fun _ _ => rfl) (fun _ _ => rfl) (fun b hb => va_up_ne _ _ hb)] at hP1
  exact hP1
end AL
