
def csF (kB kI kJ k3 k0 k1 kZ : ClassId) : Nat → ClassId := fun κ => match κ with
  | 10 => kB | 11 => kI | 12 => kJ | 13 => k3 | 14 => k0 | 15 => k3 | 16 => k1 | 17 => k1 | 18 => kI | 19 => kI | 20 => kI | 21 => kJ | 22 => kJ | 23 => kJ | 24 => kZ | 25 => kJ | 26 => kI | 27 => kI | 28 => kI | 29 => kI | 30 => kI | 31 => kB | 32 => kJ | 33 => kJ | 34 => kJ | _ => kI
section STP
variable {D : va_G} {cs : Nat → ClassId} {A : Nat → Prop} {x0 m0 : Nat} {tx : GT} {tm : GT × Int} {H : Heap}
theorem st1 {P : Pl} {rest : List Nat} (hPO : PO D cs A x0 m0 tx tm H P) {a κ g : Nat} {fi : Nat → Int32} {fj : Nat → Int64} {fq : Nat → Option Nat} {e : va_E} (O : ∀ y ∈ a :: rest, y ∉ P.1 ∧ A y) (N : (a :: rest).Nodup) (hE : va_P D vwCl [(a, e)] H) (he : e = ent cs κ fi fj fq) (hi : okI tm.2 κ fi) (hq : okQ P.1 P.2.1 P.2.2.1 κ g fq) (hx : a = x0 → κ = 6 ∧ fi 1 = tx.1) (hm : a = m0 → κ = 7 ∧ fi 13 = tm.1.1) (h10 : κ = 10 → a = tx.2.1 ∧ fi = tx.2.2 ∧ ∀ k, -128 ≤ (tx.2.2 k).toInt ∧ (tx.2.2 k).toInt ≤ 127 := by intro h; exact absurd h (by decide)) (h31 : κ = 31 → a = tm.1.2.1 ∧ fi = tm.1.2.2 ∧ ∀ k, -128 ≤ (tm.1.2.2 k).toInt ∧ (tm.1.2.2 k).toInt ≤ 127 := by intro h; exact absurd h (by decide)) : ∃ P1, PO D cs A x0 m0 tx tm H P1 ∧ EX P P1 ∧ At P1 a κ g ∧ (∀ y ∈ rest, y ∉ P1.1 ∧ A y) ∧ rest.Nodup ∧ Ct P1 a fq fi := by
  have N2 := List.nodup_cons.mp N
  obtain ⟨P1, h1, e1, a1, cq, ci, m1⟩ := push1 (g := g) (fj := fj) hPO hE (O a List.mem_cons_self).1 (O a List.mem_cons_self).2 he hi hq hx hm h10 h31
  refine ⟨P1, h1, e1, a1, fun y hy => ⟨fun z => ?_, (O y (List.mem_cons_of_mem _ hy)).2⟩, N2.2, cq, ci⟩
  rcases m1 y z with w | w
  · exact (O y (List.mem_cons_of_mem _ hy)).1 w
  · exact N2.1 (w ▸ hy)
theorem st1n {P : Pl} {rest : List Nat} (hPO : PO D cs A x0 m0 tx tm H P) {a κ g : Nat} {fi : Nat → Int32} {fj : Nat → Int64} {fq : Nat → Option Nat} {e : va_E} (O : ∀ y ∈ a :: rest, y ∉ P.1 ∧ A y) (N : (a :: rest).Nodup) (hxr : x0 ∈ rest) (hmr : m0 ∈ rest) (hE : va_P D vwCl [(a, e)] H) (he : e = ent cs κ fi fj fq) (hi : okI tm.2 κ fi) (hq : okQ P.1 P.2.1 P.2.2.1 κ g fq) (h10 : κ = 10 → a = tx.2.1 ∧ fi = tx.2.2 ∧ ∀ k, -128 ≤ (tx.2.2 k).toInt ∧ (tx.2.2 k).toInt ≤ 127 := by intro h; exact absurd h (by decide)) (h31 : κ = 31 → a = tm.1.2.1 ∧ fi = tm.1.2.2 ∧ ∀ k, -128 ≤ (tm.1.2.2 k).toInt ∧ (tm.1.2.2 k).toInt ≤ 127 := by intro h; exact absurd h (by decide)) : ∃ P1, PO D cs A x0 m0 tx tm H P1 ∧ EX P P1 ∧ At P1 a κ g ∧ (∀ y ∈ rest, y ∉ P1.1 ∧ A y) ∧ rest.Nodup ∧ Ct P1 a fq fi := by
  have N2 := List.nodup_cons.mp N
  exact st1 hPO O N hE he hi hq (fun z => absurd (z ▸ hxr) N2.1) (fun z => absurd (z ▸ hmr) N2.1) h10 h31
theorem stMs {P : Pl} {rest : List Nat} (hPO : PO D cs A x0 m0 tx tm H P) (g : Nat) (ms : List (Nat × Nat)) (O : ∀ y ∈ ms.flatMap (fun q => [q.1, q.2]) ++ rest, y ∉ P.1 ∧ A y) (N : (ms.flatMap (fun q => [q.1, q.2]) ++ rest).Nodup) (hxr : x0 ∈ rest) (hmr : m0 ∈ rest) (hE : ∀ q ∈ ms, va_P D vwCl [(q.1, mkM q.2)] H ∧ va_P D vwCl [(q.2, mkW cs)] H) : ∃ P1, PO D cs A x0 m0 tx tm H P1 ∧ EX P P1 ∧ (∀ i q, ms[i]? = some q → At P1 q.1 3 (g + i)) ∧ (∀ y ∈ rest, y ∉ P1.1 ∧ A y) ∧ rest.Nodup := by
  have N2 := List.nodup_append.mp N
  obtain ⟨P1, h1, e1, a1, m1⟩ := pushMs ms g hPO hE N2.1 (fun y hy => ⟨(O y (List.mem_append_left _ hy)).1, (O y (List.mem_append_left _ hy)).2, fun z => N2.2.2 y hy x0 hxr z, fun z => N2.2.2 y hy m0 hmr z⟩)
  refine ⟨P1, h1, e1, a1, fun y hy => ⟨fun z => ?_, (O y (List.mem_append_right _ hy)).2⟩, N2.2.1⟩
  rcases m1 y z with w | w
  · exact (O y (List.mem_append_right _ hy)).1 w
  · exact N2.2.2 y w y hy rfl
theorem stFd {P : Pl} {rest : List Nat} (hPO : PO D cs A x0 m0 tx tm H P) (g : Nat) {q am ab : Nat} {ms : List (Nat × Nat)} {bs : List Nat} (hm8 : ms.length = 8) (hb10 : bs.length = 10) (O : ∀ y ∈ (ms.flatMap (fun q => [q.1, q.2]) ++ (bs ++ [am, ab, q])) ++ rest, y ∉ P.1 ∧ A y) (N : ((ms.flatMap (fun q => [q.1, q.2]) ++ (bs ++ [am, ab, q])) ++ rest).Nodup) (hxr : x0 ∈ rest) (hmr : m0 ∈ rest)
    (hq : va_P D vwCl [(q, .inr (1, [.ref am, .ref ab, .int 0, .int 0, .int 0]))] H) (hm : va_P D vwCl [(am, .inl (cs 13, 8, .inr (.inr (.inr (.inr (rl (ms.map Prod.fst)))))))] H) (hb : va_P D vwCl [(ab, .inl (cs 14, 10, .inr (.inr (.inr (.inr (rl bs))))))] H)
    (hE : ∀ q ∈ ms, va_P D vwCl [(q.1, mkM q.2)] H ∧ va_P D vwCl [(q.2, mkW cs)] H) (hF : ∀ q ∈ bs, va_P D vwCl [(q, mkB)] H) : ∃ P1, PO D cs A x0 m0 tx tm H P1 ∧ EX P P1 ∧ At P1 q 1 g ∧ (∀ y ∈ rest, y ∉ P1.1 ∧ A y) ∧ rest.Nodup ∧ P1.2.2.2.2.1 q = (fun _ => 0) := by
  have N2 := List.nodup_append.mp N
  obtain ⟨P1, h1, e1, a1, cf, m1⟩ := pushF hPO g hm8 hb10 hq hm hb hE hF N2.1 (fun y hy => ⟨(O y (List.mem_append_left _ hy)).1, (O y (List.mem_append_left _ hy)).2, fun z => N2.2.2 y hy x0 hxr z, fun z => N2.2.2 y hy m0 hmr z⟩)
  refine ⟨P1, h1, e1, a1, fun y hy => ⟨fun z => ?_, (O y (List.mem_append_right _ hy)).2⟩, N2.2.1, cf⟩
  rcases m1 y z with w | w
  · exact (O y (List.mem_append_right _ hy)).1 w
  · exact N2.2.2 y w y hy rfl
theorem PO_0 {aX aM : Nat} (hne : ¬ m0 = x0) : PO D cs A x0 m0 (0, aX, fun _ => 0) ((0, aM, fun _ => 0), 999) H ([], fun a => if a = x0 then 6 else 7, fun _ => 0, fun _ _ => none, fun _ _ => 0, fun _ _ => 0) := ⟨fun a h => absurd h List.not_mem_nil, ⟨fun a h => absurd h List.not_mem_nil, ⟨if_pos rfl, if_neg hne⟩, rfl, rfl, ⟨by show (999 : Int) ≤ 999; decide, by show (999 : Int) ≤ 6000000; decide⟩, fun a h => absurd h List.not_mem_nil, fun a h => absurd h List.not_mem_nil⟩, va_P0, fun F => va_D0⟩
end STP

theorem last2 {l : List Nat} {x m : Nat} (h : (l ++ [x, m]).Nodup) : ¬ m = x := by
  have h2 := (List.nodup_append.mp h).2.1
  intro q
  rw [q] at h2
  simp at h2
theorem fst_nd : ∀ l : List (Nat × Nat), (l.flatMap (fun q => [q.1, q.2])).Nodup → (l.map Prod.fst).Nodup := by
  intro l
  induction l with
  | nil => intro _; exact List.nodup_nil
  | cons r l ih =>
    intro h
    simp only [List.flatMap_cons, List.cons_append, List.nil_append, List.nodup_cons, List.mem_cons, not_or] at h
    refine List.nodup_cons.mpr ⟨fun z => h.1.2 ?_, ih h.2.2⟩
    obtain ⟨t, ht, e⟩ := List.mem_map.mp z
    exact List.mem_flatMap.mpr ⟨t, ht, by rw [← e]; simp⟩
theorem pl_in {D : va_G} {cs : Nat → ClassId} {A : Nat → Prop} {L : List Nat} (h : ∀ F, va_D A (va_pl L F)) : ∀ q, q ∈ L → A q := fun q hq => by
  obtain ⟨k, hk⟩ := va_pl_get (X := []) (f := fun _ => .inr (0, [])) hq
  exact (h _).2 k _ hk
