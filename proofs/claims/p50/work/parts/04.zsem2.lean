-- ---- ticks, falls
theorem sldB_ex (c : Fx) (b : Nat) (dx dy : Int) : ∃ r, sldB c b dx dy r := by
  have h0 : 0 ≤ stI dx dy := by unfold stI; omega
  have key : ∀ m : Nat, (m : Int) ≤ stI dx dy → (∃ r, sldB c b dx dy r) ∨ ∀ k, 1 ≤ k → k ≤ (m : Int) → ¬ blkK c b dx dy k := by
    intro m
    induction m with
    | zero => intro _; right; intro k h1 h2; exact absurd h2 (by omega)
    | succ m ih =>
      intro hm
      rcases ih (by omega) with h | h
      · exact Or.inl h
      · by_cases q : blkK c b dx dy ((m : Int) + 1)
        · exact Or.inl ⟨m, ⟨⟨by omega, by omega⟩, h, Or.inr q⟩⟩
        · right
          intro k h1 h2
          by_cases w : k = (m : Int) + 1
          · rw [w]; exact q
          · exact h k h1 (by omega)
  rcases key (stI dx dy).toNat (by omega) with h | h
  · exact h
  · exact ⟨stI dx dy, ⟨⟨h0, Int.le_refl _⟩, fun k h1 h2 => h k h1 (by omega), Or.inl rfl⟩⟩
theorem slN_is (c : Fx) (b : Nat) (dx dy : Int) : sldB c b dx dy (slN c b dx dy) := Classical.epsilon_spec (sldB_ex c b dx dy)
theorem slN_nn (c : Fx) (b : Nat) (dx dy : Int) : 0 ≤ slN c b dx dy ∧ slN c b dx dy ≤ stI dx dy := (slN_is c b dx dy).1
theorem slC_lo {c : Fx} {b : Nat} {dx dy : Int} {i : Nat} (h : i < 19) : (slC c b dx dy).1 i = c.1 i := by unfold slC gC; rw [setB_lo h, setB_lo h]
theorem slC_2 {c : Fx} {b : Nat} {dx dy : Int} : (slC c b dx dy).2 = c.2 := rfl
theorem gC_at {c : Fx} {b : Nat} {u v : Int32} {j l : Nat} (hl : l < 8) : (gC c b u v).1 (19 + 8 * j + l) = if j = b ∧ l = 2 then c.1 (19 + 8 * b + 2) + v else if j = b ∧ l = 1 then c.1 (19 + 8 * b + 1) + u else c.1 (19 + 8 * j + l) := by
  unfold gC
  rw [setB_at (by decide) hl, setB_at (by decide) hl]
theorem gC_lo {c : Fx} {b : Nat} {u v : Int32} {i : Nat} (h : i < 19) : (gC c b u v).1 i = c.1 i := by unfold gC; rw [setB_lo h, setB_lo h]
theorem gC_00 {c : Fx} {b : Nat} : gC c b 0 0 = c := by
  unfold gC setB
  refine Prod.ext (funext fun k => ?_) rfl
  simp only [upd, Int32.add_zero]
  split
  · next h => rw [h]
  · split
    · next h => rw [h]
    · rfl
theorem slX_0 {c : Fx} {b : Nat} {dx dy : Int} (h : slN c b dx dy = 0) : slC c b dx dy = c := by
  unfold slC slX slY
  rw [h, byI_0, byI_0, show Int32.ofInt 0 = 0 from by decide +kernel, gC_00]
/-- where a slide ends is a place -/
theorem slC_in {c : Fx} {b : Nat} {dx dy : Int} (ok : okF c) (hb : b < (c.1 1).toInt.toNat) : (slX c b dx dy).toInt = byI (slN c b dx dy) dx (stI dx dy) ∧ (slY c b dx dy).toInt = byI (slN c b dx dy) dy (stI dx dy) ∧ (c.1 (19 + 8 * b + 1) + slX c b dx dy).toInt = bX c b + byI (slN c b dx dy) dx (stI dx dy) ∧ (c.1 (19 + 8 * b + 2) + slY c b dx dy).toInt = bY c b + byI (slN c b dx dy) dy (stI dx dy) ∧ okF (slC c b dx dy) := by
  have r := sld_in ok hb (slN_is c b dx dy)
  have q := bXY ok hb
  have e1 : (slX c b dx dy).toInt = byI (slN c b dx dy) dx (stI dx dy) := by unfold slX; exact Int32.toInt_ofInt_of_le (by omega) (by omega)
  have e2 : (slY c b dx dy).toInt = byI (slN c b dx dy) dy (stI dx dy) := by unfold slY; exact Int32.toInt_ofInt_of_le (by omega) (by omega)
  have a1 : (c.1 (19 + 8 * b + 1) + slX c b dx dy).toInt = bX c b + byI (slN c b dx dy) dx (stI dx dy) := tq_add rfl rfl e1 (by unfold bX at *; omega) (by unfold bX at *; omega)
  have a2 : (c.1 (19 + 8 * b + 2) + slY c b dx dy).toInt = bY c b + byI (slN c b dx dy) dy (stI dx dy) := tq_add rfl rfl e2 (by unfold bY at *; omega) (by unfold bY at *; omega)
  exact ⟨e1, e2, a1, a2, okF_gC ok (by rw [a1]; exact r.1) (by rw [a2]; exact r.2)⟩
/-- a body's tick -/
def vX (c : Fx) (b : Nat) : Int32 := c.1 (19 + 8 * b + 6)
def vY (c : Fx) (b : Nat) : Int32 := c.1 (19 + 8 * b + 7)
noncomputable def tkB (c : Fx) (b : Nat) : Fx × Int := haveI : ∀ p : Prop, Decidable p := Classical.propDecidable; if slN c b (vX c b).toInt (vY c b).toInt = stI (vX c b).toInt (vY c b).toInt then (slC c b (vX c b).toInt (vY c b).toInt, 0) else (setB (setB (slC c b (vX c b).toInt (vY c b).toInt) b 6 (-vX c b)) b 7 (-vY c b), 1)
theorem tkB_y {c : Fx} {b : Nat} (h : slN c b (vX c b).toInt (vY c b).toInt = stI (vX c b).toInt (vY c b).toInt) : tkB c b = (slC c b (vX c b).toInt (vY c b).toInt, 0) := by unfold tkB; rw [if_pos h]
theorem tkB_n {c : Fx} {b : Nat} (h : ¬ slN c b (vX c b).toInt (vY c b).toInt = stI (vX c b).toInt (vY c b).toInt) : tkB c b = (setB (setB (slC c b (vX c b).toInt (vY c b).toInt) b 6 (-vX c b)) b 7 (-vY c b), 1) := by unfold tkB; rw [if_neg h]
/-- what comes of steps one behind another -/
theorem it_ex {α : Type} (g : Nat → α → α) (p : α) : ∃ f : Nat → α, f 0 = p ∧ ∀ j, f (j + 1) = g j (f j) := ⟨fun n => Nat.rec p (fun j q => g j q) n, rfl, fun _ => rfl⟩
noncomputable def itr {α : Type} (g : Nat → α → α) (p : α) : Nat → α := Classical.choose (it_ex g p)
theorem itr_0 {α : Type} {g : Nat → α → α} {p : α} : itr g p 0 = p := (Classical.choose_spec (it_ex g p)).1
theorem itr_s {α : Type} {g : Nat → α → α} {p : α} {j : Nat} : itr g p (j + 1) = g j (itr g p j) := (Classical.choose_spec (it_ex g p)).2 j
noncomputable def tkR (j : Nat) (p : Fx × Int) : Fx × Int := itr (fun j q => ((tkB q.1 j).1, q.2 + (tkB q.1 j).2)) p j
theorem tkR_0 (p : Fx × Int) : tkR 0 p = p := itr_0
theorem tkR_s (j : Nat) (p : Fx × Int) : tkR (j + 1) p = ((tkB (tkR j p).1 j).1, (tkR j p).2 + (tkB (tkR j p).1 j).2) := itr_s
noncomputable def tkT (N k : Nat) (p : Fx × Int) : Fx × Int := itr (fun _ q => tkR N q) p k
theorem tkT_0 (N : Nat) (p : Fx × Int) : tkT N 0 p = p := itr_0
theorem tkT_s (N k : Nat) (p : Fx × Int) : tkT N (k + 1) p = tkR N (tkT N k p) := itr_s
theorem tkB_lo {c : Fx} {b i : Nat} (h : i < 19) : (tkB c b).1.1 i = c.1 i := by
  by_cases q : slN c b (vX c b).toInt (vY c b).toInt = stI (vX c b).toInt (vY c b).toInt
  · rw [tkB_y q]; exact slC_lo h
  · rw [tkB_n q]; show (setB (setB _ _ _ _) _ _ _).1 i = _; rw [setB_lo h, setB_lo h]; exact slC_lo h
theorem tkR_lo {i : Nat} (h : i < 19) (j : Nat) (p : Fx × Int) : (tkR j p).1.1 i = p.1.1 i := by
  induction j with
  | zero => rw [tkR_0]
  | succ j ih => rw [tkR_s]; exact (tkB_lo h).trans ih
theorem tkT_lo {i : Nat} (h : i < 19) (N k : Nat) (p : Fx × Int) : (tkT N k p).1.1 i = p.1.1 i := by
  induction k with
  | zero => rw [tkT_0]
  | succ k ih => rw [tkT_s]; exact (tkR_lo h N _).trans ih
theorem neg20 {v : Int32} (h : -20 ≤ v.toInt ∧ v.toInt ≤ 20) : (-v).toInt = -v.toInt := tq_neg rfl rfl (by omega) (by omega)
theorem vXY {c : Fx} {b : Nat} (ok : okF c) (hb : b < (c.1 1).toInt.toNat) : (-20 ≤ (vX c b).toInt ∧ (vX c b).toInt ≤ 20) ∧ (-20 ≤ (vY c b).toInt ∧ (vY c b).toInt ≤ 20) := ⟨(ok.2.2.2 b hb).2.2.2.2.2.2.1, (ok.2.2.2 b hb).2.2.2.2.2.2.2⟩
theorem vok6 {M : Int} {k : Nat} {v : Int} (hk : k = 6 ∨ k = 7) (h : -20 ≤ v ∧ v ≤ 20) : vok M k v := by unfold vok; omega
theorem tkB_ok {c : Fx} {b : Nat} (ok : okF c) (hb : b < (c.1 1).toInt.toNat) : okF (tkB c b).1 := by
  have q := vXY ok hb
  by_cases w : slN c b (vX c b).toInt (vY c b).toInt = stI (vX c b).toInt (vY c b).toInt
  · rw [tkB_y w]; exact (slC_in ok hb).2.2.2.2
  · rw [tkB_n w]
    exact okF_body (okF_body (slC_in ok hb).2.2.2.2 (by decide) (vok6 (Or.inl rfl) (by rw [neg20 q.1]; omega))) (by decide) (vok6 (Or.inr rfl) (by rw [neg20 q.2]; omega))
noncomputable def tkA (σ : Sx) (n : Int32) : Int × Sx := haveI : ∀ p : Prop, Decidable p := Classical.propDecidable; if 1 ≤ n.toInt ∧ n.toInt ≤ 20 then ((tkT (σ.1.1 1).toInt.toNat n.toInt.toNat (σ.1, 0)).2, (upd (tkT (σ.1.1 1).toInt.toNat n.toInt.toNat (σ.1, 0)).1.1 2 (σ.1.1 2 + n), (tkT (σ.1.1 1).toInt.toNat n.toInt.toNat (σ.1, 0)).1.2), (rem σ).2) else (-1, σ)
theorem tk_n {σ : Sx} {n : Int32} (h : ¬ (1 ≤ n.toInt ∧ n.toInt ≤ 20)) : tkA σ n = (-1, σ) := by unfold tkA; rw [if_neg h]
theorem tk_y {σ : Sx} {n : Int32} (h : 1 ≤ n.toInt ∧ n.toInt ≤ 20) : tkA σ n = ((tkT (σ.1.1 1).toInt.toNat n.toInt.toNat (σ.1, 0)).2, (upd (tkT (σ.1.1 1).toInt.toNat n.toInt.toNat (σ.1, 0)).1.1 2 (σ.1.1 2 + n), (tkT (σ.1.1 1).toInt.toNat n.toInt.toNat (σ.1, 0)).1.2), (rem σ).2) := by unfold tkA; rw [if_pos h]
/-- a fall's round -/
noncomputable def fR (j : Nat) (p : Fx × Int) : Fx × Int := itr (fun j q => (slC q.1 j 0 200, q.2 + slN q.1 j 0 200)) p j
theorem fR_0 (p : Fx × Int) : fR 0 p = p := itr_0
theorem fR_s (j : Nat) (p : Fx × Int) : fR (j + 1) p = (slC (fR j p).1 j 0 200, (fR j p).2 + slN (fR j p).1 j 0 200) := itr_s
noncomputable def fK (N k : Nat) (p : Fx × Int) : Fx × Int := itr (fun _ q => fR N q) p k
theorem fK_0 (N : Nat) (p : Fx × Int) : fK N 0 p = p := itr_0
theorem fK_s (N k : Nat) (p : Fx × Int) : fK N (k + 1) p = fR N (fK N k p) := itr_s
theorem fR_lo {i : Nat} (h : i < 19) (j : Nat) (p : Fx × Int) : (fR j p).1.1 i = p.1.1 i := by
  induction j with
  | zero => rw [fR_0]
  | succ j ih => rw [fR_s]; exact (slC_lo h).trans ih
theorem fK_lo {i : Nat} (h : i < 19) (N k : Nat) (p : Fx × Int) : (fK N k p).1.1 i = p.1.1 i := by
  induction k with
  | zero => rw [fK_0]
  | succ k ih => rw [fK_s]; exact (fR_lo h N _).trans ih
theorem fR_mono (j : Nat) (p : Fx × Int) : p.2 ≤ (fR j p).2 ∧ ((fR j p).2 = p.2 → (fR j p).1 = p.1) := by
  induction j with
  | zero => rw [fR_0]; exact ⟨Int.le_refl _, fun _ => rfl⟩
  | succ j ih =>
    have n := (slN_nn (fR j p).1 j 0 200).1
    rw [fR_s]
    refine ⟨?_, fun e => ?_⟩
    · show p.2 ≤ (fR j p).2 + _; omega
    · have e1 : (fR j p).2 + slN (fR j p).1 j 0 200 = p.2 := e
      show slC (fR j p).1 j 0 200 = p.1
      rw [slX_0 (by omega)]; exact ih.2 (by omega)
theorem fK_mono (N k : Nat) (p : Fx × Int) : p.2 ≤ (fK N k p).2 ∧ ((fK N k p).2 = p.2 → (fK N k p).1 = p.1) := by
  induction k with
  | zero => rw [fK_0]; exact ⟨Int.le_refl _, fun _ => rfl⟩
  | succ k ih =>
    have q := fR_mono N (fK N k p)
    rw [fK_s]
    refine ⟨Int.le_trans ih.1 q.1, fun e1 => ?_⟩
    exact (q.2 (by omega)).trans (ih.2 (by omega))
theorem fR_ok {p : Fx × Int} (ok : okF p.1) (j : Nat) (hj : j ≤ (p.1.1 1).toInt.toNat) : okF (fR j p).1 := by
  induction j with
  | zero => rw [fR_0]; exact ok
  | succ j ih => rw [fR_s]; exact (slC_in (ih (by omega)) (by rw [fR_lo (by decide)]; omega)).2.2.2.2
/-- how low all lie -/
def sY (c : Fx) : Nat → Int
  | 0 => 0
  | j + 1 => sY c j + bY c j
theorem sY_b {c : Fx} (ok : okF c) (j : Nat) (hj : j ≤ (c.1 1).toInt.toNat) : -999 * (j : Int) ≤ sY c j ∧ sY c j ≤ 999 * (j : Int) := by
  induction j with
  | zero => exact ⟨Int.le_refl _, Int.le_refl _⟩
  | succ j ih =>
    have q := ih (by omega)
    have w := bXY ok (show j < (c.1 1).toInt.toNat by omega)
    show _ ≤ sY c j + bY c j ∧ sY c j + bY c j ≤ _
    omega
theorem byI_200 {k : Int} : byI k 200 (stI 0 200) = k := by unfold byI stI; rw [if_neg (by decide)]; show (2 * k * 200 + 200) / (2 * 200) = k; omega
theorem sY_sl {c : Fx} {b : Nat} (ok : okF c) (hb : b < (c.1 1).toInt.toNat) (j : Nat) : sY (slC c b 0 200) j = sY c j + if b < j then slN c b 0 200 else 0 := by
  have e : ∀ i : Nat, bY (slC c b 0 200) i = bY c i + if i = b then slN c b 0 200 else 0 := fun i => by
    unfold bY slC
    rw [gC_at (by decide)]
    by_cases q : i = b
    · subst q
      rw [if_pos ⟨rfl, rfl⟩, if_pos rfl, (slC_in ok hb).2.2.2.1, byI_200]; rfl
    · rw [if_neg (fun z => q z.1), if_neg (fun z => q z.1), if_neg q, Int.add_zero]
  induction j with
  | zero => rw [if_neg (by omega)]; rfl
  | succ j ih =>
    show sY (slC c b 0 200) j + bY (slC c b 0 200) j = sY c j + bY c j + _
    rw [ih, e]
    by_cases q : b < j
    · rw [if_pos q, if_neg (by omega), if_pos (by omega)]; omega
    · by_cases w : j = b
      · rw [if_neg q, if_pos w, if_pos (by omega)]; omega
      · rw [if_neg q, if_neg w, if_neg (by omega)]; omega
theorem fR_sY {p : Fx × Int} (ok : okF p.1) (j : Nat) (hj : j ≤ (p.1.1 1).toInt.toNat) : sY (fR j p).1 (p.1.1 1).toInt.toNat - (fR j p).2 = sY p.1 (p.1.1 1).toInt.toNat - p.2 := by
  induction j with
  | zero => rw [fR_0]
  | succ j ih =>
    have q := ih (by omega)
    rw [fR_s]
    show sY (slC (fR j p).1 j 0 200) _ - ((fR j p).2 + slN (fR j p).1 j 0 200) = _
    rw [sY_sl (fR_ok ok j (by omega)) (by rw [fR_lo (by decide)]; omega), if_pos (by omega)]
    omega
theorem fK_ok {c : Fx} (ok : okF c) (k : Nat) : okF (fK (c.1 1).toInt.toNat k (c, 0)).1 ∧ sY (fK (c.1 1).toInt.toNat k (c, 0)).1 (c.1 1).toInt.toNat - (fK (c.1 1).toInt.toNat k (c, 0)).2 = sY c (c.1 1).toInt.toNat := by
  induction k with
  | zero => rw [fK_0]; exact ⟨ok, by show sY c _ - 0 = _; omega⟩
  | succ k ih =>
    have e : (fK (c.1 1).toInt.toNat k (c, 0)).1.1 1 = c.1 1 := fK_lo (by decide) _ _ _
    have q := fR_sY ih.1 (c.1 1).toInt.toNat (by rw [e]; omega)
    rw [e] at q
    rw [fK_s]
    exact ⟨fR_ok ih.1 _ (by rw [e]; omega), q.trans ih.2⟩
theorem fK_bd {c : Fx} (ok : okF c) (k : Nat) : (fK (c.1 1).toInt.toNat k (c, 0)).2 ≤ 19980 := by
  have q := fK_ok ok k
  have e : (fK (c.1 1).toInt.toNat k (c, 0)).1.1 1 = c.1 1 := fK_lo (by decide) _ _ _
  have a := sY_b q.1 (c.1 1).toInt.toNat (by rw [e]; omega)
  have b := sY_b ok (c.1 1).toInt.toNat (Nat.le_refl _)
  have n := ok.2.1
  have h2 := q.2
  omega
def fGo (c : Fx) (k : Nat) : Prop := ∀ i, i < k → ¬ (fK (c.1 1).toInt.toNat (i + 1) (c, 0)).2 = (fK (c.1 1).toInt.toNat i (c, 0)).2
theorem fGo_s {c : Fx} {k : Nat} (h : fGo c k) (q : ¬ (fK (c.1 1).toInt.toNat (k + 1) (c, 0)).2 = (fK (c.1 1).toInt.toNat k (c, 0)).2) : fGo c (k + 1) := fun i hi => by
  by_cases w : i = k
  · rw [w]; exact q
  · exact h i (by omega)
theorem fGo_le {c : Fx} {k : Nat} (h : fGo c k) : (k : Int) ≤ (fK (c.1 1).toInt.toNat k (c, 0)).2 := by
  induction k with
  | zero => rw [fK_0]; exact Int.le_refl _
  | succ k ih =>
    have q := ih (fun i hi => h i (by omega))
    have w := h k (by omega)
    have m := (fR_mono (c.1 1).toInt.toNat (fK (c.1 1).toInt.toNat k (c, 0))).1
    have e : (fK (c.1 1).toInt.toNat (k + 1) (c, 0)).2 = (fR (c.1 1).toInt.toNat (fK (c.1 1).toInt.toNat k (c, 0))).2 := by rw [fK_s]
    omega
def fEn (c : Fx) (p : Fx × Int) : Prop := ∃ k, fGo c k ∧ (fK (c.1 1).toInt.toNat (k + 1) (c, 0)).2 = (fK (c.1 1).toInt.toNat k (c, 0)).2 ∧ p = fK (c.1 1).toInt.toNat (k + 1) (c, 0)
theorem fEn_uq {c : Fx} {p q : Fx × Int} (h : fEn c p) (g : fEn c q) : p = q := by
  obtain ⟨k, h1, h2, h3⟩ := h
  obtain ⟨l, g1, g2, g3⟩ := g
  rcases Nat.lt_trichotomy k l with w | w | w
  · exact absurd h2 (g1 k w)
  · subst w; rw [h3, g3]
  · exact absurd g2 (h1 l w)
noncomputable def faE (c : Fx) : Fx × Int := haveI : ∀ p : Prop, Decidable p := Classical.propDecidable; if h : ∃ p, fEn c p then Classical.choose h else (c, 0)
theorem faE_of {c : Fx} {p : Fx × Int} (h : fEn c p) : faE c = p := by
  unfold faE
  rw [dif_pos ⟨p, h⟩]
  exact fEn_uq (Classical.choose_spec ⟨p, h⟩) h
noncomputable def faA (σ : Sx) : Int × Sx := haveI : ∀ p : Prop, Decidable p := Classical.propDecidable; if (σ.1.1 1).toInt = 0 then (-1, σ) else if (faE σ.1).2 = 0 then (-2, σ) else ((faE σ.1).2, (faE σ.1).1, (rem σ).2)
theorem fa_n {σ : Sx} (h : (σ.1.1 1).toInt = 0) : faA σ = (-1, σ) := by unfold faA; rw [if_pos h]
theorem fa_e {σ : Sx} (h : ¬ (σ.1.1 1).toInt = 0) (e : (faE σ.1).2 = 0) : faA σ = (-2, σ) := by unfold faA; rw [if_neg h, if_pos e]
theorem fa_y {σ : Sx} (h : ¬ (σ.1.1 1).toInt = 0) (e : ¬ (faE σ.1).2 = 0) : faA σ = ((faE σ.1).2, (faE σ.1).1, (rem σ).2) := by unfold faA; rw [if_neg h, if_neg e]
/-- a fall under way: remembered once it has begun -/
noncomputable def faS (σ : Sx) (p : Fx × Int) : Sx := haveI : ∀ p : Prop, Decidable p := Classical.propDecidable; if p.2 = 0 then (p.1, σ.2) else (p.1, (rem σ).2)
theorem faS_0 {σ : Sx} {p : Fx × Int} (h : p.2 = 0) : faS σ p = (p.1, σ.2) := by unfold faS; rw [if_pos h]
theorem faS_y {σ : Sx} {p : Fx × Int} (h : ¬ p.2 = 0) : faS σ p = (p.1, (rem σ).2) := by unfold faS; rw [if_neg h]
theorem faS_1 {σ : Sx} {p : Fx × Int} : (faS σ p).1 = p.1 := by unfold faS; split <;> rfl
theorem tkR_st {v v1 r : Int} {j : Nat} {p : Fx × Int} (e : v = (tkR j p).2) (er : r = (tkB (tkR j p).1 j).2) (e1 : v1 = v + r) : v1 = (tkR (j + 1) p).2 := by rw [tkR_s, e1, e, er]
def u2 (c : Fx) (v : Int32) : Fx := (upd c.1 2 v, c.2)
theorem u2_at {c : Fx} {v : Int32} {i : Nat} (h : ¬ i = 2) : (u2 c v).1 i = c.1 i := by unfold u2 upd; exact if_neg h
theorem u2_2 {c : Fx} {v : Int32} : (u2 c v).1 2 = v := by show (if (2 : Nat) = 2 then v else c.1 2) = v; exact if_pos rfl
theorem u2_ok {c : Fx} {v : Int32} (ok : okF c) : okF (u2 c v) := by
  obtain ⟨h1, h2, h3, h4⟩ := ok
  refine ⟨by rw [u2_at (by decide)]; exact h1, by rw [u2_at (by decide)]; exact h2, fun i hi => ?_, fun b hb => ?_⟩
  · rw [u2_at (by decide)] at hi; rw [u2_at (by omega), u2_at (by omega)]; exact h3 i hi
  · rw [u2_at (by decide)] at hb
    have q := bdok_iff.mp (h4 b hb)
    refine bdok_iff.mpr (fun k hk => ?_)
    rw [u2_at (by decide), u2_at (by omega)]; exact q k hk
theorem u2_sh {c : Fx} {v : Int32} (b : Nat) : bw_ (u2 c v) b = bw_ c b ∧ bh_ (u2 c v) b = bh_ c b ∧ shp (u2 c v) b = shp c b := by
  have e : (u2 c v).1 (19 + 8 * b) = c.1 (19 + 8 * b) := u2_at (by omega)
  have e1 : bw_ (u2 c v) b = bw_ c b := by unfold bw_; rw [e, u2_at (by omega)]
  have e2 : bh_ (u2 c v) b = bh_ c b := by unfold bh_; rw [e, u2_at (by omega)]
  refine ⟨e1, e2, ?_⟩
  unfold shp
  rw [e1, e2, e, u2_at (by omega)]; rfl
section
variable {L : List Nat} {K G : Nat → Nat} {Q : Nat → Nat → Option Nat} {I I1 : Nat → Nat → Int32} {J : Nat → Nat → Int64} {x F : Nat} {σ : Sx} {c : Fx} {v : Int32}
theorem cxF_tick (hQ : Sv L K G Q) (hL : F ∈ L) (hK : K F = 1) (ok : okF c) (e : I1 = va_up I F (upd (I F) 4 v)) (h : cxF Q I J F c) : cxF Q I1 J F (u2 c v) := by
  obtain ⟨h1, h2, h3, h4, h5⟩ := h
  have n := ok.1
  have n2 := ok.2.1
  refine ⟨?_, ?_, ?_, fun i hi => ?_, fun i hi k hk => ?_⟩
  · rw [e, rz_fr _ _ _ _ (by decide), u2_at (by decide)]; exact h1
  · rw [e, rz_fr _ _ _ _ (by decide), u2_at (by decide)]; exact h2
  · rw [e, rz_at, u2_2]
  · rw [u2_at (by decide)] at hi
    have g := fm_g hQ hL hK (show i < 8 by omega)
    have q := h4 i hi
    rw [u2_at (by omega), u2_at (by omega)]
    exact cxM_fr hQ extW_refl g.1 g.2.1 (by rw [e, va_up_ne _ _ (ne_k g.2.1 hK (by decide))]) rfl q
  · rw [u2_at (by decide)] at hi
    have g := fb_g hQ hL hK (show i < 10 by omega)
    rw [e, va_up_ne _ _ (ne_k g.2.1 hK (by decide)), u2_at (by omega)]
    exact h5 i hi k hk
theorem cxA_tick (hQ : Sv L K G Q) (hL : x ∈ L) (hK : K x = 6) (e : I1 = va_up I (an Q x) (upd (I (an Q x)) 4 v)) (A : cxA Q I J x σ) : cxA Q I1 J x (u2 σ.1 v, σ.2) := by
  have g := x_g hQ hL hK
  have ne : ∀ b, ¬ K b = 1 ∨ ¬ G b = 1 → I1 b = I b := fun b hb => by
    rw [e, va_up_ne _ _ (fun z => by rw [z] at hb; have a := g.1.2.1; have b := g.1.2.2; omega)]
  refine ⟨cxH_now hQ hL hK (u2_ok A.1.1.1) (cxF_tick hQ g.1.1 g.1.2.1 A.1.1.1 e A.1.1.2) (by rw [ne x (by omega)]) (by rw [ne x (by omega)]) (fun b _ hk hg => ne b (by unfold rg at hg; omega)) (fun _ _ _ _ => rfl) A.1, fun i hi => ?_⟩
  have hi2 : i < (σ.1.1 1).toInt.toNat := by rw [show ((u2 σ.1 v, σ.2).1.1 1) = σ.1.1 1 from u2_at (by decide)] at hi; exact hi
  have n := A.1.1.1.2.1
  have sg := sm_g hQ g.2.2.2.1 g.2.2.2.2.1 (show i < 10 by omega)
  have s := u2_sh (c := σ.1) (v := v) i
  show cxM Q I1 J (sm Q (se Q x) i) (bw_ (u2 σ.1 v) i) (bh_ (u2 σ.1 v) i) (mkw (shp (u2 σ.1 v) i))
  rw [s.1, s.2.1, s.2.2]
  exact cxM_fr hQ extW_refl sg.1 sg.2.1 (ne _ (by omega)) rfl (A.2 i hi2)
end
section
variable {L : List Nat} {K G : Nat → Nat} {Q : Nat → Nat → Option Nat} {I I1 : Nat → Nat → Int32} {J J1 : Nat → Nat → Int64}
/-- a round of ticks under way -/
theorem tkRT_lo {N k j i : Nat} {c : Fx} (h : i < 19) : (tkR j (tkT N k (c, 0))).1.1 i = c.1 i := by rw [tkR_lo h, tkT_lo h]
theorem tk_en {x : Nat} {s : Nat × (Nat → Fx) × (Nat → Option Fx)} {N k j : Nat} {c : Fx} {z : Int32} (A : cxA Q I J x ((tkR j (tkT N k (c, 0))).1, s)) (e : z = I (an Q x) 3) : z.toInt = (c.1 1).toInt := by
  have q := A.1.1.2.2.1
  rw [e, q]
  exact congrArg Int32.toInt (tkRT_lo (N := N) (k := k) (j := j) (c := c) (i := 1) (by decide))
theorem tk_nn {N k j : Nat} {c : Fx} {i : Nat} (h : i < (c.1 1).toInt.toNat) : i < ((tkR j (tkT N k (c, 0))).1.1 1).toInt.toNat := by
  rw [tkRT_lo (N := N) (k := k) (j := j) (c := c) (i := 1) (by decide)]; exact h
theorem sx_44 {x i : Nat} {s : Nat × (Nat → Fx) × (Nat → Option Fx)} {c : Fx} {r : Int32} (A : cxA Q I J x (c, s)) (h : i < (c.1 1).toInt.toNat) (h1 : ∀ σ : Sx, cxA Q I J x σ → i < (σ.1.1 1).toInt.toNat → r.toInt = (tkB σ.1 i).2) (h2 : ∀ σ : Sx, cxA Q I J x σ → i < (σ.1.1 1).toInt.toNat → cxA Q I1 J1 x ((tkB σ.1 i).1, σ.2)) : r.toInt = (tkB c i).2 ∧ cxA Q I1 J1 x ((tkB c i).1, s) := ⟨h1 (c, s) A h, h2 (c, s) A h⟩
theorem tk_44 {x i : Nat} {s : Nat × (Nat → Fx) × (Nat → Option Fx)} {N k j : Nat} {c : Fx} {r : Int32} (A : cxA Q I J x ((tkR j (tkT N k (c, 0))).1, s)) (h : i < (c.1 1).toInt.toNat) (h1 : ∀ σ : Sx, cxA Q I J x σ → i < (σ.1.1 1).toInt.toNat → r.toInt = (tkB σ.1 i).2) (h2 : ∀ σ : Sx, cxA Q I J x σ → i < (σ.1.1 1).toInt.toNat → cxA Q I1 J1 x ((tkB σ.1 i).1, σ.2)) : r.toInt = (tkB (tkR j (tkT N k (c, 0))).1 i).2 ∧ cxA Q I1 J1 x ((tkB (tkR j (tkT N k (c, 0))).1 i).1, s) := sx_44 A (tk_nn (N := N) (k := k) (j := j) h) h1 h2
theorem tk_2 {x : Nat} {s : Nat × (Nat → Fx) × (Nat → Option Fx)} {N k : Nat} {c : Fx} {z : Int32} (A : cxA Q I J x ((tkT N k (c, 0)).1, s)) (e : z = I (an Q x) 4) : z = c.1 2 := by
  have q := A.1.1.2.2.2.1
  rw [e, q]
  show (tkT N k (c, 0)).1.1 2 = c.1 2
  rw [tkT_lo (by decide)]
end
theorem rem_e (σ : Sx) : rem σ = (σ.1, (rem σ).2) := Prod.ext (rem_1 σ) rfl
-- ---- falls of the class
theorem fGo_0 {c : Fx} : fGo c 0 := fun i hi => absurd hi (by omega)
theorem fP_nn {N k j : Nat} {c : Fx} : 0 ≤ (fR j (fK N k (c, 0))).2 := by
  have a : (0 : Int) ≤ (fK N k (c, 0)).2 := (fK_mono N k (c, 0)).1
  have b := (fR_mono j (fK N k (c, 0))).1
  omega
theorem fP_0 {N k j : Nat} {c : Fx} (h : (fR j (fK N k (c, 0))).2 = 0) : (fR j (fK N k (c, 0))).1 = c := by
  have a : (0 : Int) ≤ (fK N k (c, 0)).2 := (fK_mono N k (c, 0)).1
  have a2 : (fK N k (c, 0)).2 = 0 → (fK N k (c, 0)).1 = c := (fK_mono N k (c, 0)).2
  have b := fR_mono j (fK N k (c, 0))
  exact (b.2 (by omega)).trans (a2 (by omega))
theorem fP_lo {N k j i : Nat} {c : Fx} (h : i < 19) : (fR j (fK N k (c, 0))).1.1 i = c.1 i := by rw [fR_lo h, fK_lo h]
theorem fP_n {N k j i : Nat} {c : Fx} (h : i < (c.1 1).toInt.toNat) : i < ((fR j (fK N k (c, 0))).1.1 1).toInt.toNat := by
  rw [fP_lo (N := N) (k := k) (j := j) (c := c) (i := 1) (by decide)]; exact h
theorem fR_skip {j : Nat} {P : Fx × Int} (z : slN (fR j P).1 j 0 200 = 0) : fR (j + 1) P = fR j P := by
  rw [fR_s, slX_0 z, z]
  exact Prod.ext rfl (Int.add_zero _)
theorem fR_sum {j : Nat} {P : Fx × Int} {v s v1 gx gy : Int} (g : gLR (fR j P).1 j 0 200 s gx gy) (e : v = (fR j P).2) (h : v1 = v + s) : v1 = (fR (j + 1) P).2 := by
  rw [fR_s, h, e]
  show _ = (fR j P).2 + slN (fR j P).1 j 0 200
  rw [gLR_slN g]
theorem fa_end {c : Fx} {k j : Nat} (gg : fGo c k) (hj : j = (c.1 1).toInt.toNat) (h : (fR j (fK (c.1 1).toInt.toNat k (c, 0))).2 = (fK (c.1 1).toInt.toNat k (c, 0)).2) : faE c = fR j (fK (c.1 1).toInt.toNat k (c, 0)) := by
  subst hj
  exact faE_of ⟨k, gg, by rw [fK_s]; exact h, by rw [fK_s]⟩
theorem faE_0 {c : Fx} (h : (faE c).2 = 0) : (faE c).1 = c := by
  by_cases q : ∃ p, fEn c p
  · obtain ⟨p, hp⟩ := q
    have e := faE_of hp
    rw [e] at h ⊢
    obtain ⟨k, -, -, h3⟩ := hp
    rw [h3] at h ⊢
    exact (fK_mono _ _ (c, 0)).2 h
  · unfold faE; rw [dif_neg q]
theorem fa_sig0 {σ : Sx} (h : (faE σ.1).2 = 0) : faS σ (faE σ.1) = σ := by
  rw [faS_0 h, faE_0 h]
section
variable {L : List Nat} {K G : Nat → Nat} {Q : Nat → Nat → Option Nat} {I I1 : Nat → Nat → Int32} {J J1 : Nat → Nat → Int64} {x S : Nat} {σ : Sx}
theorem fa_en {N k j : Nat} {z : Int32} (A : cxA Q I J x (faS σ (fR j (fK N k (σ.1, 0))))) (e : z = I (an Q x) 3) : z.toInt = (σ.1.1 1).toInt := by
  have q := A.1.1.2.2.1
  rw [faS_1] at q
  rw [e, q, fP_lo (i := 1) (by decide)]
theorem fa_try {p : Fx × Int} {j : Nat} (hQ : Sv L K G Q) (hL : x ∈ L) (hK : K x = 6) (hS : K S = 5) (eS : se Q x = S) (fr : ∀ b, ¬ b = S → I1 b = I b) (A : cxA Q I J x (faS σ p)) (hj : j < (p.1.1 1).toInt.toNat) (g : ∀ c : Fx, okF c → cxF Q I J (nf Q S) c → cxS Q I J S c → j < (c.1 1).toInt.toNat → gLR c j (0 : Int32).toInt (200 : Int32).toInt (I1 S 2).toInt (I1 S 4).toInt (I1 S 5).toInt) : cxA Q I1 J x (faS σ p) ∧ gLR p.1 j 0 200 (I1 S 2).toInt (I1 S 4).toInt (I1 S 5).toInt := by
  have T := cxA_tg A
  rw [eS, faS_1] at T
  have g1 := g p.1 T.1 T.2.1 T.2.2 hj
  rw [show (0 : Int32).toInt = 0 from by decide +kernel, show (200 : Int32).toInt = 200 from by decide +kernel] at g1
  exact ⟨cxA_sc hQ hL hK hS fr A, g1⟩
theorem fa_skip {P : Fx × Int} {j : Nat} {v s gx gy : Int} (A : cxA Q I J x (faS σ (fR j P))) (g : gLR (fR j P).1 j 0 200 s gx gy) (hs : s ≤ 0) (e : v = (fR j P).2) : v = (fR (j + 1) P).2 ∧ cxA Q I J x (faS σ (fR (j + 1) P)) := by
  have n := gLR_slN g
  have nn := (slN_nn (fR j P).1 j 0 200).1
  rw [fR_skip (by omega)]
  exact ⟨e, A⟩
theorem fa_rem {N k j : Nat} (A : cxA Q I J x (faS σ (fR j (fK N k (σ.1, 0))))) (h : (fR j (fK N k (σ.1, 0))).2 = 0) : cxA Q I J x σ := by
  rw [faS_0 h, fP_0 h] at A; exact A
theorem fa_go {P : Fx × Int} {j : Nat} {s : Nat × (Nat → Fx) × (Nat → Option Fx)} (hQ : Sv L K G Q) (hL : x ∈ L) (hK : K x = 6) (eS : se Q x = S) (A : cxA Q I J x ((fR j P).1, s)) (hj : j < ((fR j P).1.1 1).toInt.toNat) (g : gLR (fR j P).1 j 0 200 (I S 2).toInt (I S 4).toInt (I S 5).toInt) (f : ∃ Im, Im = va_up I (fb Q (nf Q S) j) (upd (I (fb Q (nf Q S) j)) 1 (I (fb Q (nf Q S) j) 1 + I S 4)) ∧ I1 = va_up Im (fb Q (nf Q S) j) (upd (Im (fb Q (nf Q S) j)) 2 (I (fb Q (nf Q S) j) 2 + I S 5))) : cxA Q I1 J x ((fR (j + 1) P).1, s) := by
  have ok : okF (fR j P).1 := A.1.1.1
  have n := cxA_nf A
  rw [eS] at n
  rw [n] at f
  have w := gl_in ok hj g
  have R := cxA_go (σ := ((fR j P).1, s)) (u := I S 4) (v := I S 5) hQ hL hK A hj w.2.1 w.2.2 rfl f
  rw [fR_s]
  show cxA Q I1 J x (slC (fR j P).1 j 0 200, s)
  unfold slC
  rw [← w.1.1, ← w.1.2]
  exact R
theorem fa_st {p : Fx × Int} (A : cxA Q I J x (p.1, (rem σ).2)) (h : ¬ p.2 = 0) : cxA Q I J x (faS σ p) := by rw [faS_y h]; exact A
end
-- ---- push: who goes
theorem hb_and {x y z : Int32} (e : z = x &&& y) (i : Nat) : hbt z i = (hbt x i && hbt y i) := by unfold hbt; rw [e, Int32.toBitVec_and, BitVec.getLsbD_and]
theorem hb_not {x z : Int32} (e : z = x ^^^ -1) {i : Nat} (hi : i < 32) : hbt z i = !hbt x i := by
  unfold hbt
  rw [e, Int32.toBitVec_xor, BitVec.getLsbD_xor, show (-1 : Int32).toBitVec = BitVec.allOnes 32 from by decide +kernel, BitVec.getLsbD_allOnes]
  simp [hi]
set_option maxRecDepth 100000 in
theorem lo_bitk : ∀ k : Fin 1024, k.1 ≠ 0 → hbt (nI k.1) (bc32 ((nI k.1 &&& -nI k.1) - 1)).toInt.toNat = true := by decide +kernel
theorem lo_bit {g a q n m w y z : Int32} (en : n = g &&& q) (eq : q = a ^^^ -1) (em : m = -n) (ew : w = n &&& m) (ey : y = w - 1) (ez : z = bc32 y) (h : 1 ≤ n.toInt ∧ n.toInt ≤ 1023) (hz : 0 ≤ z.toInt ∧ z.toInt ≤ 9) : hbt g z.toInt.toNat = true ∧ hbt a z.toInt.toNat = false := by
  have b : hbt n z.toInt.toNat = true := by
    obtain ⟨k, hk, rfl⟩ := nI_10 (n := 1023) (by decide) (by omega) h.2
    rw [ez, ey, ew, em]
    refine lo_bitk ⟨k, by omega⟩ (fun q => ?_)
    simp only [] at q
    subst q
    have : (nI 0).toInt = 0 := by decide +kernel
    omega
  rw [hb_and en, Bool.and_eq_true, hb_not eq (by omega)] at b
  refine ⟨b.1, ?_⟩
  have := b.2
  cases w : hbt a z.toInt.toNat with
  | false => rfl
  | true => rw [w] at this; cases this
def pE (c : Fx) (x y : Int) (b o : Nat) : Prop := ¬ o = b ∧ mayT c b o ∧ metM c b o x y ∧ ¬ metM c b o 0 0
def gR (c : Fx) (b : Nat) (x y : Int) (o : Nat) : Prop := ∀ S : Nat → Prop, S b → (∀ u v, S u → v < (c.1 1).toInt.toNat → pE c x y u v → S v) → S o
theorem gR_0 {c : Fx} {b : Nat} {x y : Int} : gR c b x y b := fun _ h _ => h
theorem gR_s {c : Fx} {b u v : Nat} {x y : Int} (h : gR c b x y u) (hv : v < (c.1 1).toInt.toNat) (e : pE c x y u v) : gR c b x y v := fun S h0 h1 => h1 u v (h S h0 h1) hv e
theorem gR_lt {c : Fx} {b o : Nat} {x y : Int} (hb : b < (c.1 1).toInt.toNat) (h : gR c b x y o) : o < (c.1 1).toInt.toNat := h (fun o => o < (c.1 1).toInt.toNat) hb (fun _ _ _ hv _ => hv)
def CB (p : Nat → Bool) : Nat → Nat
  | 0 => 0
  | n + 1 => CB p n + (if p n then 1 else 0)
theorem CB_le (p : Nat → Bool) (n : Nat) : CB p n ≤ n := by
  induction n with
  | zero => exact Nat.le_refl _
  | succ n ih => show CB p n + _ ≤ n + 1; split <;> omega
theorem CB_full {p : Nat → Bool} {n : Nat} (h : n ≤ CB p n) : ∀ i, i < n → p i = true := by
  induction n with
  | zero => intro i hi; exact absurd hi (by omega)
  | succ n ih =>
    have a : n + 1 ≤ CB p n + (if p n then 1 else 0) := h
    have b := CB_le p n
    intro i hi
    by_cases w : p n = true
    · rw [if_pos w] at a
      by_cases q : i = n
      · rw [q]; exact w
      · exact ih (by omega) i (by omega)
    · rw [if_neg w] at a; omega
theorem CB_congr {p q : Nat → Bool} {n : Nat} (h : ∀ i, i < n → p i = q i) : CB p n = CB q n := by
  induction n with
  | zero => rfl
  | succ n ih =>
    show CB p n + (if p n then 1 else 0) = CB q n + (if q n then 1 else 0)
    rw [ih (fun i hi => h i (by omega)), h n (by omega)]
theorem CB_add {p q : Nat → Bool} {n j : Nat} (hj : j < n) (h0 : p j = false) (h : ∀ i, q i = (p i || decide (i = j))) : CB q n = CB p n + 1 := by
  induction n with
  | zero => omega
  | succ n ih =>
    show CB q n + (if q n then 1 else 0) = CB p n + (if p n then 1 else 0) + 1
    by_cases w : n = j
    · subst w
      rw [CB_congr (p := q) (q := p) (fun i hi => by rw [h, decide_eq_false (by omega), Bool.or_false]), h n, h0]
      simp
    · rw [ih (by omega), h n, decide_eq_false w, Bool.or_false]; omega
theorem CB_0 {n : Nat} : CB (hbt 0) n = 0 := by
  induction n with
  | zero => rfl
  | succ n ih => show CB (hbt 0) n + _ = 0; rw [ih, hb_0]; rfl
def goI (c : Fx) (b : Nat) (x y : Int) (g a : Int32) : Prop := hbt g b = true ∧ (∀ o, hbt g o = true → gR c b x y o) ∧ (∀ o, hbt a o = true → hbt g o = true) ∧ ∀ u, hbt a u = true → ∀ v, v < (c.1 1).toInt.toNat → pE c x y u v → hbt g v = true
theorem goI_0 {c : Fx} {b : Nat} {x y : Int} {g : Int32} (h : ∀ o, hbt g o = decide (o = b)) : goI c b x y g 0 := by
  refine ⟨by rw [h]; simp, fun o ho => ?_, fun o ho => ?_, fun o ho => ?_⟩
  · rw [h, decide_eq_true_iff] at ho; subst ho; exact gR_0
  · rw [hb_0] at ho; cases ho
  · rw [hb_0] at ho; cases ho
theorem goI_e {c : Fx} {b : Nat} {x y : Int} {g a : Int32} (h : goI c b x y g a) (e : ∀ o, hbt g o = true → hbt a o = true) (o : Nat) : hbt g o = true ↔ gR c b x y o := ⟨h.2.1 o, fun q => q (fun o => hbt g o = true) h.1 (fun u v hu hv p => h.2.2.2 u (e u hu) v hv p)⟩
theorem goI_full {c : Fx} {b : Nat} {x y : Int} {g a : Int32} (hb : b < (c.1 1).toInt.toNat) (h : goI c b x y g a) (e : (c.1 1).toInt.toNat ≤ CB (hbt a) (c.1 1).toInt.toNat) (o : Nat) : hbt g o = true ↔ gR c b x y o := goI_e h (fun o ho => CB_full e o (gR_lt hb (h.2.1 o ho))) o
def goN (c : Fx) (b : Nat) (x y : Int) (g a : Int32) (one i : Nat) : Prop := hbt g b = true ∧ (∀ o, hbt g o = true → gR c b x y o) ∧ (∀ o, hbt a o = true → hbt g o = true) ∧ (∀ u, hbt a u = true → ¬ u = one → ∀ v, v < (c.1 1).toInt.toNat → pE c x y u v → hbt g v = true) ∧ hbt a one = true ∧ ∀ v, v < i → v < (c.1 1).toInt.toNat → pE c x y one v → hbt g v = true
theorem goN_0 {c : Fx} {b one : Nat} {x y : Int} {g a a1 : Int32} (h : goI c b x y g a) (h1 : hbt g one = true) (e : ∀ i, hbt a1 i = (hbt a i || decide (i = one))) : goN c b x y g a1 one 0 := by
  refine ⟨h.1, h.2.1, fun o ho => ?_, fun u hu hn => ?_, by rw [e]; simp, fun v hv => absurd hv (by omega)⟩
  · rw [e, Bool.or_eq_true, decide_eq_true_iff] at ho
    rcases ho with q | q
    · exact h.2.2.1 o q
    · rw [q]; exact h1
  · rw [e, Bool.or_eq_true, decide_eq_true_iff] at hu
    rcases hu with q | q
    · exact h.2.2.2 u q
    · exact absurd q hn
theorem goN_no {c : Fx} {b one i j : Nat} {x y : Int} {g a : Int32} (h : goN c b x y g a one i) (hj : j = i + 1) (hn : hbt g i = true ∨ ¬ pE c x y one i) : goN c b x y g a one j := by
  refine ⟨h.1, h.2.1, h.2.2.1, h.2.2.2.1, h.2.2.2.2.1, fun v hv hN p => ?_⟩
  by_cases q : v = i
  · subst q
    rcases hn with w | w
    · exact w
    · exact absurd p w
  · exact h.2.2.2.2.2 v (by omega) hN p
theorem goN_yes {c : Fx} {b one i j : Nat} {x y : Int} {g g1 a : Int32} (h : goN c b x y g a one i) (hj : j = i + 1) (hN : i < (c.1 1).toInt.toNat) (h0 : hbt g i = false) (hm : mayT c one i ∧ metM c one i x y ∧ ¬ metM c one i 0 0) (e : ∀ k, hbt g1 k = (hbt g k || decide (k = i))) : goN c b x y g1 a one j := by
  have le : ∀ k, hbt g k = true → hbt g1 k = true := fun k q => by rw [e, q]; rfl
  have h1 := h.2.2.1 one h.2.2.2.2.1
  have ne : ¬ i = one := fun q => by rw [q, h1] at h0; cases h0
  refine ⟨le _ h.1, fun o ho => ?_, fun o ho => le _ (h.2.2.1 o ho), fun u hu hn v hv p => le _ (h.2.2.2.1 u hu hn v hv p), h.2.2.2.2.1, fun v hv hN2 p => ?_⟩
  · rw [e, Bool.or_eq_true, decide_eq_true_iff] at ho
    rcases ho with q | q
    · exact h.2.1 o q
    · subst q
      exact gR_s (h.2.1 one h1) hN ⟨ne, hm⟩
  · by_cases q : v = i
    · rw [e, q]; simp
    · exact le _ (h.2.2.2.2.2 v (by omega) hN2 p)
theorem goN_e {c : Fx} {b one i : Nat} {x y : Int} {g a : Int32} (h : goN c b x y g a one i) (hi : (c.1 1).toInt.toNat ≤ i) : goI c b x y g a := by
  refine ⟨h.1, h.2.1, h.2.2.1, fun u hu v hv p => ?_⟩
  by_cases q : u = one
  · subst q; exact h.2.2.2.2.2 v (by omega) hv p
  · exact h.2.2.2.1 u hu q v hv p
-- ---- push: all go
noncomputable def mvJ (c : Fx) (S : Nat → Prop) (u v : Int32) (j : Nat) : Fx := haveI : ∀ p : Prop, Decidable p := Classical.propDecidable; itr (fun j d => if S j then gC d j u v else d) c j
theorem mvJ_0 {c : Fx} {S : Nat → Prop} {u v : Int32} : mvJ c S u v 0 = c := itr_0
theorem mvJ_y {c : Fx} {S : Nat → Prop} {u v : Int32} {j : Nat} (h : S j) : mvJ c S u v (j + 1) = gC (mvJ c S u v j) j u v := by unfold mvJ; rw [itr_s]; exact if_pos h
theorem mvJ_n {c : Fx} {S : Nat → Prop} {u v : Int32} {j : Nat} (h : ¬ S j) : mvJ c S u v (j + 1) = mvJ c S u v j := by
  have e : mvJ c S u v (j + 1) = _ := itr_s
  rw [e]; exact if_neg h
theorem mvJ_lo {c : Fx} {S : Nat → Prop} {u v : Int32} {j i : Nat} (h : i < 19) : (mvJ c S u v j).1 i = c.1 i := by
  induction j with
  | zero => rw [mvJ_0]
  | succ j ih =>
    by_cases q : S j
    · rw [mvJ_y q, gC_lo h]; exact ih
    · rw [mvJ_n q]; exact ih
theorem mvJ_2 {c : Fx} {S : Nat → Prop} {u v : Int32} {j : Nat} : (mvJ c S u v j).2 = c.2 := by
  induction j with
  | zero => rw [mvJ_0]
  | succ j ih =>
    by_cases q : S j
    · rw [mvJ_y q]; exact ih
    · rw [mvJ_n q]; exact ih
theorem mvJ_at {c : Fx} {S : Nat → Prop} {u v : Int32} {j i l : Nat} (hl : l < 8) : (i < j → S i → (mvJ c S u v j).1 (19 + 8 * i + l) = if l = 2 then c.1 (19 + 8 * i + 2) + v else if l = 1 then c.1 (19 + 8 * i + 1) + u else c.1 (19 + 8 * i + l)) ∧ (¬ (i < j ∧ S i) → (mvJ c S u v j).1 (19 + 8 * i + l) = c.1 (19 + 8 * i + l)) := by
  induction j generalizing l with
  | zero => rw [mvJ_0]; exact ⟨fun h => absurd h (by omega), fun _ => rfl⟩
  | succ j ih =>
    by_cases q : S j
    · rw [mvJ_y q, gC_at hl]
      refine ⟨fun hi hs => ?_, fun hn => ?_⟩
      · by_cases w : i = j
        · subst w
          rw [((ih (l := 2) (by decide)).2 (by omega)), ((ih (l := 1) (by decide)).2 (by omega)), ((ih hl).2 (by omega))]
          by_cases w2 : l = 2
          · rw [if_pos ⟨rfl, w2⟩, if_pos w2]
          · by_cases w1 : l = 1
            · rw [if_neg (fun z => w2 z.2), if_pos ⟨rfl, w1⟩, if_neg w2, if_pos w1]
            · rw [if_neg (fun z => w2 z.2), if_neg (fun z => w1 z.2), if_neg w2, if_neg w1]
        · rw [if_neg (fun z => w z.1), if_neg (fun z => w z.1)]; exact (ih hl).1 (by omega) hs
      · have w : ¬ i = j := fun z => hn (by rw [z]; exact ⟨by omega, q⟩)
        rw [if_neg (fun z => w z.1), if_neg (fun z => w z.1)]
        exact (ih hl).2 (fun z => hn ⟨by omega, z.2⟩)
    · rw [mvJ_n q]
      refine ⟨fun hi hs => ?_, fun hn => ?_⟩
      · have w : ¬ i = j := fun z => q (by rw [← z]; exact hs)
        exact (ih hl).1 (by omega) hs
      · by_cases w : i = j
        · exact (ih hl).2 (by omega)
        · exact (ih hl).2 (fun z => hn ⟨by omega, z.2⟩)
theorem mvJ_sh {c : Fx} {S : Nat → Prop} {u v : Int32} {j : Nat} (b : Nat) (hm : (c.1 (19 + 8 * b)).toInt.toNat < 8) : bw_ (mvJ c S u v j) b = bw_ c b ∧ bh_ (mvJ c S u v j) b = bh_ c b ∧ shp (mvJ c S u v j) b = shp c b := by
  have k0 : (mvJ c S u v j).1 (19 + 8 * b) = c.1 (19 + 8 * b) := by
    have q := mvJ_at (c := c) (S := S) (u := u) (v := v) (j := j) (i := b) (l := 0) (by decide)
    by_cases w : b < j ∧ S b
    · have := q.1 w.1 w.2; simpa using this
    · exact q.2 w
  have k3 : (mvJ c S u v j).1 (19 + 8 * b + 3) = c.1 (19 + 8 * b + 3) := by
    have q := mvJ_at (c := c) (S := S) (u := u) (v := v) (j := j) (i := b) (l := 3) (by decide)
    by_cases w : b < j ∧ S b
    · have := q.1 w.1 w.2; simpa using this
    · exact q.2 w
  have e1 : bw_ (mvJ c S u v j) b = bw_ c b := by unfold bw_; rw [k0, mvJ_lo (by omega)]
  have e2 : bh_ (mvJ c S u v j) b = bh_ c b := by unfold bh_; rw [k0, mvJ_lo (by omega)]
  refine ⟨e1, e2, ?_⟩
  unfold shp
  rw [e1, e2, k0, k3, mvJ_2]
theorem mvJ_ok {c : Fx} {S : Nat → Prop} {u v : Int32} (ok : okF c) (h : ∀ o, o < (c.1 1).toInt.toNat → S o → ¬ farB c o u.toInt v.toInt) (hu : (-400 ≤ u.toInt ∧ u.toInt ≤ 400) ∧ (-400 ≤ v.toInt ∧ v.toInt ≤ 400)) (j : Nat) (hj : j ≤ (c.1 1).toInt.toNat) : okF (mvJ c S u v j) := by
  induction j with
  | zero => rw [mvJ_0]; exact ok
  | succ j ih =>
    have A := ih (by omega)
    by_cases q : S j
    · rw [mvJ_y q]
      have f := Classical.byContradiction (fun z => h j (by omega) q z)
      have b := bXY ok (show j < (c.1 1).toInt.toNat by omega)
      unfold bX bY at f b
      refine okF_gC A ?_ ?_
      · rw [(mvJ_at (by decide)).2 (by omega), show (c.1 (19 + 8 * j + 1) + u).toInt = (c.1 (19 + 8 * j + 1)).toInt + u.toInt from tq_add rfl rfl rfl (by omega) (by omega)]; exact f.1
      · rw [(mvJ_at (by decide)).2 (by omega), show (c.1 (19 + 8 * j + 2) + v).toInt = (c.1 (19 + 8 * j + 2)).toInt + v.toInt from tq_add rfl rfl rfl (by omega) (by omega)]; exact f.2
    · rw [mvJ_n q]; exact A
/-- the cells of the bodies that go -/
def mvI (Q : Nat → Nat → Option Nat) (I I1 : Nat → Nat → Int32) (F : Nat) (g u v : Int32) (n : Nat) : Prop := (∀ b, (∀ i : Nat, i < n → hbt g i = true → ¬ b = fb Q F i) → I1 b = I b) ∧ ∀ i : Nat, i < n → hbt g i = true → I1 (fb Q F i) = upd (upd (I (fb Q F i)) 1 (I (fb Q F i) 1 + u)) 2 (I (fb Q F i) 2 + v)
theorem mvI_0 {Q : Nat → Nat → Option Nat} {I : Nat → Nat → Int32} {F : Nat} {g u v : Int32} : mvI Q I I F g u v 0 := ⟨fun _ _ => rfl, fun i hi => absurd hi (by omega)⟩
theorem mvI_n {Q : Nat → Nat → Option Nat} {I I1 : Nat → Nat → Int32} {F n m : Nat} {g u v : Int32} (h : mvI Q I I1 F g u v n) (hm : m = n + 1) (e : hbt g n = false) : mvI Q I I1 F g u v m := by
  have lt : ∀ i, i < m → hbt g i = true → i < n := fun i hi hb => by
    by_cases q : i = n
    · rw [q, e] at hb; cases hb
    · omega
  exact ⟨fun b hb => h.1 b (fun i hi hg => hb i (by omega) hg), fun i hi hg => h.2 i (lt i hi hg) hg⟩
theorem mvI_y {L : List Nat} {K G : Nat → Nat} {Q : Nat → Nat → Option Nat} {I I1 I2 I3 : Nat → Nat → Int32} {F n m : Nat} {g u v a b : Int32} (hQ : Sv L K G Q) (hL : F ∈ L) (hK : K F = 1) (h : mvI Q I I1 F g u v n) (hm : m = n + 1) (hn : n < 10) (e : hbt g n = true) (e2 : I2 = va_up I1 (fb Q F n) (upd (I1 (fb Q F n)) 1 a)) (ha : a = I1 (fb Q F n) 1 + u) (e3 : I3 = va_up I2 (fb Q F n) (upd (I2 (fb Q F n)) 2 b)) (hb : b = I2 (fb Q F n) 2 + v) : mvI Q I I3 F g u v m := by
  have ne : ∀ i, i < n → ¬ fb Q F n = fb Q F i := fun i hi z => by
    have := fb_inj hQ hL hK hn (show i < 10 by omega) z; omega
  have e0 : I1 (fb Q F n) = I (fb Q F n) := h.1 _ (fun i hi _ => ne i hi)
  refine ⟨fun c hc => ?_, fun i hi hg => ?_⟩
  · have w := hc n (by omega) e
    rw [e3, va_up_ne _ _ w, e2, va_up_ne _ _ w]
    exact h.1 c (fun i hi hg => hc i (by omega) hg)
  · by_cases q : i = n
    · subst q
      rw [e3, va_up_self, hb, e2, va_up_self, ha, e0]
      have e4 : upd (I (fb Q F i)) 1 (I (fb Q F i) 1 + u) 2 = I (fb Q F i) 2 := by simp [upd]
      rw [e4]
    · have w : ¬ fb Q F i = fb Q F n := fun z => ne i (by omega) z.symm
      rw [e3, va_up_ne _ _ w, e2, va_up_ne _ _ w]
      exact h.2 i (by omega) hg
section
variable {L : List Nat} {K G : Nat → Nat} {Q : Nat → Nat → Option Nat} {I I1 : Nat → Nat → Int32} {J : Nat → Nat → Int64} {x F : Nat} {σ : Sx} {c : Fx} {g u v : Int32} {S : Nat → Prop}
theorem cxF_mv (hQ : Sv L K G Q) (hL : F ∈ L) (hK : K F = 1) (ok : okF c) (hS : ∀ o, hbt g o = true ↔ S o) (m : mvI Q I I1 F g u v (c.1 1).toInt.toNat) (h : cxF Q I J F c) : cxF Q I1 J F (mvJ c S u v (c.1 1).toInt.toNat) := by
  obtain ⟨h1, h2, h3, h4, h5⟩ := h
  have n := ok.1
  have n2 := ok.2.1
  have ne : ∀ b, ¬ K b = 0 → I1 b = I b := fun b hb => m.1 b (fun i hi _ z => hb (by rw [z]; exact (fb_g hQ hL hK (by omega)).2.1))
  refine ⟨?_, ?_, ?_, fun i hi => ?_, fun i hi k hk => ?_⟩
  · rw [ne F (by omega), mvJ_lo (by decide)]; exact h1
  · rw [ne F (by omega), mvJ_lo (by decide)]; exact h2
  · rw [ne F (by omega), mvJ_lo (by decide)]; exact h3
  · rw [mvJ_lo (by decide)] at hi
    have gg := fm_g hQ hL hK (show i < 8 by omega)
    have q := h4 i hi
    rw [mvJ_lo (by omega), mvJ_lo (by omega), mvJ_2]
    exact cxM_fr hQ extW_refl gg.1 gg.2.1 (ne _ (by omega)) rfl q
  · rw [mvJ_lo (by decide)] at hi
    have q := mvJ_at (c := c) (S := S) (u := u) (v := v) (j := (c.1 1).toInt.toNat) (i := i) (l := k) hk
    by_cases w : hbt g i = true
    · rw [m.2 i hi w, q.1 hi ((hS i).mp w)]
      unfold upd
      by_cases w2 : k = 2
      · rw [if_pos w2, if_pos w2, h5 i hi 2 (by decide)]
      · rw [if_neg w2, if_neg w2]
        by_cases w1 : k = 1
        · rw [if_pos w1, if_pos w1, h5 i hi 1 (by decide)]
        · rw [if_neg w1, if_neg w1, h5 i hi k hk]
    · rw [q.2 (fun z => w ((hS i).mpr z.2)), m.1 _ (fun j hj hg z => w (by have := fb_inj hQ hL hK (by omega) (by omega) z; rw [this]; exact hg))]
      exact h5 i hi k hk
theorem cxA_mv (hQ : Sv L K G Q) (hL : x ∈ L) (hK : K x = 6) (hS : ∀ o, hbt g o = true ↔ S o) (hf : ∀ o, o < (σ.1.1 1).toInt.toNat → S o → ¬ farB σ.1 o u.toInt v.toInt) (hu : (-400 ≤ u.toInt ∧ u.toInt ≤ 400) ∧ (-400 ≤ v.toInt ∧ v.toInt ≤ 400)) (m : mvI Q I I1 (an Q x) g u v (σ.1.1 1).toInt.toNat) (A : cxA Q I J x σ) : cxA Q I1 J x (mvJ σ.1 S u v (σ.1.1 1).toInt.toNat, σ.2) := by
  have gx := x_g hQ hL hK
  have ok := A.1.1.1
  have n2 := ok.2.1
  have ne : ∀ b, ¬ K b = 0 ∨ ¬ G b = 1 → I1 b = I b := fun b hb => m.1 b (fun i hi _ z => by
    have w := fb_g hQ gx.1.1 gx.1.2.1 (show i < 10 by omega)
    rw [z, w.2.1, w.2.2, gx.1.2.2] at hb; omega)
  refine ⟨cxH_now hQ hL hK (mvJ_ok ok hf hu _ (Nat.le_refl _)) (cxF_mv hQ gx.1.1 gx.1.2.1 ok hS m A.1.1.2) (by rw [ne x (by omega)]) (by rw [ne x (by omega)]) (fun b _ hk hg => ne b (by unfold rg at hg; omega)) (fun _ _ _ _ => rfl) A.1, fun i hi => ?_⟩
  have hi2 : i < (σ.1.1 1).toInt.toNat := by
    have e : (mvJ σ.1 S u v (σ.1.1 1).toInt.toNat).1 1 = σ.1.1 1 := mvJ_lo (by decide)
    have w : i < ((mvJ σ.1 S u v (σ.1.1 1).toInt.toNat).1 1).toInt.toNat := hi
    rw [e] at w; exact w
  have sg := sm_g hQ gx.2.2.2.1 gx.2.2.2.2.1 (show i < 10 by omega)
  have bd := ok.2.2.2 i hi2
  have s := mvJ_sh (c := σ.1) (S := S) (u := u) (v := v) (j := (σ.1.1 1).toInt.toNat) i (by have := bd.1; have := ok.1; omega)
  show cxM Q I1 J (sm Q (se Q x) i) (bw_ (mvJ σ.1 S u v _) i) (bh_ (mvJ σ.1 S u v _) i) (mkw (shp (mvJ σ.1 S u v _) i))
  rw [s.1, s.2.1, s.2.2]
  exact cxM_fr hQ extW_refl sg.1 sg.2.1 (ne _ (by omega)) rfl (A.2 i hi2)
end
-- ---- push: steps
def psX (d n : Int) (k : Nat) : Int := byI ((k : Int) + 1) d n - byI k d n
noncomputable def psC (c : Fx) (b : Nat) (dx dy : Int) (k : Nat) : Fx := itr (fun k d => mvJ d (gR d b (psX dx (stI dx dy) k) (psX dy (stI dx dy) k)) (Int32.ofInt (psX dx (stI dx dy) k)) (Int32.ofInt (psX dy (stI dx dy) k)) (d.1 1).toInt.toNat) c k
theorem psC_0 {c : Fx} {b : Nat} {dx dy : Int} : psC c b dx dy 0 = c := itr_0
theorem psC_s {c : Fx} {b : Nat} {dx dy : Int} {k : Nat} : psC c b dx dy (k + 1) = mvJ (psC c b dx dy k) (gR (psC c b dx dy k) b (psX dx (stI dx dy) k) (psX dy (stI dx dy) k)) (Int32.ofInt (psX dx (stI dx dy) k)) (Int32.ofInt (psX dy (stI dx dy) k)) ((psC c b dx dy k).1 1).toInt.toNat := itr_s
theorem psC_lo {c : Fx} {b : Nat} {dx dy : Int} {k i : Nat} (h : i < 19) : (psC c b dx dy k).1 i = c.1 i := by
  induction k with
  | zero => rw [psC_0]
  | succ k ih => rw [psC_s, mvJ_lo h]; exact ih
def psG (c : Fx) (b : Nat) (dx dy : Int) (k : Nat) : Prop := ∀ o, o < (c.1 1).toInt.toNat → gR (psC c b dx dy k) b (psX dx (stI dx dy) k) (psX dy (stI dx dy) k) o → ¬ farB (psC c b dx dy k) o (psX dx (stI dx dy) k) (psX dy (stI dx dy) k)
def psB (c : Fx) (b : Nat) (dx dy r : Int) : Prop := (0 ≤ r ∧ r ≤ stI dx dy) ∧ (∀ i : Nat, (i : Int) < r → psG c b dx dy i) ∧ (r = stI dx dy ∨ ¬ psG c b dx dy r.toNat)
theorem psB_uq {c : Fx} {b : Nat} {dx dy r s : Int} (h : psB c b dx dy r) (g : psB c b dx dy s) : r = s := by
  rcases Int.lt_trichotomy r s with w | w | w
  · rcases h.2.2 with q | q
    · have := g.1; omega
    · exact absurd (g.2.1 r.toNat (by have := h.1; omega)) q
  · exact w
  · rcases g.2.2 with q | q
    · have := h.1; omega
    · exact absurd (h.2.1 s.toNat (by have := g.1; omega)) q
noncomputable def psN (c : Fx) (b : Nat) (dx dy : Int) : Int := Classical.epsilon (psB c b dx dy)
theorem psN_of {c : Fx} {b : Nat} {dx dy r : Int} (h : psB c b dx dy r) : psN c b dx dy = r := psB_uq (Classical.epsilon_spec ⟨r, h⟩) h
noncomputable def psS (σ : Sx) (b : Nat) (dx dy : Int) (k : Nat) : Sx := if k = 0 then σ else (psC σ.1 b dx dy k, (rem σ).2)
theorem psS_0 {σ : Sx} {b : Nat} {dx dy : Int} : psS σ b dx dy 0 = σ := if_pos rfl
theorem psS_y {σ : Sx} {b : Nat} {dx dy : Int} {k : Nat} (h : ¬ k = 0) : psS σ b dx dy k = (psC σ.1 b dx dy k, (rem σ).2) := if_neg h
theorem psS_1 {σ : Sx} {b : Nat} {dx dy : Int} {k : Nat} : (psS σ b dx dy k).1 = psC σ.1 b dx dy k := by
  by_cases h : k = 0
  · subst h; rw [psS_0, psC_0]
  · rw [psS_y h]
noncomputable def psA (σ : Sx) (b dx dy : Int32) : Int × Sx := haveI : ∀ p : Prop, Decidable p := Classical.propDecidable; if twC σ b dx dy (-200) 200 then (if psN σ.1 b.toInt.toNat dx.toInt dy.toInt = 0 then (-2, σ) else (psN σ.1 b.toInt.toNat dx.toInt dy.toInt, (psC σ.1 b.toInt.toNat dx.toInt dy.toInt (psN σ.1 b.toInt.toNat dx.toInt dy.toInt).toNat, (rem σ).2))) else (-1, σ)
theorem ps_n {σ : Sx} {b dx dy : Int32} (h : ¬ twC σ b dx dy (-200) 200) : psA σ b dx dy = (-1, σ) := by unfold psA; rw [if_neg h]
theorem ps_e {σ : Sx} {b dx dy : Int32} (h : twC σ b dx dy (-200) 200) (e : psN σ.1 b.toInt.toNat dx.toInt dy.toInt = 0) : psA σ b dx dy = (-2, σ) := by unfold psA; rw [if_pos h, if_pos e]
theorem ps_y {σ : Sx} {b dx dy : Int32} (h : twC σ b dx dy (-200) 200) (e : ¬ psN σ.1 b.toInt.toNat dx.toInt dy.toInt = 0) : psA σ b dx dy = (psN σ.1 b.toInt.toNat dx.toInt dy.toInt, (psC σ.1 b.toInt.toNat dx.toInt dy.toInt (psN σ.1 b.toInt.toNat dx.toInt dy.toInt).toNat, (rem σ).2)) := by unfold psA; rw [if_pos h, if_neg e]
theorem psX_b {d n : Int} {k : Nat} (hn : 1 ≤ n) (hk : (k : Int) < n) (hd : -200 ≤ d ∧ d ≤ 200) : -200 ≤ psX d n k ∧ psX d n k ≤ 200 := by
  have a := byI_bt (k := (k : Int) + 1) (d := d) (n := n) hn ⟨by omega, by omega⟩
  have b := byI_bt (k := (k : Int)) (d := d) (n := n) hn ⟨by omega, by omega⟩
  unfold psX
  omega
theorem psX_i {d n : Int} {k : Nat} {z : Int32} (e : z.toInt = psX d n k) : Int32.ofInt (psX d n k) = z := by rw [← e, Int32.ofInt_toInt]
theorem mvI_le {Q : Nat → Nat → Option Nat} {I I1 : Nat → Nat → Int32} {F n N : Nat} {g u v : Int32} (h : mvI Q I I1 F g u v n) (hn : N ≤ n) (hg : ∀ i, hbt g i = true → i < N) : mvI Q I I1 F g u v N := ⟨fun b hb => h.1 b (fun i _ w => hb i (hg i w) w), fun i hi w => h.2 i (by omega) w⟩
theorem psC_n {c : Fx} {b k i : Nat} {dx dy : Int} (h : i < (c.1 1).toInt.toNat) : i < ((psC c b dx dy k).1 1).toInt.toNat := by
  rw [psC_lo (c := c) (b := b) (dx := dx) (dy := dy) (k := k) (i := 1) (by decide)]; exact h
theorem ps_116 {c : Fx} {b k : Nat} {dx dy : Int} {g u v : Int32} {r : Prop} (e1 : u.toInt = psX dx (stI dx dy) k) (e2 : v.toInt = psX dy (stI dx dy) k) (S : ∀ o, hbt g o = true ↔ gR (psC c b dx dy k) b u.toInt v.toInt o) (T : r ↔ ∀ o, o < ((psC c b dx dy k).1 1).toInt.toNat → hbt g o = true → ¬ farB (psC c b dx dy k) o u.toInt v.toInt) : (∀ o, hbt g o = true ↔ gR (psC c b dx dy k) b (psX dx (stI dx dy) k) (psX dy (stI dx dy) k) o) ∧ (r ↔ psG c b dx dy k) := by
  rw [e1, e2] at S T
  refine ⟨S, T.trans ⟨fun h o ho hs => h o (psC_n ho) ((S o).mpr hs), fun h o ho hs => h o (by rw [psC_lo (c := c) (b := b) (dx := dx) (dy := dy) (k := k) (i := 1) (by decide)] at ho; exact ho) ((S o).mp hs)⟩⟩
section
variable {L : List Nat} {K G : Nat → Nat} {Q : Nat → Nat → Option Nat} {I I1 : Nat → Nat → Int32} {J : Nat → Nat → Int64} {x y : Nat} {σ : Sx} {c : Fx} {g u v : Int32}
theorem ps_tg {b k : Nat} {dx dy : Int} (eS : se Q x = y) (A : cxA Q I J x (psS σ b dx dy k)) : okF (psC σ.1 b dx dy k) ∧ cxF Q I J (nf Q y) (psC σ.1 b dx dy k) ∧ cxS Q I J y (psC σ.1 b dx dy k) := by
  have T := cxA_tg A
  rw [psS_1, eS] at T
  exact T
theorem ps_mv {b n k : Nat} {dx dy : Int} {s : Nat × (Nat → Fx) × (Nat → Option Fx)} (hQ : Sv L K G Q) (hL : x ∈ L) (hK : K x = 6) (eS : se Q x = y) (A : cxA Q I J x (psC c b dx dy k, s)) (hb : b < (c.1 1).toInt.toNat) (S : ∀ o, hbt g o = true ↔ gR (psC c b dx dy k) b (psX dx (stI dx dy) k) (psX dy (stI dx dy) k) o) (pg : psG c b dx dy k) (e1 : u.toInt = psX dx (stI dx dy) k) (e2 : v.toInt = psX dy (stI dx dy) k) (bd : (-400 ≤ u.toInt ∧ u.toInt ≤ 400) ∧ (-400 ≤ v.toInt ∧ v.toInt ≤ 400)) (hn : (I (nf Q y) 3).toInt ≤ (n : Int)) (m : mvI Q I I1 (nf Q y) g u v n) : cxA Q I1 J x (psC c b dx dy (k + 1), s) := by
  have f := cxA_nf A
  rw [eS] at f
  rw [f] at m hn
  have en : I (an Q x) 3 = (psC c b dx dy k).1 1 := A.1.1.2.2.1
  rw [en] at hn
  have m2 := mvI_le m (N := ((psC c b dx dy k).1 1).toInt.toNat) (by omega) (fun i hi => gR_lt (psC_n hb) ((S i).mp hi))
  have R := cxA_mv (σ := (psC c b dx dy k, s)) (S := gR (psC c b dx dy k) b (psX dx (stI dx dy) k) (psX dy (stI dx dy) k)) hQ hL hK S (fun o ho hs => by
    rw [e1, e2]
    refine pg o ?_ hs
    have w : o < ((psC c b dx dy k).1 1).toInt.toNat := ho
    rw [psC_lo (c := c) (b := b) (dx := dx) (dy := dy) (k := k) (i := 1) (by decide)] at w
    exact w) bd m2 A
  rw [psC_s, psX_i e1, psX_i e2]
  exact R
end
-- ---- crop
noncomputable def crJ (c : Fx) (S : Nat → Prop) (u v : Nat → Int32) (j : Nat) : Fx := haveI : ∀ p : Prop, Decidable p := Classical.propDecidable; itr (fun j d => if S j then gC d j (u j) (v j) else d) c j
theorem crJ_0 {c : Fx} {S : Nat → Prop} {u v : Nat → Int32} : crJ c S u v 0 = c := itr_0
theorem crJ_y {c : Fx} {S : Nat → Prop} {u v : Nat → Int32} {j : Nat} (h : S j) : crJ c S u v (j + 1) = gC (crJ c S u v j) j (u j) (v j) := by unfold crJ; rw [itr_s]; exact if_pos h
theorem crJ_n {c : Fx} {S : Nat → Prop} {u v : Nat → Int32} {j : Nat} (h : ¬ S j) : crJ c S u v (j + 1) = crJ c S u v j := by
  have e : crJ c S u v (j + 1) = _ := itr_s
  rw [e]; exact if_neg h
theorem crJ_lo {c : Fx} {S : Nat → Prop} {u v : Nat → Int32} {j i : Nat} (h : i < 19) : (crJ c S u v j).1 i = c.1 i := by
  induction j with
  | zero => rw [crJ_0]
  | succ j ih =>
    by_cases q : S j
    · rw [crJ_y q, gC_lo h]; exact ih
    · rw [crJ_n q]; exact ih
theorem crJ_2 {c : Fx} {S : Nat → Prop} {u v : Nat → Int32} {j : Nat} : (crJ c S u v j).2 = c.2 := by
  induction j with
  | zero => rw [crJ_0]
  | succ j ih =>
    by_cases q : S j
    · rw [crJ_y q]; exact ih
    · rw [crJ_n q]; exact ih
theorem crJ_at {c : Fx} {S : Nat → Prop} {u v : Nat → Int32} {j i l : Nat} (hl : l < 8) : (i < j → S i → (crJ c S u v j).1 (19 + 8 * i + l) = if l = 2 then c.1 (19 + 8 * i + 2) + v i else if l = 1 then c.1 (19 + 8 * i + 1) + u i else c.1 (19 + 8 * i + l)) ∧ (¬ (i < j ∧ S i) → (crJ c S u v j).1 (19 + 8 * i + l) = c.1 (19 + 8 * i + l)) := by
  induction j generalizing l with
  | zero => rw [crJ_0]; exact ⟨fun h => absurd h (by omega), fun _ => rfl⟩
  | succ j ih =>
    by_cases q : S j
    · rw [crJ_y q, gC_at hl]
      refine ⟨fun hi hs => ?_, fun hn => ?_⟩
      · by_cases w : i = j
        · subst w
          rw [((ih (l := 2) (by decide)).2 (by omega)), ((ih (l := 1) (by decide)).2 (by omega)), ((ih hl).2 (by omega))]
          by_cases w2 : l = 2
          · rw [if_pos ⟨rfl, w2⟩, if_pos w2]
          · by_cases w1 : l = 1
            · rw [if_neg (fun z => w2 z.2), if_pos ⟨rfl, w1⟩, if_neg w2, if_pos w1]
            · rw [if_neg (fun z => w2 z.2), if_neg (fun z => w1 z.2), if_neg w2, if_neg w1]
        · rw [if_neg (fun z => w z.1), if_neg (fun z => w z.1)]; exact (ih hl).1 (by omega) hs
      · have w : ¬ i = j := fun z => hn (by rw [z]; exact ⟨by omega, q⟩)
        rw [if_neg (fun z => w z.1), if_neg (fun z => w z.1)]
        exact (ih hl).2 (fun z => hn ⟨by omega, z.2⟩)
    · rw [crJ_n q]
      refine ⟨fun hi hs => ?_, fun hn => ?_⟩
      · have w : ¬ i = j := fun z => q (by rw [← z]; exact hs)
        exact (ih hl).1 (by omega) hs
      · by_cases w : i = j
        · exact (ih hl).2 (by omega)
        · exact (ih hl).2 (fun z => hn ⟨by omega, z.2⟩)
theorem crJ_sh {c : Fx} {S : Nat → Prop} {u v : Nat → Int32} {j : Nat} (b : Nat) (hm : (c.1 (19 + 8 * b)).toInt.toNat < 8) : bw_ (crJ c S u v j) b = bw_ c b ∧ bh_ (crJ c S u v j) b = bh_ c b ∧ shp (crJ c S u v j) b = shp c b := by
  have k0 : (crJ c S u v j).1 (19 + 8 * b) = c.1 (19 + 8 * b) := by
    have q := crJ_at (c := c) (S := S) (u := u) (v := v) (j := j) (i := b) (l := 0) (by decide)
    by_cases w : b < j ∧ S b
    · have := q.1 w.1 w.2; simpa using this
    · exact q.2 w
  have k3 : (crJ c S u v j).1 (19 + 8 * b + 3) = c.1 (19 + 8 * b + 3) := by
    have q := crJ_at (c := c) (S := S) (u := u) (v := v) (j := j) (i := b) (l := 3) (by decide)
    by_cases w : b < j ∧ S b
    · have := q.1 w.1 w.2; simpa using this
    · exact q.2 w
  have e1 : bw_ (crJ c S u v j) b = bw_ c b := by unfold bw_; rw [k0, crJ_lo (by omega)]
  have e2 : bh_ (crJ c S u v j) b = bh_ c b := by unfold bh_; rw [k0, crJ_lo (by omega)]
  refine ⟨e1, e2, ?_⟩
  unfold shp
  rw [e1, e2, k0, k3, crJ_2]
theorem crJ_ok {c : Fx} {S : Nat → Prop} {u v : Nat → Int32} (ok : okF c) (h : ∀ o, o < (c.1 1).toInt.toNat → S o → (-999 ≤ (c.1 (19 + 8 * o + 1) + u o).toInt ∧ (c.1 (19 + 8 * o + 1) + u o).toInt ≤ 999) ∧ (-999 ≤ (c.1 (19 + 8 * o + 2) + v o).toInt ∧ (c.1 (19 + 8 * o + 2) + v o).toInt ≤ 999)) (j : Nat) (hj : j ≤ (c.1 1).toInt.toNat) : okF (crJ c S u v j) := by
  induction j with
  | zero => rw [crJ_0]; exact ok
  | succ j ih =>
    have A := ih (by omega)
    by_cases q : S j
    · rw [crJ_y q]
      have f := h j (by omega) q
      refine okF_gC A ?_ ?_
      · rw [(crJ_at (by decide)).2 (by omega)]; exact f.1
      · rw [(crJ_at (by decide)).2 (by omega)]; exact f.2
    · rw [crJ_n q]; exact A
def exB (f : Nat → Int64) (e : Int × Int × Int × Int) : Prop := (∃ y, md f e.1 y = true) ∧ (∃ x, md f x e.2.1 = true) ∧ (∃ y, md f e.2.2.1 y = true) ∧ (∃ x, md f x e.2.2.2 = true) ∧ ∀ x y, md f x y = true → (e.1 ≤ x ∧ x ≤ e.2.2.1) ∧ (e.2.1 ≤ y ∧ y ≤ e.2.2.2)
theorem exB_uq {f : Nat → Int64} {e g : Int × Int × Int × Int} (h : exB f e) (k : exB f g) : e = g := by
  obtain ⟨a, b, c, d⟩ := e
  obtain ⟨a2, b2, c2, d2⟩ := g
  obtain ⟨⟨y1, h1⟩, ⟨x2, h2⟩, ⟨y3, h3⟩, ⟨x4, h4⟩, h5⟩ := h
  obtain ⟨⟨z1, k1⟩, ⟨w2, k2⟩, ⟨z3, k3⟩, ⟨w4, k4⟩, k5⟩ := k
  have p1 := k5 _ _ h1
  have p2 := k5 _ _ h2
  have p3 := k5 _ _ h3
  have p4 := k5 _ _ h4
  have q1 := h5 _ _ k1
  have q2 := h5 _ _ k2
  have q3 := h5 _ _ k3
  have q4 := h5 _ _ k4
  dsimp only at p1 p2 p3 p4 q1 q2 q3 q4
  obtain rfl : a = a2 := by omega
  obtain rfl : b = b2 := by omega
  obtain rfl : c = c2 := by omega
  obtain rfl : d = d2 := by omega
  rfl
noncomputable def exE (f : Nat → Int64) : Int × Int × Int × Int := Classical.epsilon (exB f)
theorem exE_of {f : Nat → Int64} {e : Int × Int × Int × Int} (h : exB f e) : exE f = e := exB_uq (Classical.epsilon_spec ⟨e, h⟩) h
theorem exE_is {f : Nat → Int64} {e : Int × Int × Int × Int} (h : exB f e) : exB f (exE f) := Classical.epsilon_spec ⟨e, h⟩
theorem exB_congr {f g : Nat → Int64} (h : ∀ k, k < 80 → f k = g k) {e : Int × Int × Int × Int} (q : exB f e) : exB g e := by
  have w : ∀ x y, md g x y = md f x y := fun x y => (md_congr h x y).symm
  unfold exB
  simp only [w]
  exact q
theorem exB_msr {f : Nat → Int64} {tot l t r b : Int} (m : msr f tot l t r b) (h : ¬ tot = 0) : exB f (l, t, r, b) := m.2.1 h
theorem exB_in {w h : Int} {f : Nat → Int64} {e : Int × Int × Int × Int} (c : mcl w h f) (q : exB f e) : (0 ≤ e.1 ∧ e.1 ≤ e.2.2.1 ∧ e.2.2.1 < w ∧ e.2.2.1 < 128) ∧ (0 ≤ e.2.1 ∧ e.2.1 ≤ e.2.2.2 ∧ e.2.2.2 < h ∧ e.2.2.2 < 40) := by
  obtain ⟨⟨y1, h1⟩, ⟨x2, h2⟩, ⟨y3, h3⟩, ⟨x4, h4⟩, h5⟩ := q
  have a1 := md_rng h1
  have a2 := md_rng h2
  have a3 := md_rng h3
  have a4 := md_rng h4
  have b3 := c _ _ h3
  have b4 := c _ _ h4
  have c1 := h5 _ _ h1
  have c2 := h5 _ _ h2
  omega
def cutL (fl w l r : Int) : Int := if fl % 2 = 1 then w - 1 - r else l
def cutA (fl h t b : Int) : Int := if 2 ≤ fl then h - 1 - b else t
noncomputable abbrev crE (σ : Sx) (m : Int32) : Int × Int × Int × Int := exE (mF σ m)
noncomputable def crW (σ : Sx) (m : Int32) : Int32 := Int32.ofInt ((crE σ m).2.2.1 - (crE σ m).1 + 1)
noncomputable def crH (σ : Sx) (m : Int32) : Int32 := Int32.ofInt ((crE σ m).2.2.2 - (crE σ m).2.1 + 1)
noncomputable def crF (σ : Sx) (m : Int32) : Nat → Int64 := mkw (cropD (crE σ m).1 (crE σ m).2.1 (crE σ m).2.2.1 (crE σ m).2.2.2 (mF σ m))
def crSt (σ : Sx) (m : Int32) (j : Nat) : Prop := σ.1.1 (19 + 8 * j) = m
noncomputable def crU (σ : Sx) (m : Int32) (j : Nat) : Int32 := Int32.ofInt (cutL (σ.1.1 (19 + 8 * j + 3)).toInt (mW σ m).toInt (crE σ m).1 (crE σ m).2.2.1)
noncomputable def crV (σ : Sx) (m : Int32) (j : Nat) : Int32 := Int32.ofInt (cutA (σ.1.1 (19 + 8 * j + 3)).toInt (mH σ m).toInt (crE σ m).2.1 (crE σ m).2.2.2)
def crFar (σ : Sx) (m : Int32) (j : Nat) : Prop := 999 < bX σ.1 j + (crU σ m j).toInt ∨ 999 < bY σ.1 j + (crV σ m j).toInt
noncomputable def crC (σ : Sx) (m : Int32) (j : Nat) : Fx := crJ σ.1 (crSt σ m) (crU σ m) (crV σ m) j
def crN (σ : Sx) (m : Int32) : Prop := (totr (mF σ m) 40 : Int) = 0 ∨ ((crE σ m).2.2.1 - (crE σ m).1 + 1 = (mW σ m).toInt ∧ (crE σ m).2.2.2 - (crE σ m).2.1 + 1 = (mH σ m).toInt)
noncomputable def crA (σ : Sx) (m : Int32) : Int × Sx := haveI : ∀ p : Prop, Decidable p := Classical.propDecidable; if mK σ m then (if crN σ m then (-2, σ) else if (∃ j : Nat, j < (σ.1.1 1).toInt.toNat ∧ crSt σ m j ∧ crFar σ m j) then (-3, σ) else (((crE σ m).2.2.1 - (crE σ m).1 + 1) * ((crE σ m).2.2.2 - (crE σ m).2.1 + 1), (setM (crC σ m (σ.1.1 1).toInt.toNat) m.toInt.toNat (crW σ m) (crH σ m) (crF σ m), (rem σ).2))) else (-1, σ)
theorem cr_n {σ : Sx} {m : Int32} (h : ¬ mK σ m) : crA σ m = (-1, σ) := by unfold crA; rw [if_neg h]
theorem cr_e {σ : Sx} {m : Int32} (h : mK σ m) (e : crN σ m) : crA σ m = (-2, σ) := by unfold crA; rw [if_pos h, if_pos e]
theorem cr_f {σ : Sx} {m : Int32} (h : mK σ m) (e : ¬ crN σ m) (f : ∃ j : Nat, j < (σ.1.1 1).toInt.toNat ∧ crSt σ m j ∧ crFar σ m j) : crA σ m = (-3, σ) := by unfold crA; rw [if_pos h, if_neg e, if_pos f]
theorem cr_y {σ : Sx} {m : Int32} (h : mK σ m) (e : ¬ crN σ m) (f : ¬ ∃ j : Nat, j < (σ.1.1 1).toInt.toNat ∧ crSt σ m j ∧ crFar σ m j) : crA σ m = (((crE σ m).2.2.1 - (crE σ m).1 + 1) * ((crE σ m).2.2.2 - (crE σ m).2.1 + 1), (setM (crC σ m (σ.1.1 1).toInt.toNat) m.toInt.toNat (crW σ m) (crH σ m) (crF σ m), (rem σ).2)) := by unfold crA; rw [if_pos h, if_neg e, if_neg f]
theorem cropD_congr {l t r b : Int} {f g : Nat → Int64} (e : ∀ k, k < 80 → f k = g k) : cropD l t r b f = cropD l t r b g := by
  funext x y
  unfold cropD
  rw [md_congr e]
/-- what a mask with dots gives -/
def crI (σ : Sx) (m : Int32) : Prop := ((0 ≤ (crE σ m).1 ∧ (crE σ m).1 ≤ (crE σ m).2.2.1 ∧ (crE σ m).2.2.1 < (mW σ m).toInt ∧ (mW σ m).toInt ≤ 100) ∧ (0 ≤ (crE σ m).2.1 ∧ (crE σ m).2.1 ≤ (crE σ m).2.2.2 ∧ (crE σ m).2.2.2 < (mH σ m).toInt ∧ (mH σ m).toInt ≤ 40)) ∧ (crW σ m).toInt = (crE σ m).2.2.1 - (crE σ m).1 + 1 ∧ (crH σ m).toInt = (crE σ m).2.2.2 - (crE σ m).2.1 + 1 ∧ okm (crW σ m).toInt (crH σ m).toInt (crF σ m)
theorem crI_of {σ : Sx} {m : Int32} (o : okm (mW σ m).toInt (mH σ m).toInt (mF σ m)) (e : exB (mF σ m) (crE σ m)) : crI σ m := by
  have b := exB_in o.2.2 e
  have w1 := o.1
  have w2 := o.2.1
  have e1 : (crW σ m).toInt = (crE σ m).2.2.1 - (crE σ m).1 + 1 := by unfold crW; exact Int32.toInt_ofInt_of_le (by omega) (by omega)
  have e2 : (crH σ m).toInt = (crE σ m).2.2.2 - (crE σ m).2.1 + 1 := by unfold crH; exact Int32.toInt_ofInt_of_le (by omega) (by omega)
  refine ⟨⟨⟨by omega, by omega, by omega, by omega⟩, by omega, by omega, by omega, by omega⟩, e1, e2, ?_⟩
  exact okm_mk (by omega) (by omega) (fun x y q => by rw [e1, e2]; exact cropD_in rfl rfl x y q)
theorem crU_i {σ : Sx} {m : Int32} (h : crI σ m) (j : Nat) : (crU σ m j).toInt = cutL (σ.1.1 (19 + 8 * j + 3)).toInt (mW σ m).toInt (crE σ m).1 (crE σ m).2.2.1 ∧ 0 ≤ (crU σ m j).toInt ∧ (crU σ m j).toInt ≤ 100 := by
  have b := h.1.1
  have q : 0 ≤ cutL (σ.1.1 (19 + 8 * j + 3)).toInt (mW σ m).toInt (crE σ m).1 (crE σ m).2.2.1 ∧ cutL (σ.1.1 (19 + 8 * j + 3)).toInt (mW σ m).toInt (crE σ m).1 (crE σ m).2.2.1 ≤ 100 := by
    unfold cutL
    split <;> omega
  have e : (crU σ m j).toInt = _ := Int32.toInt_ofInt_of_le (n := cutL (σ.1.1 (19 + 8 * j + 3)).toInt (mW σ m).toInt (crE σ m).1 (crE σ m).2.2.1) (by omega) (by omega)
  rw [e]
  exact ⟨rfl, q⟩
theorem crV_i {σ : Sx} {m : Int32} (h : crI σ m) (j : Nat) : (crV σ m j).toInt = cutA (σ.1.1 (19 + 8 * j + 3)).toInt (mH σ m).toInt (crE σ m).2.1 (crE σ m).2.2.2 ∧ 0 ≤ (crV σ m j).toInt ∧ (crV σ m j).toInt ≤ 100 := by
  have b := h.1.2
  have q : 0 ≤ cutA (σ.1.1 (19 + 8 * j + 3)).toInt (mH σ m).toInt (crE σ m).2.1 (crE σ m).2.2.2 ∧ cutA (σ.1.1 (19 + 8 * j + 3)).toInt (mH σ m).toInt (crE σ m).2.1 (crE σ m).2.2.2 ≤ 100 := by
    unfold cutA
    split <;> omega
  have e : (crV σ m j).toInt = _ := Int32.toInt_ofInt_of_le (n := cutA (σ.1.1 (19 + 8 * j + 3)).toInt (mH σ m).toInt (crE σ m).2.1 (crE σ m).2.2.2) (by omega) (by omega)
  rw [e]
  exact ⟨rfl, q⟩
theorem crC_0 {σ : Sx} {m : Int32} : crC σ m 0 = σ.1 := crJ_0
theorem crC_n {σ : Sx} {m : Int32} {j : Nat} (h : ¬ crSt σ m j) : crC σ m (j + 1) = crC σ m j := crJ_n h
theorem crC_lo {σ : Sx} {m : Int32} {j i : Nat} (h : i < 19) : (crC σ m j).1 i = σ.1.1 i := crJ_lo h
theorem crC_nn {σ : Sx} {m : Int32} {i j : Nat} (h : i < (σ.1.1 1).toInt.toNat) : i < ((crC σ m j).1 1).toInt.toNat := by
  rw [crC_lo (σ := σ) (m := m) (j := j) (i := 1) (by decide)]; exact h
theorem crC_at {σ : Sx} {m : Int32} {j i l : Nat} (hl : l < 8) (hi : j ≤ i) : (crC σ m j).1 (19 + 8 * i + l) = σ.1.1 (19 + 8 * i + l) := (crJ_at hl).2 (by omega)
section
variable {L : List Nat} {K G : Nat → Nat} {Q : Nat → Nat → Option Nat} {I I1 I2 : Nat → Nat → Int32} {J J1 : Nat → Nat → Int64} {x a s : Nat} {σ : Sx} {m : Int32}
theorem cr_fin (A : cxA Q I J x σ) (hm : mK σ m) (ea : fm Q (an Q x) m.toInt.toNat = a) (hn : ¬ (I a 3).toInt = 0) (hj : okm (I a 0).toInt (I a 1).toInt (J (wo Q a)) → msr (J (wo Q a)) (I a 3).toInt (I a 4).toInt (I a 5).toInt (I a 6).toInt (I a 7).toInt → ((I a 3).toInt = 0 → mkd Q I1 J1 s (I a 0) (I a 1) (md (J (wo Q a)))) ∧ (¬ (I a 3).toInt = 0 → (I1 s 0).toInt = (I a 6).toInt - (I a 4).toInt + 1 ∧ (I1 s 1).toInt = (I a 7).toInt - (I a 5).toInt + 1 ∧ mkd Q I1 J1 s (I1 s 0) (I1 s 1) (cropD (I a 4).toInt (I a 5).toInt (I a 6).toInt (I a 7).toInt (J (wo Q a))))) : crE σ m = ((I a 4).toInt, (I a 5).toInt, (I a 6).toInt, (I a 7).toInt) ∧ crI σ m ∧ I1 s 0 = crW σ m ∧ I1 s 1 = crH σ m ∧ cxM Q I1 J1 s (crW σ m) (crH σ m) (crF σ m) := by
  obtain ⟨c, o⟩ := cxA_m A hm
  rw [ea] at c
  have ok := cxM_ok c o
  obtain ⟨r1, r2, r3⟩ := (hj ok.1 ok.2).2 hn
  have eb : exB (mF σ m) ((I a 4).toInt, (I a 5).toInt, (I a 6).toInt, (I a 7).toInt) := exB_congr c.2.2.1 (exB_msr ok.2 hn)
  have e : crE σ m = ((I a 4).toInt, (I a 5).toInt, (I a 6).toInt, (I a 7).toInt) := exE_of eb
  have ci : crI σ m := crI_of o (by rw [e]; exact eb)
  have e0 : I1 s 0 = crW σ m := Int32.toInt_inj.mp (by rw [ci.2.1, e]; exact r1)
  have e1 : I1 s 1 = crH σ m := Int32.toInt_inj.mp (by rw [ci.2.2.1, e]; exact r2)
  refine ⟨e, ci, e0, e1, ?_⟩
  have M := cxM_mk r3
  rw [e0, e1, cropD_congr c.2.2.1] at M
  unfold crF
  rw [e]
  exact M
theorem crC_fit {j : Nat} (ok : okF σ.1) (ci : crI σ m) (hj : j < (σ.1.1 1).toInt.toNat) (hf : ¬ crFar σ m j) : (-999 ≤ (σ.1.1 (19 + 8 * j + 1) + crU σ m j).toInt ∧ (σ.1.1 (19 + 8 * j + 1) + crU σ m j).toInt ≤ 999) ∧ (-999 ≤ (σ.1.1 (19 + 8 * j + 2) + crV σ m j).toInt ∧ (σ.1.1 (19 + 8 * j + 2) + crV σ m j).toInt ≤ 999) := by
  have b := bXY ok hj
  have u := (crU_i ci j).2
  have v := (crV_i ci j).2
  unfold crFar at hf
  unfold bX bY at hf b
  rw [show (σ.1.1 (19 + 8 * j + 1) + crU σ m j).toInt = (σ.1.1 (19 + 8 * j + 1)).toInt + (crU σ m j).toInt from tq_add rfl rfl rfl (by omega) (by omega), show (σ.1.1 (19 + 8 * j + 2) + crV σ m j).toInt = (σ.1.1 (19 + 8 * j + 2)).toInt + (crV σ m j).toInt from tq_add rfl rfl rfl (by omega) (by omega)]
  omega
theorem crC_ok {j : Nat} (ok : okF σ.1) (ci : crI σ m) (hf : ∀ o, o < (σ.1.1 1).toInt.toNat → crSt σ m o → ¬ crFar σ m o) (hj : j ≤ (σ.1.1 1).toInt.toNat) : okF (crC σ m j) := crJ_ok ok (fun o ho hs => crC_fit ok ci ho (hf o ho hs)) j hj
theorem cr_step {B j : Nat} {z1 z2 : Int32} {st : Nat × (Nat → Fx) × (Nat → Option Fx)} (hQ : Sv L K G Q) (hL : x ∈ L) (hK : K x = 6) (ok : okF σ.1) (ci : crI σ m) (hj : j < (σ.1.1 1).toInt.toNat) (hs : crSt σ m j) (hf : ¬ crFar σ m j) (eB : fb Q (an Q x) j = B) (e1 : I1 = va_up I B (upd (I B) 1 z1)) (ez1 : z1 = I B 1 + crU σ m j) (e2 : I2 = va_up I1 B (upd (I1 B) 2 z2)) (ez2 : z2 = I1 B 2 + crV σ m j) (A : cxA Q I J x (crC σ m j, st)) : cxA Q I2 J x (crC σ m (j + 1), st) := by
  have f := crC_fit ok ci hj hf
  have q : crC σ m (j + 1) = gC (crC σ m j) j (crU σ m j) (crV σ m j) := crJ_y hs
  rw [q]
  refine cxA_go (σ := (crC σ m j, st)) (I := I) hQ hL hK A (crC_nn hj) ?_ ?_ eB ⟨I1, by rw [e1, ez1], by rw [e2, ez2, e1, rz_fr _ _ _ _ (by decide)]⟩
  · show -999 ≤ ((crC σ m j).1 (19 + 8 * j + 1) + _).toInt ∧ ((crC σ m j).1 (19 + 8 * j + 1) + _).toInt ≤ 999
    rw [crC_at (by decide) (Nat.le_refl _)]; exact f.1
  · show -999 ≤ ((crC σ m j).1 (19 + 8 * j + 2) + _).toInt ∧ ((crC σ m j).1 (19 + 8 * j + 2) + _).toInt ≤ 999
    rw [crC_at (by decide) (Nat.le_refl _)]; exact f.2
end
theorem mul_sm {a b : Int32} (ha : 0 ≤ a.toInt ∧ a.toInt ≤ 200) (hb : 0 ≤ b.toInt ∧ b.toInt ≤ 200) : (a * b).toInt = a.toInt * b.toInt := by
  have h1 : 0 ≤ a.toInt * b.toInt := Int.mul_nonneg ha.1 hb.1
  have h2 : a.toInt * b.toInt ≤ 200 * b.toInt := Int.mul_le_mul_of_nonneg_right ha.2 hb.1
  exact tq_mul rfl rfl rfl (by omega) (by omega)
-- ---- the reference: rows moved, laid, held on one another
theorem lo_64 {low high : Int64} {c : Int32} (h : c.toInt = -64) : ∀ i : Nat, i < 64 → b64 high i = dt low high ((i : Int) - c.toInt) := fun i hi => by
  rw [h, dt_b (by omega), show ((i : Int) - -64).toNat - 64 = i by omega]
theorem tp_0 {low high : Int64} {c : Int32} (h : c.toInt = 0) : ∀ i : Nat, i < 64 → b64 high i = dt low high ((i : Int) + 64 - c.toInt) := fun i hi => by
  rw [h, dt_b (by omega), show ((i : Int) + 64 - 0).toNat - 64 = i by omega]
theorem tp_64 {low high : Int64} {c : Int32} (h : c.toInt = 64) : ∀ i : Nat, i < 64 → b64 low i = dt low high ((i : Int) + 64 - c.toInt) := fun i hi => by
  rw [h, dt_a (by omega) (by omega), show ((i : Int) + 64 - 64).toNat = i by omega]
theorem tp_a {low high z1 z2 z3 : Int64} {c k : Int32} (e1 : z1 = high <<< (c.toInt64 &&& 63)) (bk : k.toInt = 64 - c.toInt) (e2 : z2 = (low.toUInt64 >>> (k.toInt64.toUInt64 &&& Int64.toUInt64 63)).toInt64) (e3 : z3 = z1 ||| z2) (h : 0 < c.toInt) (h2 : c.toInt < 64) : ∀ i : Nat, i < 64 → b64 z3 i = dt low high ((i : Int) + 64 - c.toInt) := fun i hi => by
  rw [b64_or e3, b64_shl e1 (k := c.toInt.toNat) (by omega) (by omega), b64_shr e2 (k := k.toInt.toNat) (by omega) (by omega)]
  rcases Nat.lt_or_ge i c.toInt.toNat with q | q
  · rw [dt_a (by omega) (by omega)]
    simp only [hi, q, decide_true, Bool.not_true, Bool.and_false, Bool.false_and, Bool.false_or]
    congr 1; omega
  · rw [dt_b (by omega), b64_ge (x := low) (by omega)]
    simp only [hi, show ¬ i < c.toInt.toNat by omega, decide_true, decide_false, Bool.not_false, Bool.true_and, Bool.or_false]
    congr 1; omega
def rI (Q : Nat → Nat → Option Nat) (I : Nat → Nat → Int32) (p : Nat) (c : Fx) : Prop := ∀ k, k < 99 → I (a0 Q p 0) k = c.1 k
def rJ (Q : Nat → Nat → Option Nat) (J : Nat → Nat → Int64) (p : Nat) (c : Fx) : Prop := ∀ k, k < 640 → J (a0 Q p 5) k = c.2 k
def ldA (Q : Nat → Nat → Option Nat) (J : Nat → Nat → Int64) (p : Nat) (c : Fx) : Prop := ∀ b : Nat, b < (c.1 1).toInt.toNat → ∀ k : Nat, (k : Int) < 2 * (bh_ c b).toInt → J (a0 Q p 17) (80 * b + k) = mkw (shp c b) k
theorem cmA_rI {Q : Nat → Nat → Option Nat} {I : Nat → Nat → Int32} {J : Nat → Nat → Int64} {m : Nat} {σ : Sx} (A : cmA Q I J m σ) : rI Q I m σ.1 := fun k hk => cmA_n A hk
theorem cmA_rJ {Q : Nat → Nat → Option Nat} {I : Nat → Nat → Int32} {J : Nat → Nat → Int64} {m : Nat} {σ : Sx} (A : cmA Q I J m σ) : rJ Q J m σ.1 := fun k hk => by have q := A.1.2 k hk; rw [show 640 * 0 + k = k by omega] at q; exact q
/-- the same but for places and moves -/
def shE (c d : Fx) : Prop := d.1 1 = c.1 1 ∧ ∀ b : Nat, b < (c.1 1).toInt.toNat → bw_ d b = bw_ c b ∧ bh_ d b = bh_ c b ∧ shp d b = shp c b
theorem shE_r (c : Fx) : shE c c := ⟨rfl, fun _ _ => ⟨rfl, rfl, rfl⟩⟩
theorem shE_t {c d e : Fx} (h : shE c d) (g : shE d e) : shE c e := ⟨g.1.trans h.1, fun b hb => by
  have p := h.2 b hb
  have q := g.2 b (by rw [h.1]; exact hb)
  exact ⟨q.1.trans p.1, q.2.1.trans p.2.1, q.2.2.trans p.2.2⟩⟩
theorem ldA_sh {Q : Nat → Nat → Option Nat} {J : Nat → Nat → Int64} {p : Nat} {c d : Fx} (h : shE c d) (l : ldA Q J p c) : ldA Q J p d := fun b hb k hk => by
  rw [h.1] at hb
  have q := h.2 b hb
  rw [q.2.1] at hk
  rw [q.2.2]
  exact l b hb k hk
theorem ldA_fr {Q : Nat → Nat → Option Nat} {J J1 : Nat → Nat → Int64} {p : Nat} {c : Fx} (e : J1 (a0 Q p 17) = J (a0 Q p 17)) (l : ldA Q J p c) : ldA Q J1 p c := fun b hb k hk => by rw [e]; exact l b hb k hk
theorem setB_sh {c : Fx} {b k : Nat} {v : Int32} (ok : okF c) (hk : k < 8) (h0 : ¬ k = 0) (h3 : ¬ k = 3) : shE c (setB c b k v) := ⟨setB_lo (by decide), fun i hi => by
  have bd := (ok.2.2.2 i hi).1
  have n := ok.1
  have e0 : (setB c b k v).1 (19 + 8 * i) = c.1 (19 + 8 * i) := by
    have q := setB_at (c := c) (b := b) (v := v) (j := i) (l := 0) hk (by decide)
    rw [if_neg (by omega)] at q; exact q
  have e3 : (setB c b k v).1 (19 + 8 * i + 3) = c.1 (19 + 8 * i + 3) := by
    have q := setB_at (c := c) (b := b) (v := v) (j := i) (l := 3) hk (by decide)
    rw [if_neg (by omega)] at q; exact q
  have a1 : bw_ (setB c b k v) i = bw_ c i := by unfold bw_; rw [e0, setB_lo (by omega)]
  have a2 : bh_ (setB c b k v) i = bh_ c i := by unfold bh_; rw [e0, setB_lo (by omega)]
  refine ⟨a1, a2, ?_⟩
  unfold shp
  rw [a1, a2, e0, e3]; rfl⟩
theorem gC_sh {c : Fx} {b : Nat} {u v : Int32} (ok : okF c) (h1 : -999 ≤ (c.1 (19 + 8 * b + 1) + u).toInt ∧ (c.1 (19 + 8 * b + 1) + u).toInt ≤ 999) : shE c (gC c b u v) := by
  unfold gC
  exact shE_t (setB_sh ok (by decide) (by decide) (by decide)) (setB_sh (okF_body ok (by decide) (by unfold vok; omega)) (by decide) (by decide) (by decide))
theorem slC_sh {c : Fx} {b : Nat} {dx dy : Int} (ok : okF c) (hb : b < (c.1 1).toInt.toNat) : shE c (slC c b dx dy) := by
  have q := slC_in (dx := dx) (dy := dy) ok hb
  have r := sld_in ok hb (slN_is c b dx dy)
  unfold slC
  exact gC_sh ok (by rw [q.2.2.1]; exact r.1)
theorem mvJ_shE {c : Fx} {S : Nat → Prop} {u v : Int32} {j : Nat} (ok : okF c) : shE c (mvJ c S u v j) := ⟨mvJ_lo (by decide), fun b hb => mvJ_sh b (by have := (ok.2.2.2 b hb).1; have := ok.1; omega)⟩
theorem u2_shE {c : Fx} {v : Int32} : shE c (u2 c v) := ⟨u2_at (by decide), fun b _ => u2_sh b⟩
theorem row_l {a low hi z1 z2 : Int64} {c : Int} (e1 : ∀ i : Nat, i < 64 → b64 z1 i = dt low hi ((i : Int) - c)) (e2 : z2 = a &&& z1) : ¬ z2 = 0 ↔ ∃ i : Nat, i < 64 ∧ b64 a i = true ∧ dt low hi ((i : Int) - c) = true := by
  constructor
  · intro q
    obtain ⟨t, l1, l2, -⟩ := low_ex q
    rw [b64_and e2, e1 t l1, Bool.and_eq_true] at l2
    exact ⟨t, l1, l2.1, l2.2⟩
  · rintro ⟨i, l1, l2, l3⟩ q
    have w : b64 z2 i = true := by rw [b64_and e2, e1 i l1, l2, l3]; rfl
    rw [q, b64_0] at w; cases w
theorem nov_0r {f g : Nat → Int64} {dx dy y : Int} (h : y ≤ 0 ∨ y ≤ dy) : nov f g dx dy y := fun X Y hY ⟨a, b⟩ => by
  have p := md_rng a
  have q := md_rng b
  omega
theorem nov_er {f g : Nat → Int64} {w0 h0 w1 h1 dx dy y : Int} (c0 : mcl w0 h0 f) (c1 : mcl w1 h1 g) (n : nov f g dx dy y) (h : h0 ≤ y ∨ h1 + dy ≤ y) : ¬ ovl f g dx dy := fun ⟨X, Y, a, b⟩ => by
  have p := c0 _ _ a
  have q := c1 _ _ b
  exact n X Y (by omega) ⟨a, b⟩
theorem nbz {z : Int64} {r : Int32} (e : r.toInt = (nbit z.toBitVec.toNat 64 : Int)) : 0 ≤ r.toInt ∧ (r.toInt = 0 ↔ z = 0) := by
  have q : (nbit z.toBitVec.toNat 64 : Int) = 0 ↔ z = 0 := by
    constructor
    · intro h; exact nb_0.mp (by unfold nb; omega)
    · intro h; have := nb_0.mpr h; unfold nb at this; omega
  rw [e]
  exact ⟨by omega, q⟩
/-- a row of the loop over rows on one another -/
def ovI (f g : Nat → Int64) (dx dy : Int) (n y : Int) : Prop := (0 ≤ n ∧ n ≤ 128 * y) ∧ (n = 0 → nov f g dx dy y) ∧ (0 < n → ovl f g dx dy)
theorem ovI_0 {f g : Nat → Int64} {dx dy y : Int} (h : y = max 0 dy) : ovI f g dx dy 0 y := ⟨⟨by omega, by omega⟩, fun _ => nov_0r (by omega), fun q => absurd q (by omega)⟩
theorem ovI_s {f g : Nat → Int64} {dx dy n n1 y y1 : Int} {r k : Nat} {a b lo hi z1 z2 w1 w2 : Int64} {c1 c2 : Int32} (h : ovI f g dx dy n y) (hy : y1 = y + 1) (hr : (r : Int) = y) (hk : (k : Int) = y - dy) (h40 : r < 40) (k40 : k < 40) (ha : a = f (2 * r)) (hb : b = f (2 * r + 1)) (hl : lo = g (2 * k)) (hh : hi = g (2 * k + 1)) (e1 : ∀ i : Nat, i < 64 → b64 z1 i = dt lo hi ((i : Int) - dx)) (e2 : w1 = a &&& z1) (e3 : ∀ i : Nat, i < 64 → b64 z2 i = dt lo hi ((i : Int) + 64 - dx)) (e4 : w2 = b &&& z2) (b1 : c1.toInt = (nbit w1.toBitVec.toNat 64 : Int)) (b2 : c2.toInt = (nbit w2.toBitVec.toNat 64 : Int)) (m1 : c1.toInt ≤ 64) (m2 : c2.toInt ≤ 64) (hn : n1 = n + c1.toInt + c2.toInt) : ovI f g dx dy n1 y1 := by
  obtain ⟨⟨n0, n2⟩, g1, g2⟩ := h
  obtain ⟨p1, q1⟩ := nbz b1
  obtain ⟨p2, q2⟩ := nbz b2
  have r1 := row_l e1 e2
  have r2 := row_hi e3 e4
  refine ⟨⟨by omega, by omega⟩, fun q => ?_, fun q => ?_⟩
  · exact nov_step (g1 (by omega)) hy hr hk h40 k40 ha hb hl hh (fun _ e => r1.mpr e (q1.mp (by omega))) (fun e => r2.mpr e (q2.mp (by omega)))
  · by_cases w : 0 < n
    · exact g2 w
    · by_cases w1 : c1.toInt = 0
      · exact ov_hi hr hk h40 k40 ha hb hl hh (r2.mp (fun z => by have := q2.mpr z; omega))
      · exact ov_lo hr hk h40 k40 ha hb hl hh (r1.mp (fun z => w1 (q1.mpr z)))
theorem ovI_e {f g : Nat → Int64} {w0 h0 w1 h1 dx dy n y : Int} (h : ovI f g dx dy n y) (c0 : mcl w0 h0 f) (c1 : mcl w1 h1 g) (e : 0 < n ∨ h0 ≤ y ∨ h1 + dy ≤ y) : 0 < n ↔ ovl f g dx dy := by
  refine ⟨h.2.2, fun o => ?_⟩
  rcases e with e | e
  · exact e
  · apply Classical.byContradiction
    intro w
    exact nov_er c0 c1 (h.2.1 (by have := h.1; omega)) e o
/-- words of a row out of its dots -/
theorem mkw_row {D : Int → Int → Bool} {a b : Int64} {y : Nat} (hy : y < 40) (h : ∀ x : Int, 0 ≤ x → x < 128 → dt a b x = D x (y : Int)) : a = mkw D (2 * y) ∧ b = mkw D (2 * y + 1) := by
  have q : ∀ x : Int, 0 ≤ x → x < 128 → dt (mkw D (2 * y)) (mkw D (2 * y + 1)) x = D x (y : Int) := fun x h0 h1 => by
    have w := mkw_md (D := D) h0 h1 (y := (y : Int)) (by omega) (by omega)
    rw [md_in (by omega) (by omega), Int.toNat_natCast] at w
    exact w
  constructor
  · apply b64_ext
    intro i hi
    rw [b64_dt (b := b) hi, b64_dt (b := mkw D (2 * y + 1)) hi, h _ (by omega) (by omega), q _ (by omega) (by omega)]
  · apply b64_ext
    intro i hi
    rw [b64_dh (a := a), b64_dh (a := mkw D (2 * y)), h _ (by omega) (by omega), q _ (by omega) (by omega)]
/-- a row turned round, dot by dot -/
def rvI (w : Int) (P : Int → Bool) (lo hi : Int64) (x0 : Int) : Prop := ∀ X : Int, dt lo hi X = (decide (0 ≤ X ∧ X < w ∧ w - 1 - X < x0) && P (w - 1 - X))
theorem rvI_0 {w : Int} {P : Int → Bool} : rvI w P 0 0 0 := fun X => by rw [dt_z, decide_eq_false (by omega)]; rfl
theorem b64_bit {a z t : Int64} {k : Nat} {c : Int32} (e1 : z = a >>> (c.toInt64 &&& 63)) (hc : c.toInt = (k : Int)) (hk : k < 64) (e2 : t = z &&& 1) (i : Nat) : b64 t i = (decide (i = 0) && b64 a k) := by
  have h1 : b64 1 i = decide (i = 0) := by
    unfold b64
    rw [show (1 : Int64).toBitVec = 1#64 from rfl, BitVec.getLsbD_one]
    simp
  rw [b64_and e2, h1]
  by_cases q : i = 0
  · subst q; rw [b64_sar e1 hc hk]; simp
  · simp [q]
theorem rvI_s {w x0 x1 t : Int} {P : Int → Bool} {bt lo hi lo1 hi1 u v : Int64} {c d : Int32} (h : rvI w P lo hi x0) (hx : x1 = x0 + 1) (h0 : 0 ≤ x0 ∧ x0 < w) (hw : w ≤ 128) (ht : t = w - 1 - x0) (hb : ∀ i : Nat, b64 bt i = (decide (i = 0) && P x0)) (hu : (t < 64 → c.toInt = t ∧ u = bt <<< (c.toInt64 &&& 63)) ∧ (64 ≤ t → u = 0)) (hv : (t < 64 → v = 0) ∧ (64 ≤ t → d.toInt = t - 64 ∧ v = bt <<< (d.toInt64 &&& 63))) (e1 : lo1 = lo ||| u) (e2 : hi1 = hi ||| v) : rvI w P lo1 hi1 x1 := fun X => by
  have s : dt u v X = (decide (X = t) && P x0) := by
    have lu : ∀ i : Nat, i < 64 → b64 u i = (decide ((i : Int) = t) && P x0) := fun i hi => by
      by_cases q : t < 64
      · obtain ⟨a1, a2⟩ := hu.1 q
        rw [b64_shl a2 (k := t.toNat) (by omega) (by omega), hb]
        by_cases z : (i : Int) = t
        · rw [decide_eq_true z]; simp [hi, show ¬ i < t.toNat by omega, show i - t.toNat = 0 by omega]
        · rw [decide_eq_false z]
          by_cases z2 : i < t.toNat
          · simp [z2]
          · simp [show ¬ i - t.toNat = 0 by omega]
      · rw [hu.2 (by omega), b64_0, decide_eq_false (by omega)]; rfl
    have lv : ∀ i : Nat, i < 64 → b64 v i = (decide ((i : Int) + 64 = t) && P x0) := fun i hi => by
      by_cases q : t < 64
      · rw [hv.1 q, b64_0, decide_eq_false (by omega)]; rfl
      · obtain ⟨a1, a2⟩ := hv.2 (by omega)
        rw [b64_shl a2 (k := (t - 64).toNat) (by omega) (by omega), hb]
        by_cases z : (i : Int) + 64 = t
        · rw [decide_eq_true z]; simp [hi, show ¬ i < (t - 64).toNat by omega, show i - (t - 64).toNat = 0 by omega]
        · rw [decide_eq_false z]
          by_cases z2 : i < (t - 64).toNat
          · simp [z2]
          · simp [show ¬ i - (t - 64).toNat = 0 by omega]
    rcases Int.lt_or_le X 0 with a | a
    · rw [dt_lo a, decide_eq_false (by omega)]; rfl
    · rcases Int.lt_or_le X 64 with b | b
      · rw [dt_a a b, lu _ (by omega), show ((X.toNat : Nat) : Int) = X by omega]
      · rcases Int.lt_or_le X 128 with c3 | c3
        · rw [dt_b b, lv _ (by omega), show ((X.toNat - 64 : Nat) : Int) + 64 = X by omega]
        · rw [dt_hi c3, decide_eq_false (by omega)]; rfl
  rw [dt_or e1 e2, h X, s]
  by_cases q : X = t
  · rw [decide_eq_true q, decide_eq_false (by omega), decide_eq_true (by omega), show w - 1 - X = x0 by omega]; rfl
  · rw [decide_eq_false q, Bool.false_and, Bool.or_false]
    congr 1
    exact decide_eq_decide.mpr (by omega)
theorem rvI_e {w x0 : Int} {P : Int → Bool} {lo hi : Int64} (h : rvI w P lo hi x0) (hx : w ≤ x0) (X : Int) : dt lo hi X = (decide (0 ≤ X ∧ X < w) && P (w - 1 - X)) := by
  rw [h X]; congr 1; exact decide_eq_decide.mpr (by omega)
theorem bh40 {c : Fx} {b : Nat} (ok : okF c) (hb : b < (c.1 1).toInt.toNat) : 1 ≤ (bh_ c b).toInt ∧ (bh_ c b).toInt ≤ 40 := (okm_shp ok hb).2.1
theorem tgo_s {T : Nat → Prop} {v z w r : Int32} {i N : Nat} (g1 : ∀ o : Nat, o < i → o < N → (hbt v o = true ↔ T o)) (g2 : ∀ o : Nat, i ≤ o → hbt v o = false) (t : ¬ r.toInt = 0 ↔ T i) (h : (r.toInt = 0 ∧ w = 0) ∨ (¬ r.toInt = 0 ∧ ∀ o, hbt w o = decide (o = i))) (e : z = v ||| w) : (∀ o : Nat, o < i + 1 → o < N → (hbt z o = true ↔ T o)) ∧ ∀ o : Nat, i + 1 ≤ o → hbt z o = false := by
  have k : ∀ o, hbt z o = (hbt v o || hbt w o) := hb_or e
  rcases h with ⟨a, b⟩ | ⟨a, b⟩
  · have k2 : ∀ o, hbt z o = hbt v o := fun o => by rw [k, b, hb_0, Bool.or_false]
    refine ⟨fun o ho hN => ?_, fun o ho => by rw [k2]; exact g2 o (by omega)⟩
    by_cases q : o = i
    · subst q
      rw [k2, g2 o (Nat.le_refl _)]
      exact ⟨fun z => absurd z (by decide), fun z => absurd a (t.mpr z)⟩
    · rw [k2]; exact g1 o (by omega) hN
  · refine ⟨fun o ho hN => ?_, fun o ho => by rw [k, b, g2 o (by omega), decide_eq_false (by omega)]; rfl⟩
    by_cases q : o = i
    · subst q
      rw [k, b]
      exact ⟨fun _ => t.mp a, fun _ => by simp⟩
    · rw [k, b, decide_eq_false q, Bool.or_false]; exact g1 o (by omega) hN
theorem ly_row {c : Fx} {b y : Nat} {d : Nat → Int64} {m fl wd h row : Int32} {lo hi : Int64} (ok : okF c) (hb : b < (c.1 1).toInt.toNat) (hy : (y : Int) < (bh_ c b).toInt) (hd : ∀ k, k < 640 → d k = c.2 k) (em : m = c.1 (19 + 8 * b)) (ef : fl = c.1 (19 + 8 * b + 3)) (ew : wd = bw_ c b) (eh : h = bh_ c b) (hr : row.toInt = fly h.toInt fl.toInt (y : Int)) (g : (fl.toInt % 2 = 1 → ∀ X : Int, dt lo hi X = (decide (0 ≤ X ∧ X < wd.toInt) && md (mo d m.toInt.toNat) (wd.toInt - 1 - X) row.toInt)) ∧ (¬ fl.toInt % 2 = 1 → ∀ X : Int, dt lo hi X = md (mo d m.toInt.toNat) X row.toInt)) : lo = mkw (shp c b) (2 * y) ∧ hi = mkw (shp c b) (2 * y + 1) := by
  have bd := (ok.2.2.2 b hb).1
  have nm := ok.1
  have h40 := bh40 ok hb
  have om := ok.2.2.1 (c.1 (19 + 8 * b)).toInt.toNat (by omega)
  have cm : ∀ X Y : Int, md (mo d m.toInt.toNat) X Y = md (mo c.2 (c.1 (19 + 8 * b)).toInt.toNat) X Y := md_congr (fun k hk => by unfold mo; rw [em]; exact hd _ (by omega))
  have cl : ∀ X Y : Int, md (mo c.2 (c.1 (19 + 8 * b)).toInt.toNat) X Y = true → X < (bw_ c b).toInt ∧ Y < (bh_ c b).toInt := om.2.2
  refine mkw_row (by omega) (fun x h0 h1 => ?_)
  show dt lo hi x = flipD _ _ _ _ x (y : Int)
  unfold flipD
  rw [← ef, ← ew, ← eh]
  rw [← eh] at hy
  rw [← hr]
  by_cases q : fl.toInt % 2 = 1
  · rw [g.1 q, cm]
    unfold flx
    rw [if_pos q]
    congr 1
    exact decide_eq_decide.mpr (by omega)
  · rw [g.2 q, cm]
    unfold flx
    rw [if_neg q]
    cases w : md (mo c.2 (c.1 (19 + 8 * b)).toInt.toNat) x row.toInt with
    | false => rw [Bool.and_false]
    | true =>
      have := cl _ _ w
      rw [← ew] at this
      rw [decide_eq_true (by omega)]; rfl
-- ---- the reference: ticks, falls
theorem setB_u2 {c : Fx} {b k : Nat} {v w : Int32} : setB (u2 c v) b k w = u2 (setB c b k w) v := by
  unfold setB u2
  refine Prod.ext (funext fun j => ?_) rfl
  show upd (upd c.1 2 v) (19 + 8 * b + k) w j = upd (upd c.1 (19 + 8 * b + k) w) 2 v j
  unfold upd
  by_cases q : j = 19 + 8 * b + k
  · rw [if_pos q, if_neg (by omega), if_pos q]
  · rw [if_neg q]
    by_cases r : j = 2
    · rw [if_pos r, if_pos r]
    · rw [if_neg r, if_neg r, if_neg q]
theorem u2_u2 {c : Fx} {v w : Int32} : u2 (u2 c v) w = u2 c w := by
  unfold u2
  refine Prod.ext (funext fun j => ?_) rfl
  show upd (upd c.1 2 v) 2 w j = upd c.1 2 w j
  unfold upd
  by_cases r : j = 2
  · rw [if_pos r, if_pos r]
  · rw [if_neg r, if_neg r, if_neg r]
theorem u2_bX {c : Fx} {v : Int32} {b : Nat} : bX (u2 c v) b = bX c b := by unfold bX; rw [u2_at (by omega)]
theorem u2_bY {c : Fx} {v : Int32} {b : Nat} : bY (u2 c v) b = bY c b := by unfold bY; rw [u2_at (by omega)]
theorem u2_met {c : Fx} {v : Int32} {a b : Nat} {x y : Int} : metM (u2 c v) a b x y = metM c a b x y := by unfold metM; rw [(u2_sh a).2.2, (u2_sh b).2.2, u2_bX, u2_bX, u2_bY, u2_bY]
theorem u2_may {c : Fx} {v : Int32} {a b : Nat} : mayT (u2 c v) a b = mayT c a b := by unfold mayT; rw [u2_at (by omega), u2_at (by omega), u2_at (by omega), u2_at (by omega)]
theorem u2_far {c : Fx} {v : Int32} {b : Nat} {x y : Int} : farB (u2 c v) b x y = farB c b x y := by unfold farB; rw [u2_bX, u2_bY]
theorem u2_stp {c : Fx} {v : Int32} {b o : Nat} {x y : Int} : stpB (u2 c v) b o x y = stpB c b o x y := by unfold stpB; rw [u2_may, u2_met, u2_met]
theorem u2_blk {c : Fx} {v : Int32} {b : Nat} {x y : Int} : blkB (u2 c v) b x y = blkB c b x y := by
  unfold blkB
  rw [u2_far, u2_at (by decide)]
  simp only [u2_stp]
theorem u2_sld {c : Fx} {v : Int32} {b : Nat} {dx dy : Int} : sldB (u2 c v) b dx dy = sldB c b dx dy := by
  funext r
  unfold sldB blkK
  simp only [u2_blk]
theorem u2_slN {c : Fx} {v : Int32} {b : Nat} {dx dy : Int} : slN (u2 c v) b dx dy = slN c b dx dy := by unfold slN; rw [u2_sld]
theorem u2_slC {c : Fx} {v : Int32} {b : Nat} {dx dy : Int} : slC (u2 c v) b dx dy = u2 (slC c b dx dy) v := by
  have e1 : slX (u2 c v) b dx dy = slX c b dx dy := by unfold slX; rw [u2_slN]
  have e2 : slY (u2 c v) b dx dy = slY c b dx dy := by unfold slY; rw [u2_slN]
  unfold slC gC
  rw [e1, e2, u2_at (by omega), u2_at (by omega), setB_u2, setB_u2]
theorem tkB_sh {c : Fx} {b : Nat} (ok : okF c) (hb : b < (c.1 1).toInt.toNat) : shE c (tkB c b).1 := by
  have s := slC_sh (dx := (vX c b).toInt) (dy := (vY c b).toInt) ok hb
  by_cases w : slN c b (vX c b).toInt (vY c b).toInt = stI (vX c b).toInt (vY c b).toInt
  · rw [tkB_y w]; exact s
  · rw [tkB_n w]
    have q := vXY ok hb
    have o1 := (slC_in (dx := (vX c b).toInt) (dy := (vY c b).toInt) ok hb).2.2.2.2
    have o2 := okF_body (b := b) (k := 6) (v := -vX c b) o1 (by decide) (vok6 (Or.inl rfl) (by rw [neg20 q.1]; omega))
    exact shE_t s (shE_t (setB_sh o1 (by decide) (by decide) (by decide)) (setB_sh o2 (by decide) (by decide) (by decide)))
theorem tkR_ok {p : Fx × Int} (ok : okF p.1) (j : Nat) (hj : j ≤ (p.1.1 1).toInt.toNat) : okF (tkR j p).1 ∧ shE p.1 (tkR j p).1 := by
  induction j with
  | zero => rw [tkR_0]; exact ⟨ok, shE_r _⟩
  | succ j ih =>
    have A := ih (by omega)
    have hb : j < ((tkR j p).1.1 1).toInt.toNat := by rw [tkR_lo (by decide)]; omega
    rw [tkR_s]
    exact ⟨tkB_ok A.1 hb, shE_t A.2 (tkB_sh A.1 hb)⟩
theorem tkT_ok {c : Fx} (ok : okF c) (k : Nat) : okF (tkT (c.1 1).toInt.toNat k (c, 0)).1 ∧ shE c (tkT (c.1 1).toInt.toNat k (c, 0)).1 := by
  induction k with
  | zero => rw [tkT_0]; exact ⟨ok, shE_r _⟩
  | succ k ih =>
    rw [tkT_s]
    have q := tkR_ok ih.1 (c.1 1).toInt.toNat (by rw [tkT_lo (by decide)]; exact Nat.le_refl _)
    exact ⟨q.1, shE_t ih.2 q.2⟩
theorem tkRT_ok {c : Fx} (ok : okF c) {k j : Nat} (hj : j ≤ (c.1 1).toInt.toNat) : okF (tkR j (tkT (c.1 1).toInt.toNat k (c, 0))).1 ∧ shE c (tkR j (tkT (c.1 1).toInt.toNat k (c, 0))).1 := by
  have a := tkT_ok ok k
  have q := tkR_ok a.1 j (by rw [tkT_lo (by decide)]; exact hj)
  exact ⟨q.1, shE_t a.2 q.2⟩
theorem fR_sh {p : Fx × Int} (ok : okF p.1) (j : Nat) (hj : j ≤ (p.1.1 1).toInt.toNat) : shE p.1 (fR j p).1 := by
  induction j with
  | zero => rw [fR_0]; exact shE_r _
  | succ j ih =>
    rw [fR_s]
    exact shE_t (ih (by omega)) (slC_sh (fR_ok ok j (by omega)) (by rw [fR_lo (by decide)]; omega))
theorem fK_sh {c : Fx} (ok : okF c) (k : Nat) : shE c (fK (c.1 1).toInt.toNat k (c, 0)).1 := by
  induction k with
  | zero => rw [fK_0]; exact shE_r _
  | succ k ih =>
    rw [fK_s]
    exact shE_t ih (fR_sh (fK_ok ok k).1 _ (by rw [fK_lo (by decide)]; exact Nat.le_refl _))
theorem fP_ok {c : Fx} (ok : okF c) {k j : Nat} (hj : j ≤ (c.1 1).toInt.toNat) : okF (fR j (fK (c.1 1).toInt.toNat k (c, 0))).1 ∧ shE c (fR j (fK (c.1 1).toInt.toNat k (c, 0))).1 := by
  have a := (fK_ok ok k).1
  have h : j ≤ ((fK (c.1 1).toInt.toNat k (c, 0)).1.1 1).toInt.toNat := by rw [fK_lo (by decide)]; exact hj
  exact ⟨fR_ok a j h, shE_t (fK_sh ok k) (fR_sh a j h)⟩
theorem rem_as {σ : Sx} {X : Fx} : morc (shf (X, σ.2)) σ.1 = (X, (rem σ).2) := by
  rw [rem_c]
  unfold shf morc
  by_cases h : σ.2.1 = 10
  · rw [if_pos h, if_pos (show ((X, σ.2) : Sx).2.1 = 10 from h)]
  · rw [if_neg h, if_neg (show ¬ ((X, σ.2) : Sx).2.1 = 10 from h)]
section
variable {L : List Nat} {K G : Nat → Nat} {Q : Nat → Nat → Option Nat} {I I1 I2 I3 : Nat → Nat → Int32} {J J1 : Nat → Nat → Int64} {m : Nat} {σ : Sx}
theorem cmA_u2 {w : Int32} (hQ : Sv L K G Q) (hL : m ∈ L) (hK : K m = 7) (e : I1 (a0 Q m 0) = upd (I (a0 Q m 0)) 2 w) (fI : ∀ b, ¬ (K b = 18) → I1 b = I b) (A : cmA Q I J m σ) : cmA Q I1 J m (u2 σ.1 w, σ.2) := by
  refine cmA_now (n := σ.2.1) hQ hL hK ⟨fun k hk => ?_, fun k hk => A.1.2 k hk⟩ (fun b hb => fI b (by omega)) (fun _ _ => rfl) (by rw [fI m (by omega)]; exact A.2.1.1) (Nat.le_refl _) A
  rw [show 99 * 0 + k = k by omega, e]
  show upd _ _ _ k = upd _ _ _ k
  unfold upd
  by_cases r : k = 2
  · rw [if_pos r, if_pos r]
  · rw [if_neg r, if_neg r]; exact cmA_n A hk
theorem tk_82 {C : Fx} {V z50 z60 z72 : Int32} {j : Nat} {s : Nat × (Nat → Fx) × (Nat → Option Fx)} (ok : okF C) (hj : j < (C.1 1).toInt.toNat) (A : cmA Q I J m (u2 C V, s)) (l : ldA Q J m (u2 C V)) (e6 : z50 = I (a0 Q m 0) (19 + 8 * j + 6)) (e7 : z60 = I (a0 Q m 0) (19 + 8 * j + 7)) (x : ∀ c : Fx, okF c → rI Q I m c → ldA Q J m c → j < (c.1 1).toInt.toNat → z72.toInt = slN c j z50.toInt z60.toInt) (z : ∀ σ : Sx, okF σ.1 → cmA Q I J m σ → ldA Q J m σ.1 → j < (σ.1.1 1).toInt.toNat → cmA Q I1 J m (slC σ.1 j z50.toInt z60.toInt, σ.2)) : z50 = vX C j ∧ z60 = vY C j ∧ z72.toInt = slN C j (vX C j).toInt (vY C j).toInt ∧ cmA Q I1 J m (u2 (slC C j (vX C j).toInt (vY C j).toInt) V, s) := by
  have n := ok.2.1
  have a6 : z50 = vX C j := by rw [e6, cmA_n A (by omega)]; exact u2_at (by omega)
  have a7 : z60 = vY C j := by rw [e7, cmA_n A (by omega)]; exact u2_at (by omega)
  have h1 : (u2 C V).1 1 = C.1 1 := u2_at (by decide)
  have hj2 : j < ((u2 C V).1 1).toInt.toNat := by rw [h1]; exact hj
  have X := x (u2 C V) (u2_ok ok) (cmA_rI A) l hj2
  have Z := z (u2 C V, s) (u2_ok ok) A l hj2
  rw [a6, a7, u2_slN] at X
  rw [a6, a7] at Z
  refine ⟨a6, a7, X, ?_⟩
  rw [← u2_slC]
  exact Z
theorem tk_neg {D : Fx} {V a b : Int32} {j : Nat} {s : Nat × (Nat → Fx) × (Nat → Option Fx)} (hQ : Sv L K G Q) (hL : m ∈ L) (hK : K m = 7) (hj : j < 10) (A : cmA Q I J m (u2 D V, s)) (e1 : I1 (a0 Q m 0) = upd (I (a0 Q m 0)) (19 + 8 * j + 6) a) (f1 : ∀ b, ¬ (K b = 18) → I1 b = I b) (e2 : I2 (a0 Q m 0) = upd (I1 (a0 Q m 0)) (19 + 8 * j + 7) b) (f2 : ∀ b, ¬ (K b = 18) → I2 b = I1 b) : cmA Q I2 J m (u2 (setB (setB D j 6 a) j 7 b) V, s) := by
  have B := cmA_setB hQ hL hK (by omega) e1 f1 A
  have C := cmA_setB hQ hL hK (by omega) e2 f2 B
  have e : setB (setB (u2 D V) j 6 a) j 7 b = u2 (setB (setB D j 6 a) j 7 b) V := by rw [setB_u2, setB_u2]
  rw [← e]
  exact C
theorem fa_48 {P : Fx × Int} {z48 : Int32} {j : Nat} {s : Nat × (Nat → Fx) × (Nat → Option Fx)} (ok : okF (fR j P).1) (hj : j < ((fR j P).1.1 1).toInt.toNat) (A : cmA Q I J m ((fR j P).1, s)) (l : ldA Q J m (fR j P).1) (x : ∀ c : Fx, okF c → rI Q I m c → ldA Q J m c → j < (c.1 1).toInt.toNat → z48.toInt = slN c j (0 : Int32).toInt (200 : Int32).toInt) (z : ∀ σ : Sx, okF σ.1 → cmA Q I J m σ → ldA Q J m σ.1 → j < (σ.1.1 1).toInt.toNat → cmA Q I1 J m (slC σ.1 j (0 : Int32).toInt (200 : Int32).toInt, σ.2)) : (fR (j + 1) P).2 = (fR j P).2 + z48.toInt ∧ cmA Q I1 J m ((fR (j + 1) P).1, s) := by
  have X := x _ ok (cmA_rI A) l hj
  have Z := z ((fR j P).1, s) ok A l hj
  rw [show (0 : Int32).toInt = 0 from by decide +kernel, show (200 : Int32).toInt = 200 from by decide +kernel] at X Z
  rw [fR_s]
  exact ⟨by rw [X], Z⟩
end
theorem u2_self {c : Fx} : u2 c (c.1 2 + 0) = c := by
  unfold u2
  refine Prod.ext (funext fun j => ?_) rfl
  show upd c.1 2 _ j = c.1 j
  unfold upd
  by_cases r : j = 2
  · rw [if_pos r, r, Int32.add_zero]
  · rw [if_neg r]
theorem i32_add1 {a b z : Int32} (e : z = b + 1) : a + b + 1 = a + z := by rw [e, Int32.add_assoc]
theorem ld_k {L : List Nat} {K G : Nat → Nat} {Q : Nat → Nat → Option Nat} {m : Nat} (hQ : Sv L K G Q) (hL : m ∈ L) (hK : K m = 7) : K (a0 Q m 17) = 25 := by
  obtain ⟨y, e, l, k⟩ := oQ_7_17 (Sv_at hQ hL hK)
  rw [show a0 Q m 17 = y from gd_of e]
  first | exact k | exact k.1
theorem tk7_en {Q : Nat → Nat → Option Nat} {I : Nat → Nat → Int32} {J : Nat → Nat → Int64} {m N k j : Nat} {c : Fx} {V z : Int32} {s : Nat × (Nat → Fx) × (Nat → Option Fx)} (A : cmA Q I J m (u2 (tkR j (tkT N k (c, 0))).1 V, s)) (e : z = I (a0 Q m 0) 1) : z = c.1 1 := by
  have q := cmA_n A (k := 1) (by decide)
  have w : (u2 (tkR j (tkT N k (c, 0))).1 V).1 1 = (tkR j (tkT N k (c, 0))).1.1 1 := u2_at (by decide)
  rw [e, q]
  show (u2 (tkR j (tkT N k (c, 0))).1 V).1 1 = c.1 1
  rw [w, tkRT_lo (by decide)]
theorem tk7_2 {Q : Nat → Nat → Option Nat} {I : Nat → Nat → Int32} {J : Nat → Nat → Int64} {m : Nat} {D : Fx} {V z : Int32} {s : Nat × (Nat → Fx) × (Nat → Option Fx)} (A : cmA Q I J m (u2 D V, s)) (e : z = I (a0 Q m 0) 2) : z = V := by
  have q := cmA_n A (k := 2) (by decide)
  have w : (u2 D V).1 2 = V := u2_2
  rw [e, q]; exact w
theorem tk7_end {L : List Nat} {K G : Nat → Nat} {Q : Nat → Nat → Option Nat} {I I1 : Nat → Nat → Int32} {J : Nat → Nat → Int64} {m : Nat} {D : Fx} {V w : Int32} {s : Nat × (Nat → Fx) × (Nat → Option Fx)} (hQ : Sv L K G Q) (hL : m ∈ L) (hK : K m = 7) (e : I1 (a0 Q m 0) = upd (I (a0 Q m 0)) 2 w) (fI : ∀ b, ¬ (K b = 18) → I1 b = I b) (A : cmA Q I J m (u2 D V, s)) : cmA Q I1 J m (u2 D w, s) := by
  have B := cmA_u2 hQ hL hK e fI A
  rw [show u2 ((u2 D V, s) : Sx).1 w = u2 D w from u2_u2] at B
  exact B
theorem fa7_en {Q : Nat → Nat → Option Nat} {I : Nat → Nat → Int32} {J : Nat → Nat → Int64} {m N k j : Nat} {c : Fx} {z : Int32} {s : Nat × (Nat → Fx) × (Nat → Option Fx)} (A : cmA Q I J m ((fR j (fK N k (c, 0))).1, s)) (e : z = I (a0 Q m 0) 1) : z = c.1 1 := by
  have q := cmA_n A (k := 1) (by decide)
  rw [e, q]
  show (fR j (fK N k (c, 0))).1.1 1 = c.1 1
  rw [fP_lo (by decide)]
theorem fK_nn {c : Fx} {N k : Nat} : 0 ≤ (fK N k (c, 0)).2 := (fK_mono N k (c, 0)).1
theorem fK_st {N k : Nat} {P : Fx × Int} : (fK N k P).2 ≤ (fK N (k + 1) P).2 := by rw [fK_s]; exact (fR_mono N _).1
theorem fa7_k {c : Fx} {k : Nat} {more : Int} (h : (k = 0 ∧ more = 1) ∨ ∃ i, k = i + 1 ∧ fGo c i ∧ more + (fK (c.1 1).toInt.toNat i (c, 0)).2 = (fK (c.1 1).toInt.toNat k (c, 0)).2) (hm : 0 < more) : fGo c k := by
  rcases h with ⟨a, -⟩ | ⟨i, e, g, s⟩
  · rw [a]; exact fGo_0
  · subst e; exact fGo_s g (by omega)
theorem fa7_e {c : Fx} {k : Nat} {more : Int} (h : (k = 0 ∧ more = 1) ∨ ∃ i, k = i + 1 ∧ fGo c i ∧ more + (fK (c.1 1).toInt.toNat i (c, 0)).2 = (fK (c.1 1).toInt.toNat k (c, 0)).2) (hm : more ≤ 0) : faE c = fK (c.1 1).toInt.toNat k (c, 0) := by
  rcases h with ⟨a, b⟩ | ⟨i, e, g, s⟩
  · omega
  · subst e
    have q := fK_st (N := (c.1 1).toInt.toNat) (k := i) (P := (c, 0))
    exact faE_of ⟨i, g, by omega, rfl⟩
-- ---- the reference: push
theorem psX_t {d n : Int} {k : Nat} (h : -200 ≤ psX d n k ∧ psX d n k ≤ 200) : (Int32.ofInt (psX d n k)).toInt = psX d n k := Int32.toInt_ofInt_of_le (by omega) (by omega)
theorem psC_ok {c : Fx} {b : Nat} {dx dy : Int} (ok : okF c) (hx : -200 ≤ dx ∧ dx ≤ 200) (hy : -200 ≤ dy ∧ dy ≤ 200) : ∀ k : Nat, (k : Int) ≤ stI dx dy → (∀ i : Nat, i < k → psG c b dx dy i) → okF (psC c b dx dy k) ∧ shE c (psC c b dx dy k) := by
  intro k
  induction k with
  | zero => intro _ _; rw [psC_0]; exact ⟨ok, shE_r _⟩
  | succ k ih =>
    intro hk hg
    have A := ih (by omega) (fun i hi => hg i (by omega))
    have bx := psX_b (d := dx) (n := stI dx dy) (k := k) (by omega) (by omega) hx
    have by_ := psX_b (d := dy) (n := stI dx dy) (k := k) (by omega) (by omega) hy
    rw [psC_s]
    refine ⟨mvJ_ok A.1 (fun o ho hs => ?_) (by rw [psX_t bx, psX_t by_]; omega) _ (Nat.le_refl _), shE_t A.2 (mvJ_shE A.1)⟩
    rw [psX_t bx, psX_t by_]
    rw [psC_lo (by decide)] at ho
    exact hg k (by omega) o ho hs
theorem pE_of {c : Fx} {x y : Int} {b o : Nat} (h : ¬ b = o ∧ mayT c b o ∧ metM c b o x y) (n : ¬ (¬ b = o ∧ mayT c b o ∧ metM c b o 0 0)) : pE c x y b o := ⟨fun q => h.1 q.symm, h.2.1, h.2.2, fun m => n ⟨h.1, h.2.1, m⟩⟩
theorem pE_to {c : Fx} {x y : Int} {b o : Nat} (h : pE c x y b o) : (¬ b = o ∧ mayT c b o ∧ metM c b o x y) ∧ ¬ (¬ b = o ∧ mayT c b o ∧ metM c b o 0 0) := ⟨⟨fun q => h.1 q.symm, h.2.1, h.2.2.1⟩, fun m => h.2.2.2 m.2.2⟩
/-- a pass over who is pushed: what is in the set goes, and in a pass without more none is left out -/
def gp (c : Fx) (b : Nat) (x y : Int) (g more : Int32) (i : Nat) : Prop := hbt g b = true ∧ (∀ o, hbt g o = true → gR c b x y o) ∧ (more.toInt = 0 → ∀ v : Nat, v < i → v < (c.1 1).toInt.toNat → hbt g v = false → ¬ ∃ u : Nat, u < (c.1 1).toInt.toNat ∧ hbt g u = true ∧ pE c x y u v)
theorem gp_no {c : Fx} {b i j : Nat} {x y : Int} {g more : Int32} (h : gp c b x y g more i) (hj : j = i + 1) (n : hbt g i = true ∨ ¬ ∃ u : Nat, u < (c.1 1).toInt.toNat ∧ hbt g u = true ∧ pE c x y u i) : gp c b x y g more j := by
  refine ⟨h.1, h.2.1, fun hm v hv hN h0 => ?_⟩
  by_cases q : v = i
  · subst q
    rcases n with w | w
    · rw [w] at h0; cases h0
    · exact w
  · exact h.2.2 hm v (by omega) hN h0
theorem gp_yes {c : Fx} {b i j : Nat} {x y : Int} {g g1 more : Int32} (h : gp c b x y g more i) (hN : i < (c.1 1).toInt.toNat) (n : ∃ u : Nat, u < (c.1 1).toInt.toNat ∧ hbt g u = true ∧ pE c x y u i) (e : ∀ k, hbt g1 k = (hbt g k || decide (k = i))) : gp c b x y g1 (1 : Int32) j := by
  refine ⟨by rw [e, h.1]; rfl, fun o ho => ?_, fun hm => absurd hm (by decide +kernel)⟩
  rw [e, Bool.or_eq_true, decide_eq_true_iff] at ho
  rcases ho with q | q
  · exact h.2.1 o q
  · obtain ⟨u, -, hu, p⟩ := n
    rw [q]; exact gR_s (h.2.1 u hu) hN p
theorem gp_e {c : Fx} {b i : Nat} {x y : Int} {g more : Int32} (hb : b < (c.1 1).toInt.toNat) (h : gp c b x y g more i) (hm : more.toInt = 0) (hi : (c.1 1).toInt.toNat ≤ i) (o : Nat) : hbt g o = true ↔ gR c b x y o := by
  refine goI_e (a := g) ⟨h.1, h.2.1, fun _ q => q, fun u hu v hv p => ?_⟩ (fun _ q => q) o
  apply Classical.byContradiction
  intro w
  exact h.2.2 hm v (by omega) hv (eq_false_of_ne_true w) ⟨u, gR_lt hb (h.2.1 u hu), hu, p⟩
section
variable {L : List Nat} {K G : Nat → Nat} {Q : Nat → Nat → Option Nat} {I I1 : Nat → Nat → Int32} {J : Nat → Nat → Int64} {m : Nat} {σ : Sx} {g u v z : Int32}
theorem ps7_en {b k : Nat} {dx dy : Int} {s : Nat × (Nat → Fx) × (Nat → Option Fx)} {S : Nat → Prop} {j : Nat} (A : cmA Q I J m (mvJ (psC σ.1 b dx dy k) S u v j, s)) (e : z = I (a0 Q m 0) 1) : z = σ.1.1 1 := by
  have q := cmA_n A (k := 1) (by decide)
  rw [e, q]
  show (mvJ (psC σ.1 b dx dy k) S u v j).1 1 = σ.1.1 1
  rw [mvJ_lo (by decide), psC_lo (by decide)]
theorem ps7_in {c : Fx} {b k : Nat} {dx dy : Int} {s : Nat × (Nat → Fx) × (Nat → Option Fx)} (e1 : u.toInt = psX dx (stI dx dy) k) (e2 : v.toInt = psX dy (stI dx dy) k) (A : cmA Q I J m (mvJ (psC c b dx dy k) (gR (psC c b dx dy k) b (psX dx (stI dx dy) k) (psX dy (stI dx dy) k)) u v (c.1 1).toInt.toNat, s)) : cmA Q I J m (psC c b dx dy (k + 1), s) := by
  rw [psC_s, psX_i e1, psX_i e2, psC_lo (i := 1) (by decide)]
  exact A
end
-- ---- the reference: crop
def exD (D : Int → Int → Bool) (e : Int × Int × Int × Int) : Prop := (∃ y, D e.1 y = true) ∧ (∃ x, D x e.2.1 = true) ∧ (∃ y, D e.2.2.1 y = true) ∧ (∃ x, D x e.2.2.2 = true) ∧ ∀ x y, D x y = true → (e.1 ≤ x ∧ x ≤ e.2.2.1) ∧ (e.2.1 ≤ y ∧ y ≤ e.2.2.2)
def rcI (D : Int → Int → Bool) (some : Int) (e : Int × Int × Int × Int) : Prop := (some = 0 → ∀ x y, D x y = false) ∧ (¬ some = 0 → exD D e)
theorem ahD_t {D : Int → Int → Bool} {y0 x0 x y : Int} : ahD D y0 x0 x y = true ↔ (y < y0 ∨ (y = y0 ∧ x < x0)) ∧ D x y = true := by
  unfold ahD; rw [Bool.and_eq_true, decide_eq_true_iff]
theorem rcI_0 {D : Int → Int → Bool} {e : Int × Int × Int × Int} (hD : ∀ x y, D x y = true → 0 ≤ x ∧ 0 ≤ y) : rcI (ahD D 0 0) 0 e := ⟨fun _ x y => by
  cases w : ahD D 0 0 x y with
  | false => rfl
  | true => have a := ahD_t.mp w; have b := hD _ _ a.2; omega, fun q => absurd rfl q⟩
theorem rcI_congr {D E : Int → Int → Bool} {s : Int} {e : Int × Int × Int × Int} (h : ∀ x y, D x y = E x y) (q : rcI D s e) : rcI E s e := by
  have w : D = E := funext fun x => funext fun y => h x y
  rw [← w]; exact q
theorem rcI_nl {D : Int → Int → Bool} {w y y1 x s : Int} {e : Int × Int × Int × Int} (hD : ∀ x y, D x y = true → 0 ≤ x ∧ x < w) (hx : w ≤ x) (hy : y1 = y + 1) (q : rcI (ahD D y x) s e) : rcI (ahD D y1 0) s e := rcI_congr (fun X Y => by
  unfold ahD
  cases u : D X Y with
  | false => rw [Bool.and_false, Bool.and_false]
  | true =>
    have b := hD _ _ u
    rw [Bool.and_true, Bool.and_true]
    exact decide_eq_decide.mpr (by omega)) q
theorem rcI_no {D : Int → Int → Bool} {y x x1 s : Int} {e : Int × Int × Int × Int} (hx : x1 = x + 1) (hn : D x y = false) (q : rcI (ahD D y x) s e) : rcI (ahD D y x1) s e := rcI_congr (fun X Y => by
  unfold ahD
  by_cases u : X = x ∧ Y = y
  · rw [u.1, u.2, hn, Bool.and_false, Bool.and_false]
  · congr 1
    exact decide_eq_decide.mpr (by omega)) q
theorem rcI_yes {D : Int → Int → Bool} {y x x1 s s1 l t r b l1 t1 r1 b1 : Int} (hx : x1 = x + 1) (hd : D x y = true) (hs : ¬ s1 = 0) (h0 : (s = 0 → l1 = x ∧ t1 = y ∧ r1 = x) ∧ (¬ s = 0 → l1 = min l x ∧ t1 = t ∧ r1 = max r x)) (hb : b1 = y) (q : rcI (ahD D y x) s (l, t, r, b)) : rcI (ahD D y x1) s1 (l1, t1, r1, b1) := by
  refine ⟨fun w => absurd w hs, fun _ => ?_⟩
  have le : ∀ X Y, ahD D y x X Y = true → ahD D y x1 X Y = true := fun X Y w => by
    have a := ahD_t.mp w
    exact ahD_t.mpr ⟨by omega, a.2⟩
  have nw : ahD D y x1 x y = true := ahD_t.mpr ⟨by omega, hd⟩
  have or_ : ∀ X Y, ahD D y x1 X Y = true → (X = x ∧ Y = y) ∨ ahD D y x X Y = true := fun X Y w => by
    have a := ahD_t.mp w
    by_cases u : X = x ∧ Y = y
    · exact Or.inl u
    · exact Or.inr (ahD_t.mpr ⟨by omega, a.2⟩)
  by_cases w : s = 0
  · obtain ⟨e1, e2, e3⟩ := h0.1 w
    rw [e1, e2, e3, hb]
    refine ⟨⟨_, nw⟩, ⟨_, nw⟩, ⟨_, nw⟩, ⟨_, nw⟩, fun X Y h => ?_⟩
    rcases or_ X Y h with u | u
    · show (x ≤ X ∧ X ≤ x) ∧ (y ≤ Y ∧ Y ≤ y); omega
    · rw [q.1 w] at u; cases u
  · obtain ⟨e1, e2, e3⟩ := h0.2 w
    obtain ⟨⟨y1, a1⟩, ⟨x2, a2⟩, ⟨y3, a3⟩, ⟨x4, a4⟩, a5⟩ := q.2 w
    have a1' : ahD D y x l y1 = true := a1
    have a2' : ahD D y x x2 t = true := a2
    have a3' : ahD D y x r y3 = true := a3
    have c1 := (ahD_t.mp a1').1
    have c2 := (ahD_t.mp a2').1
    have d5 : ∀ X Y, ahD D y x X Y = true → (l ≤ X ∧ X ≤ r) ∧ (t ≤ Y ∧ Y ≤ b) := a5
    subst hb
    refine ⟨?_, ?_, ?_, ⟨x, nw⟩, fun X Y h => ?_⟩
    · show ∃ z, ahD D b1 x1 l1 z = true
      rcases Int.le_total l x with m | m
      · rw [show l1 = l by omega]; exact ⟨y1, le _ _ a1'⟩
      · rw [show l1 = x by omega]; exact ⟨_, nw⟩
    · show ∃ z, ahD D b1 x1 z t1 = true
      rw [e2]; exact ⟨x2, le _ _ a2'⟩
    · show ∃ z, ahD D b1 x1 r1 z = true
      rcases Int.le_total x r with m | m
      · rw [show r1 = r by omega]; exact ⟨y3, le _ _ a3'⟩
      · rw [show r1 = x by omega]; exact ⟨_, nw⟩
    · show (l1 ≤ X ∧ X ≤ r1) ∧ (t1 ≤ Y ∧ Y ≤ b1)
      rcases or_ X Y h with u | u
      · omega
      · have z := d5 _ _ u
        have z1 := (ahD_t.mp u).1
        omega
theorem rcI_e {D : Int → Int → Bool} {h y s : Int} {e : Int × Int × Int × Int} (hD : ∀ x y, D x y = true → y < h) (hy : h ≤ y) (q : rcI (ahD D y 0) s e) : rcI D s e := rcI_congr (fun X Y => by
  unfold ahD
  cases u : D X Y with
  | false => rw [Bool.and_false]
  | true => have b := hD _ _ u; rw [decide_eq_true (by omega)]; rfl) q
theorem hs_b {w h : Int} {f : Nat → Int64} (x y : Int) (q : hs w h f x y = true) : (0 ≤ x ∧ x < w) ∧ (0 ≤ y ∧ y < h) := by have a := (hs_t.mp q).1; omega
theorem tot_0 {f : Nat → Int64} (h : ∀ x y, md f x y = false) : (totr f 40 : Int) = 0 := by
  have q := (totr_z (f := f) 40).mpr (fun r hr => (rowE_md hr).mpr (fun x => h x _))
  omega
theorem tot_n {f : Nat → Int64} {x y : Int} (h : md f x y = true) : ¬ (totr f 40 : Int) = 0 := fun q => by
  have w := (totr_z (f := f) 40).mp (by omega)
  have b := md_rng h
  have e := (rowE_md (f := f) (r := y.toNat) (by omega)).mp (w y.toNat (by omega)) x
  rw [show ((y.toNat : Nat) : Int) = y by omega, h] at e; cases e
theorem ends_k {L : List Nat} {K G : Nat → Nat} {Q : Nat → Nat → Option Nat} {m : Nat} (hQ : Sv L K G Q) (hL : m ∈ L) (hK : K m = 7) : K (a0 Q m 20) = 26 := by
  obtain ⟨y, e, l, k⟩ := oQ_7_20 (Sv_at hQ hL hK)
  rw [show a0 Q m 20 = y from gd_of e]
  first | exact k | exact k.1
theorem cr7_rs {Q : Nat → Nat → Option Nat} {I : Nat → Nat → Int32} {J : Nat → Nat → Int64} {p : Nat} {σ : Sx} {m : Int32} {s : Int} {e : Int × Int × Int × Int} (ok : okF σ.1) (A : cmA Q I J p σ) (hm : mK σ m) (h : rcI (hs (rW Q I p m.toInt.toNat) (rH Q I p m.toInt.toNat) (rF Q J p m.toInt.toNat)) s e) : (s = 0 → (totr (mF σ m) 40 : Int) = 0) ∧ (¬ s = 0 → ¬ (totr (mF σ m) 40 : Int) = 0 ∧ crE σ m = e ∧ crI σ m) := by
  have n : m.toInt.toNat < (σ.1.1 0).toInt.toNat := by have := hm.1; have := hm.2; omega
  have o := ok.2.2.1 m.toInt.toNat n
  have F := cmA_F A (m := m) (by have := ok.1; omega)
  have w : ∀ x y, hs (rW Q I p m.toInt.toNat) (rH Q I p m.toInt.toNat) (rF Q J p m.toInt.toNat) x y = md (mF σ m) x y := fun x y => by rw [hs_congr F.1 F.2.1 F.2.2, hs_of o.2.2]
  have g := rcI_congr w h
  refine ⟨fun q => tot_0 (g.1 q), fun q => ?_⟩
  have b : exB (mF σ m) e := g.2 q
  have eE : crE σ m = e := exE_of b
  obtain ⟨y, hy⟩ := b.1
  exact ⟨tot_n hy, eE, crI_of o (by rw [eE]; exact b)⟩
theorem crop_b {l t r b : Int} {f : Nat → Int64} (x y : Int) (q : cropD l t r b f x y = true) : (0 ≤ x ∧ x < r - l + 1) ∧ (0 ≤ y ∧ y < b - t + 1) := by
  unfold cropD at q
  rw [Bool.and_eq_true, decide_eq_true_iff] at q
  omega
theorem crop_at {l t r b x y : Int} {f : Nat → Int64} (hx : l ≤ x ∧ x ≤ r) (hy : t ≤ y ∧ y ≤ b) : cropD l t r b f (x - l) (y - t) = md f x y := by
  unfold cropD
  rw [decide_eq_true (by omega), Bool.true_and, show x - l + l = x by omega, show y - t + t = y by omega]
-- ---- what asks alone leaves the state
theorem cxA_scr {L : List Nat} {K G : Nat → Nat} {Q : Nat → Nat → Option Nat} {I I1 : Nat → Nat → Int32} {J J1 : Nat → Nat → Int64} {x : Nat} {σ : Sx} (hQ : Sv L K G Q) (hL : x ∈ L) (hK : K x = 6) (fI : ∀ b, ¬ (K b = 2 ∨ K b = 5 ∨ K b = 11 ∨ (K b = 3 ∧ G b / 100 = 4)) → I1 b = I b) (fJ : ∀ b, K b = 12 → ¬ G b / 100 = 4 → J1 b = J b) (h : cxA Q I J x σ) : cxA Q I1 J1 x σ := by
  have f : I1 x = I x := fI x (by omega)
  exact cxA_fr (P := fun t => t = 1 ∨ t = 2 ∨ t = 6 ∨ t = 7 ∨ (20 ≤ t ∧ t < 30)) hQ extW_refl hL hK (fun _ _ => rfl) rfl (by rw [f]) (by rw [f]) (Or.inl rfl) (by omega) (by omega) (by omega) (fun j _ => by have := Nat.mod_lt ((I x 9).toInt.toNat + j) (show 0 < 10 by decide); omega) (fun b _ hk hp => fI b (by omega)) (fun b _ hk hp => fJ b hk (by omega)) h
