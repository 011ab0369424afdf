def ent (cs : Nat → ClassId) (κ : Nat) (fi : Nat → Int32) (fj : Nat → Int64) (fq : Nat → Option Nat) : va_E := match κ with
  | 0 => .inr (0, [.int (fi 0), .int (fi 1), .int (fi 2), .int (fi 3), .int (fi 4), .int (fi 5), .int (fi 6), .int (fi 7)])
  | 1 => .inr (1, [va_rf (fq 0), va_rf (fq 1), .int (fi 2), .int (fi 3), .int (fi 4)])
  | 2 => .inr (2, [va_rf (fq 0), va_rf (fq 1), .int (fi 2), .int (fi 3), .int (fi 4), .int (fi 5), .int (fi 6), .int (fi 7)])
  | 3 => .inr (3, [.int (fi 0), .int (fi 1), va_rf (fq 2), .int (fi 3), .int (fi 4), .int (fi 5), .int (fi 6), .int (fi 7)])
  | 4 => .inr (4, [va_rf (fq 0), .int (fi 1), .int (fi 2), .int (fi 3), .int (fi 4), .int (fi 5)])
  | 5 => .inr (5, [va_rf (fq 0), va_rf (fq 1), .int (fi 2), .int (fi 3), .int (fi 4), .int (fi 5), .int (fi 6), .int (fi 7), .int (fi 8)])
  | 6 => .inr (6, [va_rf (fq 0), .int (fi 1), va_rf (fq 2), va_rf (fq 3), va_rf (fq 4), va_rf (fq 5), va_rf (fq 6), va_rf (fq 7), va_rf (fq 8), .int (fi 9), .int (fi 10), va_rf (fq 11)])
  | 7 => .inr (7, [va_rf (fq 0), va_rf (fq 1), va_rf (fq 2), va_rf (fq 3), va_rf (fq 4), va_rf (fq 5), va_rf (fq 6), va_rf (fq 7), va_rf (fq 8), va_rf (fq 9), va_rf (fq 10), .int (fi 11), va_rf (fq 12), .int (fi 13), .int (fi 14), .int (fi 15), .int (fi 16), va_rf (fq 17), .int (fi 18), va_rf (fq 19), va_rf (fq 20), va_rf (fq 21), va_rf (fq 22), .int (fi 23), .int (fi 24), va_rf (fq 25)])
  | 10 => .inl (cs 10, 400, .inl fi)
  | 11 => .inl (cs 11, 4000, .inl fi)
  | 12 => .inl (cs 12, 80, .inr (.inl fj))
  | 13 => .inl (cs 13, 8, .inr (.inr (.inr (.inr fq))))
  | 14 => .inl (cs 14, 10, .inr (.inr (.inr (.inr fq))))
  | 15 => .inl (cs 15, 10, .inr (.inr (.inr (.inr fq))))
  | 16 => .inl (cs 16, 10, .inr (.inr (.inr (.inr fq))))
  | 17 => .inl (cs 17, 2, .inr (.inr (.inr (.inr fq))))
  | 18 => .inl (cs 18, 99, .inl fi)
  | 19 => .inl (cs 19, 990, .inl fi)
  | 20 => .inl (cs 20, 198, .inl fi)
  | 21 => .inl (cs 21, 640, .inr (.inl fj))
  | 22 => .inl (cs 22, 6400, .inr (.inl fj))
  | 23 => .inl (cs 23, 1280, .inr (.inl fj))
  | 24 => .inl (cs 24, 2, .inl fi)
  | 25 => .inl (cs 25, 800, .inr (.inl fj))
  | 26 => .inl (cs 26, 4, .inl fi)
  | 27 => .inl (cs 27, 4000, .inl fi)
  | 28 => .inl (cs 28, 99, .inl fi)
  | 29 => .inl (cs 29, 4, .inl fi)
  | 30 => .inl (cs 30, 99, .inl fi)
  | 31 => .inl (cs 31, 400, .inl fi)
  | 32 => .inl (cs 32, 640, .inr (.inl fj))
  | 33 => .inl (cs 33, 640, .inr (.inl fj))
  | 34 => .inl (cs 34, 80, .inr (.inl fj))
  | _ => .inr (0, [])
def tysA (cs : Nat → ClassId) : List (ClassId × FieldType) := [(cs 10, .byte), (cs 11, .int), (cs 12, .long), (cs 13, .object RX3), (cs 14, .object RX0), (cs 15, .object RX3), (cs 16, .object RX1), (cs 17, .object RX1), (cs 18, .int), (cs 19, .int), (cs 20, .int), (cs 21, .long), (cs 22, .long), (cs 23, .long), (cs 24, .boolean), (cs 25, .long), (cs 26, .int), (cs 27, .int), (cs 28, .int), (cs 29, .int), (cs 30, .int), (cs 31, .byte), (cs 32, .long), (cs 33, .long), (cs 34, .long)]
def bI (f : Nat → Int32) (k : Nat) (lo hi : Int) : Prop := lo ≤ (f k).toInt ∧ (f k).toInt ≤ hi
/-- what the model's numbers may be, by their place -/
def rng (B : Int) (i : Nat) (v : Int) : Prop := (i = 0 → 0 ≤ v ∧ v ≤ 8) ∧ (i = 1 → 0 ≤ v ∧ v ≤ 10) ∧ (3 ≤ i ∧ i < 11 → -300 ≤ v ∧ v ≤ 100) ∧ (11 ≤ i ∧ i < 19 → -300 ≤ v ∧ v ≤ 40) ∧ (19 ≤ i ∧ (i - 19) % 8 = 0 → 0 ≤ v ∧ v ≤ 7) ∧ (19 ≤ i ∧ ((i - 19) % 8 = 1 ∨ (i - 19) % 8 = 2) → -B ≤ v ∧ v ≤ B) ∧ (19 ≤ i ∧ ((i - 19) % 8 = 6 ∨ (i - 19) % 8 = 7) → -20 ≤ v ∧ v ≤ 20)
/-- bounds of the ints that a cell of kind κ holds -/
def okI (B : Int) (κ : Nat) (f : Nat → Int32) : Prop := match κ with
  | 0 => bI f 0 (0) 7 ∧ bI f 1 (-B) B ∧ bI f 2 (-B) B ∧ bI f 3 (0) 3 ∧ bI f 4 (0) 15 ∧ bI f 5 (0) 15 ∧ bI f 6 (-20) 20 ∧ bI f 7 (-20) 20
  | 1 => bI f 2 (0) 8 ∧ bI f 3 (0) 10
  | 2 => bI f 2 (0) 4000 ∧ bI f 3 (0) 4000
  | 3 => bI f 0 (-300) 128 ∧ bI f 1 (-300) 40 ∧ bI f 4 (-1) 128 ∧ bI f 5 (-1) 39 ∧ bI f 6 (-1) 127 ∧ bI f 7 (-1) 39 ∧ ((f 3).toInt = 0 ∨ (0 ≤ (f 5).toInt ∧ 0 ≤ (f 4).toInt ∧ (f 5).toInt ≤ (f 7).toInt))
  | 4 => bI f 1 (0) 400 ∧ bI f 2 (0) 400 ∧ bI f 3 (0) 400 ∧ bI f 4 (-1000000) 1000000 ∧ bI f 5 (0) 9000
  | 5 => bI f 2 (0) 300
  | 6 => bI f 1 (0) 400 ∧ bI f 9 (0) 9 ∧ bI f 10 (0) 10
  | 7 => bI f 11 (0) 10 ∧ bI f 13 (0) 400 ∧ bI f 14 (0) 400 ∧ bI f 15 (-1) 9000 ∧ bI f 16 (0) 400 ∧ bI f 24 (0) 4000
  | 26 => ∀ i, 0 ≤ (f i).toInt ∧ (f i).toInt ≤ 99 ∧ (i % 2 = 1 → (f i).toInt ≤ 39)
  | 29 => ∀ i, -7000000 ≤ (f i).toInt ∧ (f i).toInt ≤ 7000000
  | 18 => ∀ i, rng B i (f i).toInt
  | 30 => ∀ i, rng B i (f i).toInt
  | 19 => ∀ i, rng B (i % 99) (f i).toInt
  | 20 => ∀ i, rng B (i % 99) (f i).toInt
  | _ => True
theorem oI_0_0 {B : Int} {f : Nat → Int32} (h : okI B 0 f) : (0) ≤ (f 0).toInt ∧ (f 0).toInt ≤ 7 := h.1
theorem oI_0_1 {B : Int} {f : Nat → Int32} (h : okI B 0 f) : (-B) ≤ (f 1).toInt ∧ (f 1).toInt ≤ B := h.2.1
theorem oI_0_2 {B : Int} {f : Nat → Int32} (h : okI B 0 f) : (-B) ≤ (f 2).toInt ∧ (f 2).toInt ≤ B := h.2.2.1
theorem oI_0_3 {B : Int} {f : Nat → Int32} (h : okI B 0 f) : (0) ≤ (f 3).toInt ∧ (f 3).toInt ≤ 3 := h.2.2.2.1
theorem oI_0_4 {B : Int} {f : Nat → Int32} (h : okI B 0 f) : (0) ≤ (f 4).toInt ∧ (f 4).toInt ≤ 15 := h.2.2.2.2.1
theorem oI_0_5 {B : Int} {f : Nat → Int32} (h : okI B 0 f) : (0) ≤ (f 5).toInt ∧ (f 5).toInt ≤ 15 := h.2.2.2.2.2.1
theorem oI_0_6 {B : Int} {f : Nat → Int32} (h : okI B 0 f) : (-20) ≤ (f 6).toInt ∧ (f 6).toInt ≤ 20 := h.2.2.2.2.2.2.1
theorem oI_0_7 {B : Int} {f : Nat → Int32} (h : okI B 0 f) : (-20) ≤ (f 7).toInt ∧ (f 7).toInt ≤ 20 := h.2.2.2.2.2.2.2
theorem oP_0_0 {B : Int} {f : Nat → Int32} {v : Int32} (h : okI B 0 f) (hv : (0) ≤ v.toInt ∧ v.toInt ≤ 7) : okI B 0 (upd f 0 v) := ⟨by unfold bI; simp only [upd, if_true]; exact hv, by have q := h.2.1; unfold bI at q ⊢; simp only [upd, show ¬ (1 : Nat) = 0 from by decide, if_false]; exact q, by have q := h.2.2.1; unfold bI at q ⊢; simp only [upd, show ¬ (2 : Nat) = 0 from by decide, if_false]; exact q, by have q := h.2.2.2.1; unfold bI at q ⊢; simp only [upd, show ¬ (3 : Nat) = 0 from by decide, if_false]; exact q, by have q := h.2.2.2.2.1; unfold bI at q ⊢; simp only [upd, show ¬ (4 : Nat) = 0 from by decide, if_false]; exact q, by have q := h.2.2.2.2.2.1; unfold bI at q ⊢; simp only [upd, show ¬ (5 : Nat) = 0 from by decide, if_false]; exact q, by have q := h.2.2.2.2.2.2.1; unfold bI at q ⊢; simp only [upd, show ¬ (6 : Nat) = 0 from by decide, if_false]; exact q, by have q := h.2.2.2.2.2.2.2; unfold bI at q ⊢; simp only [upd, show ¬ (7 : Nat) = 0 from by decide, if_false]; exact q⟩
theorem oP_0_1 {B : Int} {f : Nat → Int32} {v : Int32} (h : okI B 0 f) (hv : (-B) ≤ v.toInt ∧ v.toInt ≤ B) : okI B 0 (upd f 1 v) := ⟨by have q := h.1; unfold bI at q ⊢; simp only [upd, show ¬ (0 : Nat) = 1 from by decide, if_false]; exact q, by unfold bI; simp only [upd, if_true]; exact hv, by have q := h.2.2.1; unfold bI at q ⊢; simp only [upd, show ¬ (2 : Nat) = 1 from by decide, if_false]; exact q, by have q := h.2.2.2.1; unfold bI at q ⊢; simp only [upd, show ¬ (3 : Nat) = 1 from by decide, if_false]; exact q, by have q := h.2.2.2.2.1; unfold bI at q ⊢; simp only [upd, show ¬ (4 : Nat) = 1 from by decide, if_false]; exact q, by have q := h.2.2.2.2.2.1; unfold bI at q ⊢; simp only [upd, show ¬ (5 : Nat) = 1 from by decide, if_false]; exact q, by have q := h.2.2.2.2.2.2.1; unfold bI at q ⊢; simp only [upd, show ¬ (6 : Nat) = 1 from by decide, if_false]; exact q, by have q := h.2.2.2.2.2.2.2; unfold bI at q ⊢; simp only [upd, show ¬ (7 : Nat) = 1 from by decide, if_false]; exact q⟩
theorem oP_0_2 {B : Int} {f : Nat → Int32} {v : Int32} (h : okI B 0 f) (hv : (-B) ≤ v.toInt ∧ v.toInt ≤ B) : okI B 0 (upd f 2 v) := ⟨by have q := h.1; unfold bI at q ⊢; simp only [upd, show ¬ (0 : Nat) = 2 from by decide, if_false]; exact q, by have q := h.2.1; unfold bI at q ⊢; simp only [upd, show ¬ (1 : Nat) = 2 from by decide, if_false]; exact q, by unfold bI; simp only [upd, if_true]; exact hv, by have q := h.2.2.2.1; unfold bI at q ⊢; simp only [upd, show ¬ (3 : Nat) = 2 from by decide, if_false]; exact q, by have q := h.2.2.2.2.1; unfold bI at q ⊢; simp only [upd, show ¬ (4 : Nat) = 2 from by decide, if_false]; exact q, by have q := h.2.2.2.2.2.1; unfold bI at q ⊢; simp only [upd, show ¬ (5 : Nat) = 2 from by decide, if_false]; exact q, by have q := h.2.2.2.2.2.2.1; unfold bI at q ⊢; simp only [upd, show ¬ (6 : Nat) = 2 from by decide, if_false]; exact q, by have q := h.2.2.2.2.2.2.2; unfold bI at q ⊢; simp only [upd, show ¬ (7 : Nat) = 2 from by decide, if_false]; exact q⟩
theorem oP_0_3 {B : Int} {f : Nat → Int32} {v : Int32} (h : okI B 0 f) (hv : (0) ≤ v.toInt ∧ v.toInt ≤ 3) : okI B 0 (upd f 3 v) := ⟨by have q := h.1; unfold bI at q ⊢; simp only [upd, show ¬ (0 : Nat) = 3 from by decide, if_false]; exact q, by have q := h.2.1; unfold bI at q ⊢; simp only [upd, show ¬ (1 : Nat) = 3 from by decide, if_false]; exact q, by have q := h.2.2.1; unfold bI at q ⊢; simp only [upd, show ¬ (2 : Nat) = 3 from by decide, if_false]; exact q, by unfold bI; simp only [upd, if_true]; exact hv, by have q := h.2.2.2.2.1; unfold bI at q ⊢; simp only [upd, show ¬ (4 : Nat) = 3 from by decide, if_false]; exact q, by have q := h.2.2.2.2.2.1; unfold bI at q ⊢; simp only [upd, show ¬ (5 : Nat) = 3 from by decide, if_false]; exact q, by have q := h.2.2.2.2.2.2.1; unfold bI at q ⊢; simp only [upd, show ¬ (6 : Nat) = 3 from by decide, if_false]; exact q, by have q := h.2.2.2.2.2.2.2; unfold bI at q ⊢; simp only [upd, show ¬ (7 : Nat) = 3 from by decide, if_false]; exact q⟩
theorem oP_0_4 {B : Int} {f : Nat → Int32} {v : Int32} (h : okI B 0 f) (hv : (0) ≤ v.toInt ∧ v.toInt ≤ 15) : okI B 0 (upd f 4 v) := ⟨by have q := h.1; unfold bI at q ⊢; simp only [upd, show ¬ (0 : Nat) = 4 from by decide, if_false]; exact q, by have q := h.2.1; unfold bI at q ⊢; simp only [upd, show ¬ (1 : Nat) = 4 from by decide, if_false]; exact q, by have q := h.2.2.1; unfold bI at q ⊢; simp only [upd, show ¬ (2 : Nat) = 4 from by decide, if_false]; exact q, by have q := h.2.2.2.1; unfold bI at q ⊢; simp only [upd, show ¬ (3 : Nat) = 4 from by decide, if_false]; exact q, by unfold bI; simp only [upd, if_true]; exact hv, by have q := h.2.2.2.2.2.1; unfold bI at q ⊢; simp only [upd, show ¬ (5 : Nat) = 4 from by decide, if_false]; exact q, by have q := h.2.2.2.2.2.2.1; unfold bI at q ⊢; simp only [upd, show ¬ (6 : Nat) = 4 from by decide, if_false]; exact q, by have q := h.2.2.2.2.2.2.2; unfold bI at q ⊢; simp only [upd, show ¬ (7 : Nat) = 4 from by decide, if_false]; exact q⟩
theorem oP_0_5 {B : Int} {f : Nat → Int32} {v : Int32} (h : okI B 0 f) (hv : (0) ≤ v.toInt ∧ v.toInt ≤ 15) : okI B 0 (upd f 5 v) := ⟨by have q := h.1; unfold bI at q ⊢; simp only [upd, show ¬ (0 : Nat) = 5 from by decide, if_false]; exact q, by have q := h.2.1; unfold bI at q ⊢; simp only [upd, show ¬ (1 : Nat) = 5 from by decide, if_false]; exact q, by have q := h.2.2.1; unfold bI at q ⊢; simp only [upd, show ¬ (2 : Nat) = 5 from by decide, if_false]; exact q, by have q := h.2.2.2.1; unfold bI at q ⊢; simp only [upd, show ¬ (3 : Nat) = 5 from by decide, if_false]; exact q, by have q := h.2.2.2.2.1; unfold bI at q ⊢; simp only [upd, show ¬ (4 : Nat) = 5 from by decide, if_false]; exact q, by unfold bI; simp only [upd, if_true]; exact hv, by have q := h.2.2.2.2.2.2.1; unfold bI at q ⊢; simp only [upd, show ¬ (6 : Nat) = 5 from by decide, if_false]; exact q, by have q := h.2.2.2.2.2.2.2; unfold bI at q ⊢; simp only [upd, show ¬ (7 : Nat) = 5 from by decide, if_false]; exact q⟩
theorem oP_0_6 {B : Int} {f : Nat → Int32} {v : Int32} (h : okI B 0 f) (hv : (-20) ≤ v.toInt ∧ v.toInt ≤ 20) : okI B 0 (upd f 6 v) := ⟨by have q := h.1; unfold bI at q ⊢; simp only [upd, show ¬ (0 : Nat) = 6 from by decide, if_false]; exact q, by have q := h.2.1; unfold bI at q ⊢; simp only [upd, show ¬ (1 : Nat) = 6 from by decide, if_false]; exact q, by have q := h.2.2.1; unfold bI at q ⊢; simp only [upd, show ¬ (2 : Nat) = 6 from by decide, if_false]; exact q, by have q := h.2.2.2.1; unfold bI at q ⊢; simp only [upd, show ¬ (3 : Nat) = 6 from by decide, if_false]; exact q, by have q := h.2.2.2.2.1; unfold bI at q ⊢; simp only [upd, show ¬ (4 : Nat) = 6 from by decide, if_false]; exact q, by have q := h.2.2.2.2.2.1; unfold bI at q ⊢; simp only [upd, show ¬ (5 : Nat) = 6 from by decide, if_false]; exact q, by unfold bI; simp only [upd, if_true]; exact hv, by have q := h.2.2.2.2.2.2.2; unfold bI at q ⊢; simp only [upd, show ¬ (7 : Nat) = 6 from by decide, if_false]; exact q⟩
theorem oP_0_7 {B : Int} {f : Nat → Int32} {v : Int32} (h : okI B 0 f) (hv : (-20) ≤ v.toInt ∧ v.toInt ≤ 20) : okI B 0 (upd f 7 v) := ⟨by have q := h.1; unfold bI at q ⊢; simp only [upd, show ¬ (0 : Nat) = 7 from by decide, if_false]; exact q, by have q := h.2.1; unfold bI at q ⊢; simp only [upd, show ¬ (1 : Nat) = 7 from by decide, if_false]; exact q, by have q := h.2.2.1; unfold bI at q ⊢; simp only [upd, show ¬ (2 : Nat) = 7 from by decide, if_false]; exact q, by have q := h.2.2.2.1; unfold bI at q ⊢; simp only [upd, show ¬ (3 : Nat) = 7 from by decide, if_false]; exact q, by have q := h.2.2.2.2.1; unfold bI at q ⊢; simp only [upd, show ¬ (4 : Nat) = 7 from by decide, if_false]; exact q, by have q := h.2.2.2.2.2.1; unfold bI at q ⊢; simp only [upd, show ¬ (5 : Nat) = 7 from by decide, if_false]; exact q, by have q := h.2.2.2.2.2.2.1; unfold bI at q ⊢; simp only [upd, show ¬ (6 : Nat) = 7 from by decide, if_false]; exact q, by unfold bI; simp only [upd, if_true]; exact hv⟩
theorem oI_1_2 {B : Int} {f : Nat → Int32} (h : okI B 1 f) : (0) ≤ (f 2).toInt ∧ (f 2).toInt ≤ 8 := h.1
theorem oI_1_3 {B : Int} {f : Nat → Int32} (h : okI B 1 f) : (0) ≤ (f 3).toInt ∧ (f 3).toInt ≤ 10 := h.2
theorem oP_1_2 {B : Int} {f : Nat → Int32} {v : Int32} (h : okI B 1 f) (hv : (0) ≤ v.toInt ∧ v.toInt ≤ 8) : okI B 1 (upd f 2 v) := ⟨by unfold bI; simp only [upd, if_true]; exact hv, by have q := h.2; unfold bI at q ⊢; simp only [upd, show ¬ (3 : Nat) = 2 from by decide, if_false]; exact q⟩
theorem oP_1_3 {B : Int} {f : Nat → Int32} {v : Int32} (h : okI B 1 f) (hv : (0) ≤ v.toInt ∧ v.toInt ≤ 10) : okI B 1 (upd f 3 v) := ⟨by have q := h.1; unfold bI at q ⊢; simp only [upd, show ¬ (2 : Nat) = 3 from by decide, if_false]; exact q, by unfold bI; simp only [upd, if_true]; exact hv⟩
theorem oP_1_4 {B : Int} {f : Nat → Int32} {v : Int32} (h : okI B 1 f) : okI B 1 (upd f 4 v) := ⟨by have q := h.1; unfold bI at q ⊢; simp only [upd, show ¬ (2 : Nat) = 4 from by decide, if_false]; exact q, by have q := h.2; unfold bI at q ⊢; simp only [upd, show ¬ (3 : Nat) = 4 from by decide, if_false]; exact q⟩
theorem oI_2_2 {B : Int} {f : Nat → Int32} (h : okI B 2 f) : (0) ≤ (f 2).toInt ∧ (f 2).toInt ≤ 4000 := h.1
theorem oI_2_3 {B : Int} {f : Nat → Int32} (h : okI B 2 f) : (0) ≤ (f 3).toInt ∧ (f 3).toInt ≤ 4000 := h.2
theorem oP_2_2 {B : Int} {f : Nat → Int32} {v : Int32} (h : okI B 2 f) (hv : (0) ≤ v.toInt ∧ v.toInt ≤ 4000) : okI B 2 (upd f 2 v) := ⟨by unfold bI; simp only [upd, if_true]; exact hv, by have q := h.2; unfold bI at q ⊢; simp only [upd, show ¬ (3 : Nat) = 2 from by decide, if_false]; exact q⟩
theorem oP_2_3 {B : Int} {f : Nat → Int32} {v : Int32} (h : okI B 2 f) (hv : (0) ≤ v.toInt ∧ v.toInt ≤ 4000) : okI B 2 (upd f 3 v) := ⟨by have q := h.1; unfold bI at q ⊢; simp only [upd, show ¬ (2 : Nat) = 3 from by decide, if_false]; exact q, by unfold bI; simp only [upd, if_true]; exact hv⟩
theorem oP_2_4 {B : Int} {f : Nat → Int32} {v : Int32} (h : okI B 2 f) : okI B 2 (upd f 4 v) := ⟨by have q := h.1; unfold bI at q ⊢; simp only [upd, show ¬ (2 : Nat) = 4 from by decide, if_false]; exact q, by have q := h.2; unfold bI at q ⊢; simp only [upd, show ¬ (3 : Nat) = 4 from by decide, if_false]; exact q⟩
theorem oP_2_5 {B : Int} {f : Nat → Int32} {v : Int32} (h : okI B 2 f) : okI B 2 (upd f 5 v) := ⟨by have q := h.1; unfold bI at q ⊢; simp only [upd, show ¬ (2 : Nat) = 5 from by decide, if_false]; exact q, by have q := h.2; unfold bI at q ⊢; simp only [upd, show ¬ (3 : Nat) = 5 from by decide, if_false]; exact q⟩
theorem oP_2_6 {B : Int} {f : Nat → Int32} {v : Int32} (h : okI B 2 f) : okI B 2 (upd f 6 v) := ⟨by have q := h.1; unfold bI at q ⊢; simp only [upd, show ¬ (2 : Nat) = 6 from by decide, if_false]; exact q, by have q := h.2; unfold bI at q ⊢; simp only [upd, show ¬ (3 : Nat) = 6 from by decide, if_false]; exact q⟩
theorem oP_2_7 {B : Int} {f : Nat → Int32} {v : Int32} (h : okI B 2 f) : okI B 2 (upd f 7 v) := ⟨by have q := h.1; unfold bI at q ⊢; simp only [upd, show ¬ (2 : Nat) = 7 from by decide, if_false]; exact q, by have q := h.2; unfold bI at q ⊢; simp only [upd, show ¬ (3 : Nat) = 7 from by decide, if_false]; exact q⟩
theorem oI_3_0 {B : Int} {f : Nat → Int32} (h : okI B 3 f) : (-300) ≤ (f 0).toInt ∧ (f 0).toInt ≤ 128 := h.1
theorem oI_3_1 {B : Int} {f : Nat → Int32} (h : okI B 3 f) : (-300) ≤ (f 1).toInt ∧ (f 1).toInt ≤ 40 := h.2.1
theorem oI_3_4 {B : Int} {f : Nat → Int32} (h : okI B 3 f) : (-1) ≤ (f 4).toInt ∧ (f 4).toInt ≤ 128 := h.2.2.1
theorem oI_3_5 {B : Int} {f : Nat → Int32} (h : okI B 3 f) : (-1) ≤ (f 5).toInt ∧ (f 5).toInt ≤ 39 := h.2.2.2.1
theorem oI_3_6 {B : Int} {f : Nat → Int32} (h : okI B 3 f) : (-1) ≤ (f 6).toInt ∧ (f 6).toInt ≤ 127 := h.2.2.2.2.1
theorem oI_3_7 {B : Int} {f : Nat → Int32} (h : okI B 3 f) : (-1) ≤ (f 7).toInt ∧ (f 7).toInt ≤ 39 := h.2.2.2.2.2.1
theorem oI_3_t {B : Int} {f : Nat → Int32} (h : okI B 3 f) : (f 3).toInt = 0 ∨ (0 ≤ (f 5).toInt ∧ 0 ≤ (f 4).toInt ∧ (f 5).toInt ≤ (f 7).toInt) := h.2.2.2.2.2.2
theorem oP_3_0 {B : Int} {f : Nat → Int32} {v : Int32} (h : okI B 3 f) (hv : (-300) ≤ v.toInt ∧ v.toInt ≤ 128) : okI B 3 (upd f 0 v) := ⟨by unfold bI; simp only [upd, if_true]; exact hv, by have q := h.2.1; unfold bI at q ⊢; simp only [upd, show ¬ (1 : Nat) = 0 from by decide, if_false]; exact q, by have q := h.2.2.1; unfold bI at q ⊢; simp only [upd, show ¬ (4 : Nat) = 0 from by decide, if_false]; exact q, by have q := h.2.2.2.1; unfold bI at q ⊢; simp only [upd, show ¬ (5 : Nat) = 0 from by decide, if_false]; exact q, by have q := h.2.2.2.2.1; unfold bI at q ⊢; simp only [upd, show ¬ (6 : Nat) = 0 from by decide, if_false]; exact q, by have q := h.2.2.2.2.2.1; unfold bI at q ⊢; simp only [upd, show ¬ (7 : Nat) = 0 from by decide, if_false]; exact q, by have q := h.2.2.2.2.2.2; simp only [upd, show ¬ (3 : Nat) = 0 from by decide, show ¬ (4 : Nat) = 0 from by decide, show ¬ (5 : Nat) = 0 from by decide, show ¬ (7 : Nat) = 0 from by decide, if_false]; exact q⟩
theorem oP_3_1 {B : Int} {f : Nat → Int32} {v : Int32} (h : okI B 3 f) (hv : (-300) ≤ v.toInt ∧ v.toInt ≤ 40) : okI B 3 (upd f 1 v) := ⟨by have q := h.1; unfold bI at q ⊢; simp only [upd, show ¬ (0 : Nat) = 1 from by decide, if_false]; exact q, by unfold bI; simp only [upd, if_true]; exact hv, by have q := h.2.2.1; unfold bI at q ⊢; simp only [upd, show ¬ (4 : Nat) = 1 from by decide, if_false]; exact q, by have q := h.2.2.2.1; unfold bI at q ⊢; simp only [upd, show ¬ (5 : Nat) = 1 from by decide, if_false]; exact q, by have q := h.2.2.2.2.1; unfold bI at q ⊢; simp only [upd, show ¬ (6 : Nat) = 1 from by decide, if_false]; exact q, by have q := h.2.2.2.2.2.1; unfold bI at q ⊢; simp only [upd, show ¬ (7 : Nat) = 1 from by decide, if_false]; exact q, by have q := h.2.2.2.2.2.2; simp only [upd, show ¬ (3 : Nat) = 1 from by decide, show ¬ (4 : Nat) = 1 from by decide, show ¬ (5 : Nat) = 1 from by decide, show ¬ (7 : Nat) = 1 from by decide, if_false]; exact q⟩
theorem oP_3_6 {B : Int} {f : Nat → Int32} {v : Int32} (h : okI B 3 f) (hv : (-1) ≤ v.toInt ∧ v.toInt ≤ 127) : okI B 3 (upd f 6 v) := ⟨by have q := h.1; unfold bI at q ⊢; simp only [upd, show ¬ (0 : Nat) = 6 from by decide, if_false]; exact q, by have q := h.2.1; unfold bI at q ⊢; simp only [upd, show ¬ (1 : Nat) = 6 from by decide, if_false]; exact q, by have q := h.2.2.1; unfold bI at q ⊢; simp only [upd, show ¬ (4 : Nat) = 6 from by decide, if_false]; exact q, by have q := h.2.2.2.1; unfold bI at q ⊢; simp only [upd, show ¬ (5 : Nat) = 6 from by decide, if_false]; exact q, by unfold bI; simp only [upd, if_true]; exact hv, by have q := h.2.2.2.2.2.1; unfold bI at q ⊢; simp only [upd, show ¬ (7 : Nat) = 6 from by decide, if_false]; exact q, by have q := h.2.2.2.2.2.2; simp only [upd, show ¬ (3 : Nat) = 6 from by decide, show ¬ (4 : Nat) = 6 from by decide, show ¬ (5 : Nat) = 6 from by decide, show ¬ (7 : Nat) = 6 from by decide, if_false]; exact q⟩
theorem oI_4_1 {B : Int} {f : Nat → Int32} (h : okI B 4 f) : (0) ≤ (f 1).toInt ∧ (f 1).toInt ≤ 400 := h.1
theorem oI_4_2 {B : Int} {f : Nat → Int32} (h : okI B 4 f) : (0) ≤ (f 2).toInt ∧ (f 2).toInt ≤ 400 := h.2.1
theorem oI_4_3 {B : Int} {f : Nat → Int32} (h : okI B 4 f) : (0) ≤ (f 3).toInt ∧ (f 3).toInt ≤ 400 := h.2.2.1
theorem oI_4_4 {B : Int} {f : Nat → Int32} (h : okI B 4 f) : (-1000000) ≤ (f 4).toInt ∧ (f 4).toInt ≤ 1000000 := h.2.2.2.1
theorem oI_4_5 {B : Int} {f : Nat → Int32} (h : okI B 4 f) : (0) ≤ (f 5).toInt ∧ (f 5).toInt ≤ 9000 := h.2.2.2.2
theorem oP_4_1 {B : Int} {f : Nat → Int32} {v : Int32} (h : okI B 4 f) (hv : (0) ≤ v.toInt ∧ v.toInt ≤ 400) : okI B 4 (upd f 1 v) := ⟨by unfold bI; simp only [upd, if_true]; exact hv, by have q := h.2.1; unfold bI at q ⊢; simp only [upd, show ¬ (2 : Nat) = 1 from by decide, if_false]; exact q, by have q := h.2.2.1; unfold bI at q ⊢; simp only [upd, show ¬ (3 : Nat) = 1 from by decide, if_false]; exact q, by have q := h.2.2.2.1; unfold bI at q ⊢; simp only [upd, show ¬ (4 : Nat) = 1 from by decide, if_false]; exact q, by have q := h.2.2.2.2; unfold bI at q ⊢; simp only [upd, show ¬ (5 : Nat) = 1 from by decide, if_false]; exact q⟩
theorem oP_4_2 {B : Int} {f : Nat → Int32} {v : Int32} (h : okI B 4 f) (hv : (0) ≤ v.toInt ∧ v.toInt ≤ 400) : okI B 4 (upd f 2 v) := ⟨by have q := h.1; unfold bI at q ⊢; simp only [upd, show ¬ (1 : Nat) = 2 from by decide, if_false]; exact q, by unfold bI; simp only [upd, if_true]; exact hv, by have q := h.2.2.1; unfold bI at q ⊢; simp only [upd, show ¬ (3 : Nat) = 2 from by decide, if_false]; exact q, by have q := h.2.2.2.1; unfold bI at q ⊢; simp only [upd, show ¬ (4 : Nat) = 2 from by decide, if_false]; exact q, by have q := h.2.2.2.2; unfold bI at q ⊢; simp only [upd, show ¬ (5 : Nat) = 2 from by decide, if_false]; exact q⟩
theorem oP_4_3 {B : Int} {f : Nat → Int32} {v : Int32} (h : okI B 4 f) (hv : (0) ≤ v.toInt ∧ v.toInt ≤ 400) : okI B 4 (upd f 3 v) := ⟨by have q := h.1; unfold bI at q ⊢; simp only [upd, show ¬ (1 : Nat) = 3 from by decide, if_false]; exact q, by have q := h.2.1; unfold bI at q ⊢; simp only [upd, show ¬ (2 : Nat) = 3 from by decide, if_false]; exact q, by unfold bI; simp only [upd, if_true]; exact hv, by have q := h.2.2.2.1; unfold bI at q ⊢; simp only [upd, show ¬ (4 : Nat) = 3 from by decide, if_false]; exact q, by have q := h.2.2.2.2; unfold bI at q ⊢; simp only [upd, show ¬ (5 : Nat) = 3 from by decide, if_false]; exact q⟩
theorem oP_4_4 {B : Int} {f : Nat → Int32} {v : Int32} (h : okI B 4 f) (hv : (-1000000) ≤ v.toInt ∧ v.toInt ≤ 1000000) : okI B 4 (upd f 4 v) := ⟨by have q := h.1; unfold bI at q ⊢; simp only [upd, show ¬ (1 : Nat) = 4 from by decide, if_false]; exact q, by have q := h.2.1; unfold bI at q ⊢; simp only [upd, show ¬ (2 : Nat) = 4 from by decide, if_false]; exact q, by have q := h.2.2.1; unfold bI at q ⊢; simp only [upd, show ¬ (3 : Nat) = 4 from by decide, if_false]; exact q, by unfold bI; simp only [upd, if_true]; exact hv, by have q := h.2.2.2.2; unfold bI at q ⊢; simp only [upd, show ¬ (5 : Nat) = 4 from by decide, if_false]; exact q⟩
theorem oP_4_5 {B : Int} {f : Nat → Int32} {v : Int32} (h : okI B 4 f) (hv : (0) ≤ v.toInt ∧ v.toInt ≤ 9000) : okI B 4 (upd f 5 v) := ⟨by have q := h.1; unfold bI at q ⊢; simp only [upd, show ¬ (1 : Nat) = 5 from by decide, if_false]; exact q, by have q := h.2.1; unfold bI at q ⊢; simp only [upd, show ¬ (2 : Nat) = 5 from by decide, if_false]; exact q, by have q := h.2.2.1; unfold bI at q ⊢; simp only [upd, show ¬ (3 : Nat) = 5 from by decide, if_false]; exact q, by have q := h.2.2.2.1; unfold bI at q ⊢; simp only [upd, show ¬ (4 : Nat) = 5 from by decide, if_false]; exact q, by unfold bI; simp only [upd, if_true]; exact hv⟩
theorem oI_5_2 {B : Int} {f : Nat → Int32} (h : okI B 5 f) : (0) ≤ (f 2).toInt ∧ (f 2).toInt ≤ 300 := h
theorem oP_5_2 {B : Int} {f : Nat → Int32} {v : Int32} (h : okI B 5 f) (hv : (0) ≤ v.toInt ∧ v.toInt ≤ 300) : okI B 5 (upd f 2 v) := by show bI _ _ _ _; unfold bI; simp only [upd, if_true]; exact hv
theorem oP_5_3 {B : Int} {f : Nat → Int32} {v : Int32} (h : okI B 5 f) : okI B 5 (upd f 3 v) := by have q : bI f _ _ _ := h; show bI _ _ _ _; unfold bI at q ⊢; simp only [upd, show ¬ (2 : Nat) = 3 from by decide, if_false]; exact q
theorem oP_5_4 {B : Int} {f : Nat → Int32} {v : Int32} (h : okI B 5 f) : okI B 5 (upd f 4 v) := by have q : bI f _ _ _ := h; show bI _ _ _ _; unfold bI at q ⊢; simp only [upd, show ¬ (2 : Nat) = 4 from by decide, if_false]; exact q
theorem oP_5_5 {B : Int} {f : Nat → Int32} {v : Int32} (h : okI B 5 f) : okI B 5 (upd f 5 v) := by have q : bI f _ _ _ := h; show bI _ _ _ _; unfold bI at q ⊢; simp only [upd, show ¬ (2 : Nat) = 5 from by decide, if_false]; exact q
theorem oP_5_6 {B : Int} {f : Nat → Int32} {v : Int32} (h : okI B 5 f) : okI B 5 (upd f 6 v) := by have q : bI f _ _ _ := h; show bI _ _ _ _; unfold bI at q ⊢; simp only [upd, show ¬ (2 : Nat) = 6 from by decide, if_false]; exact q
theorem oP_5_7 {B : Int} {f : Nat → Int32} {v : Int32} (h : okI B 5 f) : okI B 5 (upd f 7 v) := by have q : bI f _ _ _ := h; show bI _ _ _ _; unfold bI at q ⊢; simp only [upd, show ¬ (2 : Nat) = 7 from by decide, if_false]; exact q
theorem oP_5_8 {B : Int} {f : Nat → Int32} {v : Int32} (h : okI B 5 f) : okI B 5 (upd f 8 v) := by have q : bI f _ _ _ := h; show bI _ _ _ _; unfold bI at q ⊢; simp only [upd, show ¬ (2 : Nat) = 8 from by decide, if_false]; exact q
theorem oI_6_1 {B : Int} {f : Nat → Int32} (h : okI B 6 f) : (0) ≤ (f 1).toInt ∧ (f 1).toInt ≤ 400 := h.1
theorem oI_6_9 {B : Int} {f : Nat → Int32} (h : okI B 6 f) : (0) ≤ (f 9).toInt ∧ (f 9).toInt ≤ 9 := h.2.1
theorem oI_6_10 {B : Int} {f : Nat → Int32} (h : okI B 6 f) : (0) ≤ (f 10).toInt ∧ (f 10).toInt ≤ 10 := h.2.2
theorem oP_6_1 {B : Int} {f : Nat → Int32} {v : Int32} (h : okI B 6 f) (hv : (0) ≤ v.toInt ∧ v.toInt ≤ 400) : okI B 6 (upd f 1 v) := ⟨by unfold bI; simp only [upd, if_true]; exact hv, by have q := h.2.1; unfold bI at q ⊢; simp only [upd, show ¬ (9 : Nat) = 1 from by decide, if_false]; exact q, by have q := h.2.2; unfold bI at q ⊢; simp only [upd, show ¬ (10 : Nat) = 1 from by decide, if_false]; exact q⟩
theorem oP_6_9 {B : Int} {f : Nat → Int32} {v : Int32} (h : okI B 6 f) (hv : (0) ≤ v.toInt ∧ v.toInt ≤ 9) : okI B 6 (upd f 9 v) := ⟨by have q := h.1; unfold bI at q ⊢; simp only [upd, show ¬ (1 : Nat) = 9 from by decide, if_false]; exact q, by unfold bI; simp only [upd, if_true]; exact hv, by have q := h.2.2; unfold bI at q ⊢; simp only [upd, show ¬ (10 : Nat) = 9 from by decide, if_false]; exact q⟩
theorem oP_6_10 {B : Int} {f : Nat → Int32} {v : Int32} (h : okI B 6 f) (hv : (0) ≤ v.toInt ∧ v.toInt ≤ 10) : okI B 6 (upd f 10 v) := ⟨by have q := h.1; unfold bI at q ⊢; simp only [upd, show ¬ (1 : Nat) = 10 from by decide, if_false]; exact q, by have q := h.2.1; unfold bI at q ⊢; simp only [upd, show ¬ (9 : Nat) = 10 from by decide, if_false]; exact q, by unfold bI; simp only [upd, if_true]; exact hv⟩
theorem oI_7_11 {B : Int} {f : Nat → Int32} (h : okI B 7 f) : (0) ≤ (f 11).toInt ∧ (f 11).toInt ≤ 10 := h.1
theorem oI_7_13 {B : Int} {f : Nat → Int32} (h : okI B 7 f) : (0) ≤ (f 13).toInt ∧ (f 13).toInt ≤ 400 := h.2.1
theorem oI_7_14 {B : Int} {f : Nat → Int32} (h : okI B 7 f) : (0) ≤ (f 14).toInt ∧ (f 14).toInt ≤ 400 := h.2.2.1
theorem oI_7_15 {B : Int} {f : Nat → Int32} (h : okI B 7 f) : (-1) ≤ (f 15).toInt ∧ (f 15).toInt ≤ 9000 := h.2.2.2.1
theorem oI_7_16 {B : Int} {f : Nat → Int32} (h : okI B 7 f) : (0) ≤ (f 16).toInt ∧ (f 16).toInt ≤ 400 := h.2.2.2.2.1
theorem oI_7_24 {B : Int} {f : Nat → Int32} (h : okI B 7 f) : (0) ≤ (f 24).toInt ∧ (f 24).toInt ≤ 4000 := h.2.2.2.2.2
theorem oP_7_11 {B : Int} {f : Nat → Int32} {v : Int32} (h : okI B 7 f) (hv : (0) ≤ v.toInt ∧ v.toInt ≤ 10) : okI B 7 (upd f 11 v) := ⟨by unfold bI; simp only [upd, if_true]; exact hv, by have q := h.2.1; unfold bI at q ⊢; simp only [upd, show ¬ (13 : Nat) = 11 from by decide, if_false]; exact q, by have q := h.2.2.1; unfold bI at q ⊢; simp only [upd, show ¬ (14 : Nat) = 11 from by decide, if_false]; exact q, by have q := h.2.2.2.1; unfold bI at q ⊢; simp only [upd, show ¬ (15 : Nat) = 11 from by decide, if_false]; exact q, by have q := h.2.2.2.2.1; unfold bI at q ⊢; simp only [upd, show ¬ (16 : Nat) = 11 from by decide, if_false]; exact q, by have q := h.2.2.2.2.2; unfold bI at q ⊢; simp only [upd, show ¬ (24 : Nat) = 11 from by decide, if_false]; exact q⟩
theorem oP_7_13 {B : Int} {f : Nat → Int32} {v : Int32} (h : okI B 7 f) (hv : (0) ≤ v.toInt ∧ v.toInt ≤ 400) : okI B 7 (upd f 13 v) := ⟨by have q := h.1; unfold bI at q ⊢; simp only [upd, show ¬ (11 : Nat) = 13 from by decide, if_false]; exact q, by unfold bI; simp only [upd, if_true]; exact hv, by have q := h.2.2.1; unfold bI at q ⊢; simp only [upd, show ¬ (14 : Nat) = 13 from by decide, if_false]; exact q, by have q := h.2.2.2.1; unfold bI at q ⊢; simp only [upd, show ¬ (15 : Nat) = 13 from by decide, if_false]; exact q, by have q := h.2.2.2.2.1; unfold bI at q ⊢; simp only [upd, show ¬ (16 : Nat) = 13 from by decide, if_false]; exact q, by have q := h.2.2.2.2.2; unfold bI at q ⊢; simp only [upd, show ¬ (24 : Nat) = 13 from by decide, if_false]; exact q⟩
theorem oP_7_14 {B : Int} {f : Nat → Int32} {v : Int32} (h : okI B 7 f) (hv : (0) ≤ v.toInt ∧ v.toInt ≤ 400) : okI B 7 (upd f 14 v) := ⟨by have q := h.1; unfold bI at q ⊢; simp only [upd, show ¬ (11 : Nat) = 14 from by decide, if_false]; exact q, by have q := h.2.1; unfold bI at q ⊢; simp only [upd, show ¬ (13 : Nat) = 14 from by decide, if_false]; exact q, by unfold bI; simp only [upd, if_true]; exact hv, by have q := h.2.2.2.1; unfold bI at q ⊢; simp only [upd, show ¬ (15 : Nat) = 14 from by decide, if_false]; exact q, by have q := h.2.2.2.2.1; unfold bI at q ⊢; simp only [upd, show ¬ (16 : Nat) = 14 from by decide, if_false]; exact q, by have q := h.2.2.2.2.2; unfold bI at q ⊢; simp only [upd, show ¬ (24 : Nat) = 14 from by decide, if_false]; exact q⟩
theorem oP_7_15 {B : Int} {f : Nat → Int32} {v : Int32} (h : okI B 7 f) (hv : (-1) ≤ v.toInt ∧ v.toInt ≤ 9000) : okI B 7 (upd f 15 v) := ⟨by have q := h.1; unfold bI at q ⊢; simp only [upd, show ¬ (11 : Nat) = 15 from by decide, if_false]; exact q, by have q := h.2.1; unfold bI at q ⊢; simp only [upd, show ¬ (13 : Nat) = 15 from by decide, if_false]; exact q, by have q := h.2.2.1; unfold bI at q ⊢; simp only [upd, show ¬ (14 : Nat) = 15 from by decide, if_false]; exact q, by unfold bI; simp only [upd, if_true]; exact hv, by have q := h.2.2.2.2.1; unfold bI at q ⊢; simp only [upd, show ¬ (16 : Nat) = 15 from by decide, if_false]; exact q, by have q := h.2.2.2.2.2; unfold bI at q ⊢; simp only [upd, show ¬ (24 : Nat) = 15 from by decide, if_false]; exact q⟩
theorem oP_7_16 {B : Int} {f : Nat → Int32} {v : Int32} (h : okI B 7 f) (hv : (0) ≤ v.toInt ∧ v.toInt ≤ 400) : okI B 7 (upd f 16 v) := ⟨by have q := h.1; unfold bI at q ⊢; simp only [upd, show ¬ (11 : Nat) = 16 from by decide, if_false]; exact q, by have q := h.2.1; unfold bI at q ⊢; simp only [upd, show ¬ (13 : Nat) = 16 from by decide, if_false]; exact q, by have q := h.2.2.1; unfold bI at q ⊢; simp only [upd, show ¬ (14 : Nat) = 16 from by decide, if_false]; exact q, by have q := h.2.2.2.1; unfold bI at q ⊢; simp only [upd, show ¬ (15 : Nat) = 16 from by decide, if_false]; exact q, by unfold bI; simp only [upd, if_true]; exact hv, by have q := h.2.2.2.2.2; unfold bI at q ⊢; simp only [upd, show ¬ (24 : Nat) = 16 from by decide, if_false]; exact q⟩
theorem oP_7_18 {B : Int} {f : Nat → Int32} {v : Int32} (h : okI B 7 f) : okI B 7 (upd f 18 v) := ⟨by have q := h.1; unfold bI at q ⊢; simp only [upd, show ¬ (11 : Nat) = 18 from by decide, if_false]; exact q, by have q := h.2.1; unfold bI at q ⊢; simp only [upd, show ¬ (13 : Nat) = 18 from by decide, if_false]; exact q, by have q := h.2.2.1; unfold bI at q ⊢; simp only [upd, show ¬ (14 : Nat) = 18 from by decide, if_false]; exact q, by have q := h.2.2.2.1; unfold bI at q ⊢; simp only [upd, show ¬ (15 : Nat) = 18 from by decide, if_false]; exact q, by have q := h.2.2.2.2.1; unfold bI at q ⊢; simp only [upd, show ¬ (16 : Nat) = 18 from by decide, if_false]; exact q, by have q := h.2.2.2.2.2; unfold bI at q ⊢; simp only [upd, show ¬ (24 : Nat) = 18 from by decide, if_false]; exact q⟩
theorem oP_7_23 {B : Int} {f : Nat → Int32} {v : Int32} (h : okI B 7 f) : okI B 7 (upd f 23 v) := ⟨by have q := h.1; unfold bI at q ⊢; simp only [upd, show ¬ (11 : Nat) = 23 from by decide, if_false]; exact q, by have q := h.2.1; unfold bI at q ⊢; simp only [upd, show ¬ (13 : Nat) = 23 from by decide, if_false]; exact q, by have q := h.2.2.1; unfold bI at q ⊢; simp only [upd, show ¬ (14 : Nat) = 23 from by decide, if_false]; exact q, by have q := h.2.2.2.1; unfold bI at q ⊢; simp only [upd, show ¬ (15 : Nat) = 23 from by decide, if_false]; exact q, by have q := h.2.2.2.2.1; unfold bI at q ⊢; simp only [upd, show ¬ (16 : Nat) = 23 from by decide, if_false]; exact q, by have q := h.2.2.2.2.2; unfold bI at q ⊢; simp only [upd, show ¬ (24 : Nat) = 23 from by decide, if_false]; exact q⟩
theorem oP_7_24 {B : Int} {f : Nat → Int32} {v : Int32} (h : okI B 7 f) (hv : (0) ≤ v.toInt ∧ v.toInt ≤ 4000) : okI B 7 (upd f 24 v) := ⟨by have q := h.1; unfold bI at q ⊢; simp only [upd, show ¬ (11 : Nat) = 24 from by decide, if_false]; exact q, by have q := h.2.1; unfold bI at q ⊢; simp only [upd, show ¬ (13 : Nat) = 24 from by decide, if_false]; exact q, by have q := h.2.2.1; unfold bI at q ⊢; simp only [upd, show ¬ (14 : Nat) = 24 from by decide, if_false]; exact q, by have q := h.2.2.2.1; unfold bI at q ⊢; simp only [upd, show ¬ (15 : Nat) = 24 from by decide, if_false]; exact q, by have q := h.2.2.2.2.1; unfold bI at q ⊢; simp only [upd, show ¬ (16 : Nat) = 24 from by decide, if_false]; exact q, by unfold bI; simp only [upd, if_true]; exact hv⟩
def okB3 (f : Nat → Int32) : Prop := bI f 0 (-300) 128 ∧ bI f 1 (-300) 40 ∧ bI f 4 (-1) 128 ∧ bI f 5 (-1) 39 ∧ bI f 6 (-1) 127 ∧ bI f 7 (-1) 39
theorem okB3_of {B : Int} {f : Nat → Int32} (h : okI B 3 f) : okB3 f := ⟨h.1, h.2.1, h.2.2.1, h.2.2.2.1, h.2.2.2.2.1, h.2.2.2.2.2.1⟩
theorem okI3_of {B : Int} {f : Nat → Int32} (h : okB3 f) (r : (f 3).toInt = 0 ∨ (0 ≤ (f 5).toInt ∧ 0 ≤ (f 4).toInt ∧ (f 5).toInt ≤ (f 7).toInt)) : okI B 3 f := ⟨h.1, h.2.1, h.2.2.1, h.2.2.2.1, h.2.2.2.2.1, h.2.2.2.2.2, r⟩
theorem oW_3_0 {f : Nat → Int32} (h : okB3 f) : (-300) ≤ (f 0).toInt ∧ (f 0).toInt ≤ 128 := h.1
theorem oW_3_1 {f : Nat → Int32} (h : okB3 f) : (-300) ≤ (f 1).toInt ∧ (f 1).toInt ≤ 40 := h.2.1
theorem oW_3_4 {f : Nat → Int32} (h : okB3 f) : (-1) ≤ (f 4).toInt ∧ (f 4).toInt ≤ 128 := h.2.2.1
theorem oW_3_5 {f : Nat → Int32} (h : okB3 f) : (-1) ≤ (f 5).toInt ∧ (f 5).toInt ≤ 39 := h.2.2.2.1
theorem oW_3_6 {f : Nat → Int32} (h : okB3 f) : (-1) ≤ (f 6).toInt ∧ (f 6).toInt ≤ 127 := h.2.2.2.2.1
theorem oW_3_7 {f : Nat → Int32} (h : okB3 f) : (-1) ≤ (f 7).toInt ∧ (f 7).toInt ≤ 39 := h.2.2.2.2.2
theorem oV_3_0 {f : Nat → Int32} {v : Int32} (h : okB3 f) (hv : (-300) ≤ v.toInt ∧ v.toInt ≤ 128) : okB3 (upd f 0 v) := ⟨by unfold bI; simp only [upd, if_true]; exact hv, by have q := h.2.1; unfold bI at q ⊢; simp only [upd, show ¬ (1 : Nat) = 0 from by decide, if_false]; exact q, by have q := h.2.2.1; unfold bI at q ⊢; simp only [upd, show ¬ (4 : Nat) = 0 from by decide, if_false]; exact q, by have q := h.2.2.2.1; unfold bI at q ⊢; simp only [upd, show ¬ (5 : Nat) = 0 from by decide, if_false]; exact q, by have q := h.2.2.2.2.1; unfold bI at q ⊢; simp only [upd, show ¬ (6 : Nat) = 0 from by decide, if_false]; exact q, by have q := h.2.2.2.2.2; unfold bI at q ⊢; simp only [upd, show ¬ (7 : Nat) = 0 from by decide, if_false]; exact q⟩
theorem oV_3_1 {f : Nat → Int32} {v : Int32} (h : okB3 f) (hv : (-300) ≤ v.toInt ∧ v.toInt ≤ 40) : okB3 (upd f 1 v) := ⟨by have q := h.1; unfold bI at q ⊢; simp only [upd, show ¬ (0 : Nat) = 1 from by decide, if_false]; exact q, by unfold bI; simp only [upd, if_true]; exact hv, by have q := h.2.2.1; unfold bI at q ⊢; simp only [upd, show ¬ (4 : Nat) = 1 from by decide, if_false]; exact q, by have q := h.2.2.2.1; unfold bI at q ⊢; simp only [upd, show ¬ (5 : Nat) = 1 from by decide, if_false]; exact q, by have q := h.2.2.2.2.1; unfold bI at q ⊢; simp only [upd, show ¬ (6 : Nat) = 1 from by decide, if_false]; exact q, by have q := h.2.2.2.2.2; unfold bI at q ⊢; simp only [upd, show ¬ (7 : Nat) = 1 from by decide, if_false]; exact q⟩
theorem oV_3_3 {f : Nat → Int32} {v : Int32} (h : okB3 f) : okB3 (upd f 3 v) := ⟨by have q := h.1; unfold bI at q ⊢; simp only [upd, show ¬ (0 : Nat) = 3 from by decide, if_false]; exact q, by have q := h.2.1; unfold bI at q ⊢; simp only [upd, show ¬ (1 : Nat) = 3 from by decide, if_false]; exact q, by have q := h.2.2.1; unfold bI at q ⊢; simp only [upd, show ¬ (4 : Nat) = 3 from by decide, if_false]; exact q, by have q := h.2.2.2.1; unfold bI at q ⊢; simp only [upd, show ¬ (5 : Nat) = 3 from by decide, if_false]; exact q, by have q := h.2.2.2.2.1; unfold bI at q ⊢; simp only [upd, show ¬ (6 : Nat) = 3 from by decide, if_false]; exact q, by have q := h.2.2.2.2.2; unfold bI at q ⊢; simp only [upd, show ¬ (7 : Nat) = 3 from by decide, if_false]; exact q⟩
theorem oV_3_4 {f : Nat → Int32} {v : Int32} (h : okB3 f) (hv : (-1) ≤ v.toInt ∧ v.toInt ≤ 128) : okB3 (upd f 4 v) := ⟨by have q := h.1; unfold bI at q ⊢; simp only [upd, show ¬ (0 : Nat) = 4 from by decide, if_false]; exact q, by have q := h.2.1; unfold bI at q ⊢; simp only [upd, show ¬ (1 : Nat) = 4 from by decide, if_false]; exact q, by unfold bI; simp only [upd, if_true]; exact hv, by have q := h.2.2.2.1; unfold bI at q ⊢; simp only [upd, show ¬ (5 : Nat) = 4 from by decide, if_false]; exact q, by have q := h.2.2.2.2.1; unfold bI at q ⊢; simp only [upd, show ¬ (6 : Nat) = 4 from by decide, if_false]; exact q, by have q := h.2.2.2.2.2; unfold bI at q ⊢; simp only [upd, show ¬ (7 : Nat) = 4 from by decide, if_false]; exact q⟩
theorem oV_3_5 {f : Nat → Int32} {v : Int32} (h : okB3 f) (hv : (-1) ≤ v.toInt ∧ v.toInt ≤ 39) : okB3 (upd f 5 v) := ⟨by have q := h.1; unfold bI at q ⊢; simp only [upd, show ¬ (0 : Nat) = 5 from by decide, if_false]; exact q, by have q := h.2.1; unfold bI at q ⊢; simp only [upd, show ¬ (1 : Nat) = 5 from by decide, if_false]; exact q, by have q := h.2.2.1; unfold bI at q ⊢; simp only [upd, show ¬ (4 : Nat) = 5 from by decide, if_false]; exact q, by unfold bI; simp only [upd, if_true]; exact hv, by have q := h.2.2.2.2.1; unfold bI at q ⊢; simp only [upd, show ¬ (6 : Nat) = 5 from by decide, if_false]; exact q, by have q := h.2.2.2.2.2; unfold bI at q ⊢; simp only [upd, show ¬ (7 : Nat) = 5 from by decide, if_false]; exact q⟩
theorem oV_3_6 {f : Nat → Int32} {v : Int32} (h : okB3 f) (hv : (-1) ≤ v.toInt ∧ v.toInt ≤ 127) : okB3 (upd f 6 v) := ⟨by have q := h.1; unfold bI at q ⊢; simp only [upd, show ¬ (0 : Nat) = 6 from by decide, if_false]; exact q, by have q := h.2.1; unfold bI at q ⊢; simp only [upd, show ¬ (1 : Nat) = 6 from by decide, if_false]; exact q, by have q := h.2.2.1; unfold bI at q ⊢; simp only [upd, show ¬ (4 : Nat) = 6 from by decide, if_false]; exact q, by have q := h.2.2.2.1; unfold bI at q ⊢; simp only [upd, show ¬ (5 : Nat) = 6 from by decide, if_false]; exact q, by unfold bI; simp only [upd, if_true]; exact hv, by have q := h.2.2.2.2.2; unfold bI at q ⊢; simp only [upd, show ¬ (7 : Nat) = 6 from by decide, if_false]; exact q⟩
theorem oV_3_7 {f : Nat → Int32} {v : Int32} (h : okB3 f) (hv : (-1) ≤ v.toInt ∧ v.toInt ≤ 39) : okB3 (upd f 7 v) := ⟨by have q := h.1; unfold bI at q ⊢; simp only [upd, show ¬ (0 : Nat) = 7 from by decide, if_false]; exact q, by have q := h.2.1; unfold bI at q ⊢; simp only [upd, show ¬ (1 : Nat) = 7 from by decide, if_false]; exact q, by have q := h.2.2.1; unfold bI at q ⊢; simp only [upd, show ¬ (4 : Nat) = 7 from by decide, if_false]; exact q, by have q := h.2.2.2.1; unfold bI at q ⊢; simp only [upd, show ¬ (5 : Nat) = 7 from by decide, if_false]; exact q, by have q := h.2.2.2.2.1; unfold bI at q ⊢; simp only [upd, show ¬ (6 : Nat) = 7 from by decide, if_false]; exact q, by unfold bI; simp only [upd, if_true]; exact hv⟩
theorem oP_3_3z {B : Int} {f : Nat → Int32} (h : okI B 3 f) : okI B 3 (upd f 3 0) := okI3_of (oV_3_3 (okB3_of h)) (Or.inl (by simp only [upd, if_true]; decide +kernel))
theorem oP_26 {B : Int} {f : Nat → Int32} {v : Int32} {i : Nat} (h : okI B 26 f) (hv : 0 ≤ v.toInt ∧ v.toInt ≤ 99 ∧ (i % 2 = 1 → v.toInt ≤ 39)) : okI B 26 (upd f i v) := by
  intro j
  unfold upd
  split
  · next q => rw [q]; exact hv
  · exact h j
theorem oP_29 {B : Int} {f : Nat → Int32} {v : Int32} {i : Nat} (h : okI B 29 f) (hv : -7000000 ≤ v.toInt ∧ v.toInt ≤ 7000000) : okI B 29 (upd f i v) := by
  intro j
  unfold upd
  split
  · exact hv
  · exact h j
theorem oR_29 {B : Int} {f : Nat → Int32} {i : Int32} (h : okI B 29 f) : -7000000 ≤ (f i.toNatClampNeg).toInt ∧ (f i.toNatClampNeg).toInt ≤ 7000000 := h _
theorem oP_18 {B : Int} {f : Nat → Int32} {v : Int32} {i : Nat} (h : okI B 18 f) (hv : rng B (i) v.toInt) : okI B 18 (upd f i v) := by
  intro j
  unfold upd
  split
  · next q => rw [q]; exact hv
  · exact h j
theorem oP_30 {B : Int} {f : Nat → Int32} {v : Int32} {i : Nat} (h : okI B 30 f) (hv : rng B (i) v.toInt) : okI B 30 (upd f i v) := by
  intro j
  unfold upd
  split
  · next q => rw [q]; exact hv
  · exact h j
theorem oP_19 {B : Int} {f : Nat → Int32} {v : Int32} {i : Nat} (h : okI B 19 f) (hv : rng B (i % 99) v.toInt) : okI B 19 (upd f i v) := by
  intro j
  unfold upd
  split
  · next q => rw [q]; exact hv
  · exact h j
theorem oP_20 {B : Int} {f : Nat → Int32} {v : Int32} {i : Nat} (h : okI B 20 f) (hv : rng B (i % 99) v.toInt) : okI B 20 (upd f i v) := by
  intro j
  unfold upd
  split
  · next q => rw [q]; exact hv
  · exact h j
theorem oR_18 {B : Int} {f : Nat → Int32} {i : Int32} {k : Int} (hi : i.toInt = k) (h : okI B 18 f) : rng B (k.toNat) (f i.toNatClampNeg).toInt := by
  subst hi; exact h _
theorem oU_18 {B : Int} {f : Nat → Int32} {i v : Int32} {k : Int} (hi : i.toInt = k) (h : okI B 18 f) (hv : rng B (k.toNat) v.toInt) : okI B 18 (upd f i.toNatClampNeg v) := by
  subst hi; exact oP_18 h hv
theorem oR_30 {B : Int} {f : Nat → Int32} {i : Int32} {k : Int} (hi : i.toInt = k) (h : okI B 30 f) : rng B (k.toNat) (f i.toNatClampNeg).toInt := by
  subst hi; exact h _
theorem oU_30 {B : Int} {f : Nat → Int32} {i v : Int32} {k : Int} (hi : i.toInt = k) (h : okI B 30 f) (hv : rng B (k.toNat) v.toInt) : okI B 30 (upd f i.toNatClampNeg v) := by
  subst hi; exact oP_30 h hv
theorem oR_19 {B : Int} {f : Nat → Int32} {i : Int32} {k : Int} (hi : i.toInt = k) (h : okI B 19 f) : rng B (k.toNat % 99) (f i.toNatClampNeg).toInt := by
  subst hi; exact h _
theorem oU_19 {B : Int} {f : Nat → Int32} {i v : Int32} {k : Int} (hi : i.toInt = k) (h : okI B 19 f) (hv : rng B (k.toNat % 99) v.toInt) : okI B 19 (upd f i.toNatClampNeg v) := by
  subst hi; exact oP_19 h hv
theorem oR_20 {B : Int} {f : Nat → Int32} {i : Int32} {k : Int} (hi : i.toInt = k) (h : okI B 20 f) : rng B (k.toNat % 99) (f i.toNatClampNeg).toInt := by
  subst hi; exact h _
theorem oU_20 {B : Int} {f : Nat → Int32} {i v : Int32} {k : Int} (hi : i.toInt = k) (h : okI B 20 f) (hv : rng B (k.toNat % 99) v.toInt) : okI B 20 (upd f i.toNatClampNeg v) := by
  subst hi; exact oP_20 h hv
theorem oR_26 {B : Int} {f : Nat → Int32} {i : Int32} {k : Int} (hi : i.toInt = k) (h : okI B 26 f) : 0 ≤ (f i.toNatClampNeg).toInt ∧ (f i.toNatClampNeg).toInt ≤ 99 ∧ (k.toNat % 2 = 1 → (f i.toNatClampNeg).toInt ≤ 39) := by
  subst hi; exact h _
theorem rng_mono {B C : Int} {i : Nat} {v : Int} (hB : B ≤ C) (h : rng B i v) : rng C i v := by
  unfold rng at h ⊢
  omega
theorem okI_mono {B C : Int} {κ : Nat} {f : Nat → Int32} (hB : B ≤ C) (h : okI B κ f) : okI C κ f := by
  unfold okI at h ⊢
  split at h <;> first | exact h | (unfold bI at h ⊢; omega) | (intro i; exact rng_mono hB (h i))
/-- where the references of a cell of kind κ lead -/
def okQ (L : List Nat) (K G : Nat → Nat) (κ g : Nat) (f : Nat → Option Nat) : Prop := match κ with
  | 1 => (∃ y, f 0 = some y ∧ y ∈ L ∧ K y = 13 ∧ G y = g) ∧ (∃ y, f 1 = some y ∧ y ∈ L ∧ K y = 14 ∧ G y = g)
  | 2 => (∃ y, f 0 = some y ∧ y ∈ L ∧ K y = 3 ∧ G y = 401) ∧ (∃ y, f 1 = some y ∧ y ∈ L ∧ K y = 11)
  | 3 => (∃ y, f 2 = some y ∧ y ∈ L ∧ K y = 12 ∧ G y = g)
  | 4 => (∃ y, f 0 = some y ∧ y ∈ L ∧ K y = 10)
  | 5 => (∃ y, f 0 = some y ∧ y ∈ L ∧ K y = 1 ∧ G y = 1) ∧ (∃ y, f 1 = some y ∧ y ∈ L ∧ K y = 15 ∧ G y = 2)
  | 6 => (∃ y, f 0 = some y ∧ y ∈ L ∧ K y = 10) ∧ (∃ y, f 2 = some y ∧ y ∈ L ∧ K y = 1 ∧ G y = 1) ∧ (∃ y, f 3 = some y ∧ y ∈ L ∧ K y = 1 ∧ G y = 3) ∧ (∃ y, f 4 = some y ∧ y ∈ L ∧ K y = 4) ∧ (∃ y, f 5 = some y ∧ y ∈ L ∧ K y = 5 ∧ G y = 1) ∧ (∃ y, f 6 = some y ∧ y ∈ L ∧ K y = 3 ∧ G y = 400) ∧ (∃ y, f 7 = some y ∧ y ∈ L ∧ K y = 2) ∧ (∃ y, f 8 = some y ∧ y ∈ L ∧ K y = 16) ∧ (∃ y, f 11 = some y ∧ y ∈ L ∧ K y = 17)
  | 7 => (∃ y, f 0 = some y ∧ y ∈ L ∧ K y = 18) ∧ (∃ y, f 1 = some y ∧ y ∈ L ∧ K y = 28) ∧ (∃ y, f 2 = some y ∧ y ∈ L ∧ K y = 30) ∧ (∃ y, f 3 = some y ∧ y ∈ L ∧ K y = 19) ∧ (∃ y, f 4 = some y ∧ y ∈ L ∧ K y = 20) ∧ (∃ y, f 5 = some y ∧ y ∈ L ∧ K y = 21) ∧ (∃ y, f 6 = some y ∧ y ∈ L ∧ K y = 32) ∧ (∃ y, f 7 = some y ∧ y ∈ L ∧ K y = 33) ∧ (∃ y, f 8 = some y ∧ y ∈ L ∧ K y = 22) ∧ (∃ y, f 9 = some y ∧ y ∈ L ∧ K y = 23) ∧ (∃ y, f 10 = some y ∧ y ∈ L ∧ K y = 24) ∧ (∃ y, f 12 = some y ∧ y ∈ L ∧ K y = 31) ∧ (∃ y, f 17 = some y ∧ y ∈ L ∧ K y = 25) ∧ (∃ y, f 19 = some y ∧ y ∈ L ∧ K y = 34) ∧ (∃ y, f 20 = some y ∧ y ∈ L ∧ K y = 26) ∧ (∃ y, f 21 = some y ∧ y ∈ L ∧ K y = 27) ∧ (∃ y, f 22 = some y ∧ y ∈ L ∧ K y = 11) ∧ (∃ y, f 25 = some y ∧ y ∈ L ∧ K y = 29)
  | 13 => (∀ i, i < 8 → ∃ y, f i = some y ∧ y ∈ L ∧ K y = 3 ∧ G y = 100 * g + i) ∧ ∀ i j, i < 8 → j < 8 → f i = f j → i = j
  | 14 => (∀ i, i < 10 → ∃ y, f i = some y ∧ y ∈ L ∧ K y = 0 ∧ G y = g) ∧ ∀ i j, i < 10 → j < 10 → f i = f j → i = j
  | 15 => (∀ i, i < 10 → ∃ y, f i = some y ∧ y ∈ L ∧ K y = 3 ∧ G y = 100 * g + i) ∧ ∀ i j, i < 10 → j < 10 → f i = f j → i = j
  | 16 => ∀ i, i < 10 → f i = none ∨ ∃ y, f i = some y ∧ y ∈ L ∧ K y = 1 ∧ G y = 20 + i
  | 17 => ∀ i, i < 2 → f i = none ∨ ∃ y, f i = some y ∧ y ∈ L ∧ K y = 1 ∧ G y = 6 + i
  | _ => True
theorem oQ_1_0 {L : List Nat} {K G : Nat → Nat} {g : Nat} {f : Nat → Option Nat} (h : okQ L K G 1 g f) : ∃ y, f 0 = some y ∧ y ∈ L ∧ K y = 13 ∧ G y = g := h.1
theorem oQ_1_1 {L : List Nat} {K G : Nat → Nat} {g : Nat} {f : Nat → Option Nat} (h : okQ L K G 1 g f) : ∃ y, f 1 = some y ∧ y ∈ L ∧ K y = 14 ∧ G y = g := h.2
theorem oQ_2_0 {L : List Nat} {K G : Nat → Nat} {g : Nat} {f : Nat → Option Nat} (h : okQ L K G 2 g f) : ∃ y, f 0 = some y ∧ y ∈ L ∧ K y = 3 ∧ G y = 401 := h.1
theorem oQ_2_1 {L : List Nat} {K G : Nat → Nat} {g : Nat} {f : Nat → Option Nat} (h : okQ L K G 2 g f) : ∃ y, f 1 = some y ∧ y ∈ L ∧ K y = 11 := h.2
theorem oQ_3_2 {L : List Nat} {K G : Nat → Nat} {g : Nat} {f : Nat → Option Nat} (h : okQ L K G 3 g f) : ∃ y, f 2 = some y ∧ y ∈ L ∧ K y = 12 ∧ G y = g := h
theorem oQ_4_0 {L : List Nat} {K G : Nat → Nat} {g : Nat} {f : Nat → Option Nat} (h : okQ L K G 4 g f) : ∃ y, f 0 = some y ∧ y ∈ L ∧ K y = 10 := h
theorem oQ_5_0 {L : List Nat} {K G : Nat → Nat} {g : Nat} {f : Nat → Option Nat} (h : okQ L K G 5 g f) : ∃ y, f 0 = some y ∧ y ∈ L ∧ K y = 1 ∧ G y = 1 := h.1
theorem oQ_5_1 {L : List Nat} {K G : Nat → Nat} {g : Nat} {f : Nat → Option Nat} (h : okQ L K G 5 g f) : ∃ y, f 1 = some y ∧ y ∈ L ∧ K y = 15 ∧ G y = 2 := h.2
theorem oQ_6_0 {L : List Nat} {K G : Nat → Nat} {g : Nat} {f : Nat → Option Nat} (h : okQ L K G 6 g f) : ∃ y, f 0 = some y ∧ y ∈ L ∧ K y = 10 := h.1
theorem oQ_6_2 {L : List Nat} {K G : Nat → Nat} {g : Nat} {f : Nat → Option Nat} (h : okQ L K G 6 g f) : ∃ y, f 2 = some y ∧ y ∈ L ∧ K y = 1 ∧ G y = 1 := h.2.1
theorem oQ_6_3 {L : List Nat} {K G : Nat → Nat} {g : Nat} {f : Nat → Option Nat} (h : okQ L K G 6 g f) : ∃ y, f 3 = some y ∧ y ∈ L ∧ K y = 1 ∧ G y = 3 := h.2.2.1
theorem oQ_6_4 {L : List Nat} {K G : Nat → Nat} {g : Nat} {f : Nat → Option Nat} (h : okQ L K G 6 g f) : ∃ y, f 4 = some y ∧ y ∈ L ∧ K y = 4 := h.2.2.2.1
theorem oQ_6_5 {L : List Nat} {K G : Nat → Nat} {g : Nat} {f : Nat → Option Nat} (h : okQ L K G 6 g f) : ∃ y, f 5 = some y ∧ y ∈ L ∧ K y = 5 ∧ G y = 1 := h.2.2.2.2.1
theorem oQ_6_6 {L : List Nat} {K G : Nat → Nat} {g : Nat} {f : Nat → Option Nat} (h : okQ L K G 6 g f) : ∃ y, f 6 = some y ∧ y ∈ L ∧ K y = 3 ∧ G y = 400 := h.2.2.2.2.2.1
theorem oQ_6_7 {L : List Nat} {K G : Nat → Nat} {g : Nat} {f : Nat → Option Nat} (h : okQ L K G 6 g f) : ∃ y, f 7 = some y ∧ y ∈ L ∧ K y = 2 := h.2.2.2.2.2.2.1
theorem oQ_6_8 {L : List Nat} {K G : Nat → Nat} {g : Nat} {f : Nat → Option Nat} (h : okQ L K G 6 g f) : ∃ y, f 8 = some y ∧ y ∈ L ∧ K y = 16 := h.2.2.2.2.2.2.2.1
theorem oQ_6_11 {L : List Nat} {K G : Nat → Nat} {g : Nat} {f : Nat → Option Nat} (h : okQ L K G 6 g f) : ∃ y, f 11 = some y ∧ y ∈ L ∧ K y = 17 := h.2.2.2.2.2.2.2.2
theorem oQ_7_0 {L : List Nat} {K G : Nat → Nat} {g : Nat} {f : Nat → Option Nat} (h : okQ L K G 7 g f) : ∃ y, f 0 = some y ∧ y ∈ L ∧ K y = 18 := h.1
theorem oQ_7_1 {L : List Nat} {K G : Nat → Nat} {g : Nat} {f : Nat → Option Nat} (h : okQ L K G 7 g f) : ∃ y, f 1 = some y ∧ y ∈ L ∧ K y = 28 := h.2.1
theorem oQ_7_2 {L : List Nat} {K G : Nat → Nat} {g : Nat} {f : Nat → Option Nat} (h : okQ L K G 7 g f) : ∃ y, f 2 = some y ∧ y ∈ L ∧ K y = 30 := h.2.2.1
theorem oQ_7_3 {L : List Nat} {K G : Nat → Nat} {g : Nat} {f : Nat → Option Nat} (h : okQ L K G 7 g f) : ∃ y, f 3 = some y ∧ y ∈ L ∧ K y = 19 := h.2.2.2.1
theorem oQ_7_4 {L : List Nat} {K G : Nat → Nat} {g : Nat} {f : Nat → Option Nat} (h : okQ L K G 7 g f) : ∃ y, f 4 = some y ∧ y ∈ L ∧ K y = 20 := h.2.2.2.2.1
theorem oQ_7_5 {L : List Nat} {K G : Nat → Nat} {g : Nat} {f : Nat → Option Nat} (h : okQ L K G 7 g f) : ∃ y, f 5 = some y ∧ y ∈ L ∧ K y = 21 := h.2.2.2.2.2.1
theorem oQ_7_6 {L : List Nat} {K G : Nat → Nat} {g : Nat} {f : Nat → Option Nat} (h : okQ L K G 7 g f) : ∃ y, f 6 = some y ∧ y ∈ L ∧ K y = 32 := h.2.2.2.2.2.2.1
theorem oQ_7_7 {L : List Nat} {K G : Nat → Nat} {g : Nat} {f : Nat → Option Nat} (h : okQ L K G 7 g f) : ∃ y, f 7 = some y ∧ y ∈ L ∧ K y = 33 := h.2.2.2.2.2.2.2.1
theorem oQ_7_8 {L : List Nat} {K G : Nat → Nat} {g : Nat} {f : Nat → Option Nat} (h : okQ L K G 7 g f) : ∃ y, f 8 = some y ∧ y ∈ L ∧ K y = 22 := h.2.2.2.2.2.2.2.2.1
theorem oQ_7_9 {L : List Nat} {K G : Nat → Nat} {g : Nat} {f : Nat → Option Nat} (h : okQ L K G 7 g f) : ∃ y, f 9 = some y ∧ y ∈ L ∧ K y = 23 := h.2.2.2.2.2.2.2.2.2.1
theorem oQ_7_10 {L : List Nat} {K G : Nat → Nat} {g : Nat} {f : Nat → Option Nat} (h : okQ L K G 7 g f) : ∃ y, f 10 = some y ∧ y ∈ L ∧ K y = 24 := h.2.2.2.2.2.2.2.2.2.2.1
theorem oQ_7_12 {L : List Nat} {K G : Nat → Nat} {g : Nat} {f : Nat → Option Nat} (h : okQ L K G 7 g f) : ∃ y, f 12 = some y ∧ y ∈ L ∧ K y = 31 := h.2.2.2.2.2.2.2.2.2.2.2.1
theorem oQ_7_17 {L : List Nat} {K G : Nat → Nat} {g : Nat} {f : Nat → Option Nat} (h : okQ L K G 7 g f) : ∃ y, f 17 = some y ∧ y ∈ L ∧ K y = 25 := h.2.2.2.2.2.2.2.2.2.2.2.2.1
theorem oQ_7_19 {L : List Nat} {K G : Nat → Nat} {g : Nat} {f : Nat → Option Nat} (h : okQ L K G 7 g f) : ∃ y, f 19 = some y ∧ y ∈ L ∧ K y = 34 := h.2.2.2.2.2.2.2.2.2.2.2.2.2.1
theorem oQ_7_20 {L : List Nat} {K G : Nat → Nat} {g : Nat} {f : Nat → Option Nat} (h : okQ L K G 7 g f) : ∃ y, f 20 = some y ∧ y ∈ L ∧ K y = 26 := h.2.2.2.2.2.2.2.2.2.2.2.2.2.2.1
theorem oQ_7_21 {L : List Nat} {K G : Nat → Nat} {g : Nat} {f : Nat → Option Nat} (h : okQ L K G 7 g f) : ∃ y, f 21 = some y ∧ y ∈ L ∧ K y = 27 := h.2.2.2.2.2.2.2.2.2.2.2.2.2.2.2.1
theorem oQ_7_22 {L : List Nat} {K G : Nat → Nat} {g : Nat} {f : Nat → Option Nat} (h : okQ L K G 7 g f) : ∃ y, f 22 = some y ∧ y ∈ L ∧ K y = 11 := h.2.2.2.2.2.2.2.2.2.2.2.2.2.2.2.2.1
theorem oQ_7_25 {L : List Nat} {K G : Nat → Nat} {g : Nat} {f : Nat → Option Nat} (h : okQ L K G 7 g f) : ∃ y, f 25 = some y ∧ y ∈ L ∧ K y = 29 := h.2.2.2.2.2.2.2.2.2.2.2.2.2.2.2.2.2
def Sv (L : List Nat) (K G : Nat → Nat) (Q : Nat → Nat → Option Nat) : Prop := ∀ a, a ∈ L → okQ L K G (K a) (G a) (Q a)
theorem Sv_at {L : List Nat} {K G : Nat → Nat} {Q : Nat → Nat → Option Nat} (h : Sv L K G Q) {a κ : Nat} (ha : a ∈ L) (hκ : K a = κ) : okQ L K G κ (G a) (Q a) := hκ ▸ h a ha
/-- the tapes: how long, where, what -/
abbrev GT := Int32 × Nat × (Nat → Int32)
def tpI (L : List Nat) (K : Nat → Nat) (tx tm : GT) (I : Nat → Nat → Int32) : Prop := (∀ a, a ∈ L → K a = 10 → a = tx.2.1 ∧ I a = tx.2.2 ∧ ∀ k, -128 ≤ (tx.2.2 k).toInt ∧ (tx.2.2 k).toInt ≤ 127) ∧ ∀ a, a ∈ L → K a = 31 → a = tm.2.1 ∧ I a = tm.2.2 ∧ ∀ k, -128 ≤ (tm.2.2 k).toInt ∧ (tm.2.2 k).toInt ≤ 127
theorem tpI_put {L : List Nat} {K : Nat → Nat} {tx tm : GT} {I : Nat → Nat → Int32} (h : tpI L K tx tm I) {a κ : Nat} (hκ : K a = κ) (f : Nat → Int32) (h10 : ¬ κ = 10) (h31 : ¬ κ = 31) : tpI L K tx tm (va_up I a f) := by
  refine ⟨fun b hb hk => ⟨(h.1 b hb hk).1, ?_, (h.1 b hb hk).2.2⟩, fun b hb hk => ⟨(h.2 b hb hk).1, ?_, (h.2 b hb hk).2.2⟩⟩
  · rw [va_up_ne _ _ (fun q => h10 (by rw [← hκ, ← q]; exact hk))]; exact (h.1 b hb hk).2.1
  · rw [va_up_ne _ _ (fun q => h31 (by rw [← hκ, ← q]; exact hk))]; exact (h.2 b hb hk).2.1
def Iv (L : List Nat) (K : Nat → Nat) (x0 m0 : Nat) (tx : GT) (tm : GT × Int) (I : Nat → Nat → Int32) : Prop := (∀ a, a ∈ L → okI tm.2 (K a) (I a)) ∧ (K x0 = 6 ∧ K m0 = 7) ∧ I x0 1 = tx.1 ∧ I m0 13 = tm.1.1 ∧ (999 ≤ tm.2 ∧ tm.2 ≤ 6000000) ∧ tpI L K tx tm.1 I
theorem Iv_at {L : List Nat} {K : Nat → Nat} {x0 m0 : Nat} {tx : GT} {tm : GT × Int} {I : Nat → Nat → Int32} (h : Iv L K x0 m0 tx tm I) {a κ : Nat} (ha : a ∈ L) (hκ : K a = κ) : okI tm.2 κ (I a) := hκ ▸ h.1 a ha
/-- the same, but the cell w, a Mask, keeps its bounds alone -/
def Iw (L : List Nat) (K : Nat → Nat) (x0 m0 : Nat) (tx : GT) (tm : GT × Int) (w : Nat) (I : Nat → Nat → Int32) : Prop := (∀ a, a ∈ L → ¬ a = w → okI tm.2 (K a) (I a)) ∧ okB3 (I w) ∧ K w = 3 ∧ (K x0 = 6 ∧ K m0 = 7) ∧ I x0 1 = tx.1 ∧ I m0 13 = tm.1.1 ∧ (999 ≤ tm.2 ∧ tm.2 ≤ 6000000) ∧ tpI L K tx tm.1 I
theorem Iw_of {L : List Nat} {K : Nat → Nat} {x0 m0 : Nat} {tx : GT} {tm : GT × Int} {w : Nat} {I : Nat → Nat → Int32} (hL : w ∈ L) (hK : K w = 3) (h : Iv L K x0 m0 tx tm I) : Iw L K x0 m0 tx tm w I := ⟨fun a ha _ => h.1 a ha, okB3_of (Iv_at h hL hK), hK, h.2⟩
theorem Iw_at {L : List Nat} {K : Nat → Nat} {x0 m0 : Nat} {tx : GT} {tm : GT × Int} {w : Nat} {I : Nat → Nat → Int32} (h : Iw L K x0 m0 tx tm w I) {a : Nat} (ha : a ∈ L) (hκ : K a = 3) : okB3 (I a) := by
  by_cases q : a = w
  · rw [q]; exact h.2.1
  · exact okB3_of (hκ ▸ h.1 a ha q)
theorem Iw_up {L : List Nat} {K : Nat → Nat} {x0 m0 : Nat} {tx : GT} {tm : GT × Int} {w : Nat} {I : Nat → Nat → Int32} (h : Iw L K x0 m0 tx tm w I) (r : (I w 3).toInt = 0 ∨ (0 ≤ (I w 5).toInt ∧ 0 ≤ (I w 4).toInt ∧ (I w 5).toInt ≤ (I w 7).toInt)) : Iv L K x0 m0 tx tm I := by
  refine ⟨fun a ha => ?_, h.2.2.2⟩
  by_cases q : a = w
  · rw [q, h.2.2.1]; exact okI3_of h.2.1 r
  · exact h.1 a ha q
theorem Iw_put {L : List Nat} {K : Nat → Nat} {x0 m0 : Nat} {tx : GT} {tm : GT × Int} {w : Nat} {I : Nat → Nat → Int32} (h : Iw L K x0 m0 tx tm w I) {k : Nat} {v : Int32} (hok : okB3 (upd (I w) k v)) : Iw L K x0 m0 tx tm w (va_up I w (upd (I w) k v)) := by
  have n1 : ¬ x0 = w := fun q => by have := h.2.2.2.1.1; rw [q, h.2.2.1] at this; exact absurd this (by decide)
  have n2 : ¬ m0 = w := fun q => by have := h.2.2.2.1.2; rw [q, h.2.2.1] at this; exact absurd this (by decide)
  refine ⟨fun b hb q => ?_, by rw [va_up_self]; exact hok, h.2.2.1, h.2.2.2.1, ?_, ?_, h.2.2.2.2.2.2.1, tpI_put h.2.2.2.2.2.2.2 h.2.2.1 _ (by decide) (by decide)⟩
  · rw [va_up_ne _ _ q]; exact h.1 b hb q
  · rw [va_up_ne _ _ n1]; exact h.2.2.2.2.1
  · rw [va_up_ne _ _ n2]; exact h.2.2.2.2.2.1
theorem Iv_put {L : List Nat} {K : Nat → Nat} {x0 m0 : Nat} {tx : GT} {tm : GT × Int} {I : Nat → Nat → Int32} (h : Iv L K x0 m0 tx tm I) {a κ : Nat} (hκ : K a = κ) {k : Nat} {v : Int32} (hok : okI tm.2 κ (upd (I a) k v)) (h6 : κ ≠ 6 ∨ k ≠ 1) (h7 : κ ≠ 7 ∨ k ≠ 13) (h10 : ¬ κ = 10 := by decide) (h31 : ¬ κ = 31 := by decide) : Iv L K x0 m0 tx tm (va_up I a (upd (I a) k v)) := by
  refine ⟨fun b hb => ?_, h.2.1, ?_, ?_, h.2.2.2.2.1, tpI_put h.2.2.2.2.2 hκ _ h10 h31⟩
  · by_cases q : b = a
    · rw [q, va_up_self, hκ]; exact hok
    · rw [va_up_ne _ _ q]; exact h.1 b hb
  · by_cases q : x0 = a
    · have e6 : κ = 6 := by rw [← hκ, ← q]; exact h.2.1.1
      have e1 : ¬ (1 : Nat) = k := fun z => h6.elim (fun w => w e6) (fun w => w z.symm)
      rw [← q, va_up_self]; simp only [upd, e1, if_false]; exact h.2.2.1
    · rw [va_up_ne _ _ q]; exact h.2.2.1
  · by_cases q : m0 = a
    · have e6 : κ = 7 := by rw [← hκ, ← q]; exact h.2.1.2
      have e1 : ¬ (13 : Nat) = k := fun z => h7.elim (fun w => w e6) (fun w => w z.symm)
      rw [← q, va_up_self]; simp only [upd, e1, if_false]; exact h.2.2.2.1
    · rw [va_up_ne _ _ q]; exact h.2.2.2.1
theorem Iv_fx {L : List Nat} {K : Nat → Nat} {x0 m0 : Nat} {tx : GT} {tm : GT × Int} {I : Nat → Nat → Int32} (h : Iv L K x0 m0 tx tm I) : Iv L K x0 m0 (I x0 1, tx.2.1, I tx.2.1) tm I := ⟨h.1, h.2.1, rfl, h.2.2.2.1, h.2.2.2.2.1, fun a ha hk => by
  have q := h.2.2.2.2.2.1 a ha hk
  refine ⟨q.1, congrArg I q.1, ?_⟩
  show ∀ k, -128 ≤ (I tx.2.1 k).toInt ∧ (I tx.2.1 k).toInt ≤ 127
  rw [← q.1, q.2.1]; exact q.2.2, h.2.2.2.2.2.2⟩
theorem Iv_fm {L : List Nat} {K : Nat → Nat} {x0 m0 : Nat} {tx : GT} {tm : GT × Int} {I : Nat → Nat → Int32} (h : Iv L K x0 m0 tx tm I) : Iv L K x0 m0 tx ((I m0 13, tm.1.2.1, I tm.1.2.1), tm.2) I := ⟨h.1, h.2.1, h.2.2.1, rfl, h.2.2.2.2.1, h.2.2.2.2.2.1, fun a ha hk => by
  have q := h.2.2.2.2.2.2 a ha hk
  refine ⟨q.1, congrArg I q.1, ?_⟩
  show ∀ k, -128 ≤ (I tm.1.2.1 k).toInt ∧ (I tm.1.2.1 k).toInt ≤ 127
  rw [← q.1, q.2.1]; exact q.2.2⟩
theorem Iv_putx {L : List Nat} {K : Nat → Nat} {x0 m0 : Nat} {tx : GT} {tm : GT × Int} {I : Nat → Nat → Int32} (h : Iv L K x0 m0 tx tm I) {a κ : Nat} (hκ : K a = κ) {k : Nat} {v : Int32} (hok : okI tm.2 κ (upd (I a) k v)) (_ : True) (h7 : κ ≠ 7 ∨ k ≠ 13) (h10 : κ = 10 → -128 ≤ v.toInt ∧ v.toInt ≤ 127 := by intro h; exact absurd h (by decide)) (h31 : ¬ κ = 31 := by decide) : Iv L K x0 m0 (va_up I a (upd (I a) k v) x0 1, tx.2.1, va_up I a (upd (I a) k v) tx.2.1) tm (va_up I a (upd (I a) k v)) := by
  refine ⟨fun b hb => ?_, h.2.1, rfl, ?_, h.2.2.2.2.1, fun b hb hk => ⟨(h.2.2.2.2.2.1 b hb hk).1, congrArg _ (h.2.2.2.2.2.1 b hb hk).1, ?_⟩, fun b hb hk => ⟨(h.2.2.2.2.2.2 b hb hk).1, ?_, (h.2.2.2.2.2.2 b hb hk).2.2⟩⟩
  · by_cases q : b = a
    · rw [q, va_up_self, hκ]; exact hok
    · rw [va_up_ne _ _ q]; exact h.1 b hb
  · by_cases q : m0 = a
    · have e6 : κ = 7 := by rw [← hκ, ← q]; exact h.2.1.2
      have e1 : ¬ (13 : Nat) = k := fun z => h7.elim (fun w => w e6) (fun w => w z.symm)
      rw [← q, va_up_self]; simp only [upd, e1, if_false]; exact h.2.2.2.1
    · rw [va_up_ne _ _ q]; exact h.2.2.2.1
  · obtain ⟨q1, q2, q3⟩ := h.2.2.2.2.2.1 b hb hk
    intro j
    show -128 ≤ (va_up I a (upd (I a) k v) tx.2.1 j).toInt ∧ (va_up I a (upd (I a) k v) tx.2.1 j).toInt ≤ 127
    rw [← q1]
    by_cases q : b = a
    · rw [q, va_up_self]
      unfold upd
      split
      · exact h10 (by rw [← hκ, ← q]; exact hk)
      · rw [← q, q2]; exact q3 j
    · rw [va_up_ne _ _ q, q2]; exact q3 j
  · rw [va_up_ne _ _ (fun q => h31 (by rw [← hκ, ← q]; exact hk))]; exact (h.2.2.2.2.2.2 b hb hk).2.1
theorem Iv_putm {L : List Nat} {K : Nat → Nat} {x0 m0 : Nat} {tx : GT} {tm : GT × Int} {I : Nat → Nat → Int32} (h : Iv L K x0 m0 tx tm I) {a κ : Nat} (hκ : K a = κ) {k : Nat} {v : Int32} (hok : okI tm.2 κ (upd (I a) k v)) (h6 : κ ≠ 6 ∨ k ≠ 1) (_ : True) (h10 : ¬ κ = 10 := by decide) (h31 : κ = 31 → -128 ≤ v.toInt ∧ v.toInt ≤ 127 := by intro h; exact absurd h (by decide)) : Iv L K x0 m0 tx ((va_up I a (upd (I a) k v) m0 13, tm.1.2.1, va_up I a (upd (I a) k v) tm.1.2.1), tm.2) (va_up I a (upd (I a) k v)) := by
  refine ⟨fun b hb => ?_, h.2.1, ?_, rfl, h.2.2.2.2.1, fun b hb hk => ⟨(h.2.2.2.2.2.1 b hb hk).1, ?_, (h.2.2.2.2.2.1 b hb hk).2.2⟩, fun b hb hk => ⟨(h.2.2.2.2.2.2 b hb hk).1, congrArg _ (h.2.2.2.2.2.2 b hb hk).1, ?_⟩⟩
  · by_cases q : b = a
    · rw [q, va_up_self, hκ]; exact hok
    · rw [va_up_ne _ _ q]; exact h.1 b hb
  · by_cases q : x0 = a
    · have e6 : κ = 6 := by rw [← hκ, ← q]; exact h.2.1.1
      have e1 : ¬ (1 : Nat) = k := fun z => h6.elim (fun w => w e6) (fun w => w z.symm)
      rw [← q, va_up_self]; simp only [upd, e1, if_false]; exact h.2.2.1
    · rw [va_up_ne _ _ q]; exact h.2.2.1
  · rw [va_up_ne _ _ (fun q => h10 (by rw [← hκ, ← q]; exact hk))]; exact (h.2.2.2.2.2.1 b hb hk).2.1
  · obtain ⟨q1, q2, q3⟩ := h.2.2.2.2.2.2 b hb hk
    intro j
    show -128 ≤ (va_up I a (upd (I a) k v) tm.1.2.1 j).toInt ∧ (va_up I a (upd (I a) k v) tm.1.2.1 j).toInt ≤ 127
    rw [← q1]
    by_cases q : b = a
    · rw [q, va_up_self]
      unfold upd
      split
      · exact h31 (by rw [← hκ, ← q]; exact hk)
      · rw [← q, q2]; exact q3 j
    · rw [va_up_ne _ _ q, q2]; exact q3 j
theorem Iv_mono {L : List Nat} {K : Nat → Nat} {x0 m0 : Nat} {tx t : GT} {B C : Int} {I : Nat → Nat → Int32} (h : Iv L K x0 m0 tx (t, B) I) (hB : B ≤ C) (hC : C ≤ 6000000) : Iv L K x0 m0 tx (t, C) I := by
  refine ⟨fun a ha => ?_, h.2.1, h.2.2.1, h.2.2.2.1, ⟨Int.le_trans h.2.2.2.2.1.1 hB, hC⟩, h.2.2.2.2.2⟩
  exact okI_mono hB (h.1 a ha)
theorem oS_0_0 (cs : Nat → ClassId) (fi : Nat → Int32) (fj : Nat → Int64) (fq : Nat → Option Nat) (v : Int32) : Sum.inr (0, ([.int (fi 0), .int (fi 1), .int (fi 2), .int (fi 3), .int (fi 4), .int (fi 5), .int (fi 6), .int (fi 7)] : List Value).set 0 (.int v)) = ent cs 0 (upd fi 0 v) fj fq := by simp [ent, upd]
theorem oS_0_1 (cs : Nat → ClassId) (fi : Nat → Int32) (fj : Nat → Int64) (fq : Nat → Option Nat) (v : Int32) : Sum.inr (0, ([.int (fi 0), .int (fi 1), .int (fi 2), .int (fi 3), .int (fi 4), .int (fi 5), .int (fi 6), .int (fi 7)] : List Value).set 1 (.int v)) = ent cs 0 (upd fi 1 v) fj fq := by simp [ent, upd]
theorem oS_0_2 (cs : Nat → ClassId) (fi : Nat → Int32) (fj : Nat → Int64) (fq : Nat → Option Nat) (v : Int32) : Sum.inr (0, ([.int (fi 0), .int (fi 1), .int (fi 2), .int (fi 3), .int (fi 4), .int (fi 5), .int (fi 6), .int (fi 7)] : List Value).set 2 (.int v)) = ent cs 0 (upd fi 2 v) fj fq := by simp [ent, upd]
theorem oS_0_3 (cs : Nat → ClassId) (fi : Nat → Int32) (fj : Nat → Int64) (fq : Nat → Option Nat) (v : Int32) : Sum.inr (0, ([.int (fi 0), .int (fi 1), .int (fi 2), .int (fi 3), .int (fi 4), .int (fi 5), .int (fi 6), .int (fi 7)] : List Value).set 3 (.int v)) = ent cs 0 (upd fi 3 v) fj fq := by simp [ent, upd]
theorem oS_0_4 (cs : Nat → ClassId) (fi : Nat → Int32) (fj : Nat → Int64) (fq : Nat → Option Nat) (v : Int32) : Sum.inr (0, ([.int (fi 0), .int (fi 1), .int (fi 2), .int (fi 3), .int (fi 4), .int (fi 5), .int (fi 6), .int (fi 7)] : List Value).set 4 (.int v)) = ent cs 0 (upd fi 4 v) fj fq := by simp [ent, upd]
theorem oS_0_5 (cs : Nat → ClassId) (fi : Nat → Int32) (fj : Nat → Int64) (fq : Nat → Option Nat) (v : Int32) : Sum.inr (0, ([.int (fi 0), .int (fi 1), .int (fi 2), .int (fi 3), .int (fi 4), .int (fi 5), .int (fi 6), .int (fi 7)] : List Value).set 5 (.int v)) = ent cs 0 (upd fi 5 v) fj fq := by simp [ent, upd]
theorem oS_0_6 (cs : Nat → ClassId) (fi : Nat → Int32) (fj : Nat → Int64) (fq : Nat → Option Nat) (v : Int32) : Sum.inr (0, ([.int (fi 0), .int (fi 1), .int (fi 2), .int (fi 3), .int (fi 4), .int (fi 5), .int (fi 6), .int (fi 7)] : List Value).set 6 (.int v)) = ent cs 0 (upd fi 6 v) fj fq := by simp [ent, upd]
theorem oS_0_7 (cs : Nat → ClassId) (fi : Nat → Int32) (fj : Nat → Int64) (fq : Nat → Option Nat) (v : Int32) : Sum.inr (0, ([.int (fi 0), .int (fi 1), .int (fi 2), .int (fi 3), .int (fi 4), .int (fi 5), .int (fi 6), .int (fi 7)] : List Value).set 7 (.int v)) = ent cs 0 (upd fi 7 v) fj fq := by simp [ent, upd]
theorem oS_1_2 (cs : Nat → ClassId) (fi : Nat → Int32) (fj : Nat → Int64) (fq : Nat → Option Nat) (v : Int32) : Sum.inr (1, ([va_rf (fq 0), va_rf (fq 1), .int (fi 2), .int (fi 3), .int (fi 4)] : List Value).set 2 (.int v)) = ent cs 1 (upd fi 2 v) fj fq := by simp [ent, upd]
theorem oS_1_3 (cs : Nat → ClassId) (fi : Nat → Int32) (fj : Nat → Int64) (fq : Nat → Option Nat) (v : Int32) : Sum.inr (1, ([va_rf (fq 0), va_rf (fq 1), .int (fi 2), .int (fi 3), .int (fi 4)] : List Value).set 3 (.int v)) = ent cs 1 (upd fi 3 v) fj fq := by simp [ent, upd]
theorem oS_1_4 (cs : Nat → ClassId) (fi : Nat → Int32) (fj : Nat → Int64) (fq : Nat → Option Nat) (v : Int32) : Sum.inr (1, ([va_rf (fq 0), va_rf (fq 1), .int (fi 2), .int (fi 3), .int (fi 4)] : List Value).set 4 (.int v)) = ent cs 1 (upd fi 4 v) fj fq := by simp [ent, upd]
theorem oS_2_2 (cs : Nat → ClassId) (fi : Nat → Int32) (fj : Nat → Int64) (fq : Nat → Option Nat) (v : Int32) : Sum.inr (2, ([va_rf (fq 0), va_rf (fq 1), .int (fi 2), .int (fi 3), .int (fi 4), .int (fi 5), .int (fi 6), .int (fi 7)] : List Value).set 2 (.int v)) = ent cs 2 (upd fi 2 v) fj fq := by simp [ent, upd]
theorem oS_2_3 (cs : Nat → ClassId) (fi : Nat → Int32) (fj : Nat → Int64) (fq : Nat → Option Nat) (v : Int32) : Sum.inr (2, ([va_rf (fq 0), va_rf (fq 1), .int (fi 2), .int (fi 3), .int (fi 4), .int (fi 5), .int (fi 6), .int (fi 7)] : List Value).set 3 (.int v)) = ent cs 2 (upd fi 3 v) fj fq := by simp [ent, upd]
theorem oS_2_4 (cs : Nat → ClassId) (fi : Nat → Int32) (fj : Nat → Int64) (fq : Nat → Option Nat) (v : Int32) : Sum.inr (2, ([va_rf (fq 0), va_rf (fq 1), .int (fi 2), .int (fi 3), .int (fi 4), .int (fi 5), .int (fi 6), .int (fi 7)] : List Value).set 4 (.int v)) = ent cs 2 (upd fi 4 v) fj fq := by simp [ent, upd]
theorem oS_2_5 (cs : Nat → ClassId) (fi : Nat → Int32) (fj : Nat → Int64) (fq : Nat → Option Nat) (v : Int32) : Sum.inr (2, ([va_rf (fq 0), va_rf (fq 1), .int (fi 2), .int (fi 3), .int (fi 4), .int (fi 5), .int (fi 6), .int (fi 7)] : List Value).set 5 (.int v)) = ent cs 2 (upd fi 5 v) fj fq := by simp [ent, upd]
theorem oS_2_6 (cs : Nat → ClassId) (fi : Nat → Int32) (fj : Nat → Int64) (fq : Nat → Option Nat) (v : Int32) : Sum.inr (2, ([va_rf (fq 0), va_rf (fq 1), .int (fi 2), .int (fi 3), .int (fi 4), .int (fi 5), .int (fi 6), .int (fi 7)] : List Value).set 6 (.int v)) = ent cs 2 (upd fi 6 v) fj fq := by simp [ent, upd]
theorem oS_2_7 (cs : Nat → ClassId) (fi : Nat → Int32) (fj : Nat → Int64) (fq : Nat → Option Nat) (v : Int32) : Sum.inr (2, ([va_rf (fq 0), va_rf (fq 1), .int (fi 2), .int (fi 3), .int (fi 4), .int (fi 5), .int (fi 6), .int (fi 7)] : List Value).set 7 (.int v)) = ent cs 2 (upd fi 7 v) fj fq := by simp [ent, upd]
theorem oS_3_0 (cs : Nat → ClassId) (fi : Nat → Int32) (fj : Nat → Int64) (fq : Nat → Option Nat) (v : Int32) : Sum.inr (3, ([.int (fi 0), .int (fi 1), va_rf (fq 2), .int (fi 3), .int (fi 4), .int (fi 5), .int (fi 6), .int (fi 7)] : List Value).set 0 (.int v)) = ent cs 3 (upd fi 0 v) fj fq := by simp [ent, upd]
theorem oS_3_1 (cs : Nat → ClassId) (fi : Nat → Int32) (fj : Nat → Int64) (fq : Nat → Option Nat) (v : Int32) : Sum.inr (3, ([.int (fi 0), .int (fi 1), va_rf (fq 2), .int (fi 3), .int (fi 4), .int (fi 5), .int (fi 6), .int (fi 7)] : List Value).set 1 (.int v)) = ent cs 3 (upd fi 1 v) fj fq := by simp [ent, upd]
theorem oS_3_3 (cs : Nat → ClassId) (fi : Nat → Int32) (fj : Nat → Int64) (fq : Nat → Option Nat) (v : Int32) : Sum.inr (3, ([.int (fi 0), .int (fi 1), va_rf (fq 2), .int (fi 3), .int (fi 4), .int (fi 5), .int (fi 6), .int (fi 7)] : List Value).set 3 (.int v)) = ent cs 3 (upd fi 3 v) fj fq := by simp [ent, upd]
theorem oS_3_4 (cs : Nat → ClassId) (fi : Nat → Int32) (fj : Nat → Int64) (fq : Nat → Option Nat) (v : Int32) : Sum.inr (3, ([.int (fi 0), .int (fi 1), va_rf (fq 2), .int (fi 3), .int (fi 4), .int (fi 5), .int (fi 6), .int (fi 7)] : List Value).set 4 (.int v)) = ent cs 3 (upd fi 4 v) fj fq := by simp [ent, upd]
theorem oS_3_5 (cs : Nat → ClassId) (fi : Nat → Int32) (fj : Nat → Int64) (fq : Nat → Option Nat) (v : Int32) : Sum.inr (3, ([.int (fi 0), .int (fi 1), va_rf (fq 2), .int (fi 3), .int (fi 4), .int (fi 5), .int (fi 6), .int (fi 7)] : List Value).set 5 (.int v)) = ent cs 3 (upd fi 5 v) fj fq := by simp [ent, upd]
theorem oS_3_6 (cs : Nat → ClassId) (fi : Nat → Int32) (fj : Nat → Int64) (fq : Nat → Option Nat) (v : Int32) : Sum.inr (3, ([.int (fi 0), .int (fi 1), va_rf (fq 2), .int (fi 3), .int (fi 4), .int (fi 5), .int (fi 6), .int (fi 7)] : List Value).set 6 (.int v)) = ent cs 3 (upd fi 6 v) fj fq := by simp [ent, upd]
theorem oS_3_7 (cs : Nat → ClassId) (fi : Nat → Int32) (fj : Nat → Int64) (fq : Nat → Option Nat) (v : Int32) : Sum.inr (3, ([.int (fi 0), .int (fi 1), va_rf (fq 2), .int (fi 3), .int (fi 4), .int (fi 5), .int (fi 6), .int (fi 7)] : List Value).set 7 (.int v)) = ent cs 3 (upd fi 7 v) fj fq := by simp [ent, upd]
theorem oS_4_1 (cs : Nat → ClassId) (fi : Nat → Int32) (fj : Nat → Int64) (fq : Nat → Option Nat) (v : Int32) : Sum.inr (4, ([va_rf (fq 0), .int (fi 1), .int (fi 2), .int (fi 3), .int (fi 4), .int (fi 5)] : List Value).set 1 (.int v)) = ent cs 4 (upd fi 1 v) fj fq := by simp [ent, upd]
theorem oS_4_2 (cs : Nat → ClassId) (fi : Nat → Int32) (fj : Nat → Int64) (fq : Nat → Option Nat) (v : Int32) : Sum.inr (4, ([va_rf (fq 0), .int (fi 1), .int (fi 2), .int (fi 3), .int (fi 4), .int (fi 5)] : List Value).set 2 (.int v)) = ent cs 4 (upd fi 2 v) fj fq := by simp [ent, upd]
theorem oS_4_3 (cs : Nat → ClassId) (fi : Nat → Int32) (fj : Nat → Int64) (fq : Nat → Option Nat) (v : Int32) : Sum.inr (4, ([va_rf (fq 0), .int (fi 1), .int (fi 2), .int (fi 3), .int (fi 4), .int (fi 5)] : List Value).set 3 (.int v)) = ent cs 4 (upd fi 3 v) fj fq := by simp [ent, upd]
theorem oS_4_4 (cs : Nat → ClassId) (fi : Nat → Int32) (fj : Nat → Int64) (fq : Nat → Option Nat) (v : Int32) : Sum.inr (4, ([va_rf (fq 0), .int (fi 1), .int (fi 2), .int (fi 3), .int (fi 4), .int (fi 5)] : List Value).set 4 (.int v)) = ent cs 4 (upd fi 4 v) fj fq := by simp [ent, upd]
theorem oS_4_5 (cs : Nat → ClassId) (fi : Nat → Int32) (fj : Nat → Int64) (fq : Nat → Option Nat) (v : Int32) : Sum.inr (4, ([va_rf (fq 0), .int (fi 1), .int (fi 2), .int (fi 3), .int (fi 4), .int (fi 5)] : List Value).set 5 (.int v)) = ent cs 4 (upd fi 5 v) fj fq := by simp [ent, upd]
theorem oS_5_2 (cs : Nat → ClassId) (fi : Nat → Int32) (fj : Nat → Int64) (fq : Nat → Option Nat) (v : Int32) : Sum.inr (5, ([va_rf (fq 0), va_rf (fq 1), .int (fi 2), .int (fi 3), .int (fi 4), .int (fi 5), .int (fi 6), .int (fi 7), .int (fi 8)] : List Value).set 2 (.int v)) = ent cs 5 (upd fi 2 v) fj fq := by simp [ent, upd]
theorem oS_5_3 (cs : Nat → ClassId) (fi : Nat → Int32) (fj : Nat → Int64) (fq : Nat → Option Nat) (v : Int32) : Sum.inr (5, ([va_rf (fq 0), va_rf (fq 1), .int (fi 2), .int (fi 3), .int (fi 4), .int (fi 5), .int (fi 6), .int (fi 7), .int (fi 8)] : List Value).set 3 (.int v)) = ent cs 5 (upd fi 3 v) fj fq := by simp [ent, upd]
theorem oS_5_4 (cs : Nat → ClassId) (fi : Nat → Int32) (fj : Nat → Int64) (fq : Nat → Option Nat) (v : Int32) : Sum.inr (5, ([va_rf (fq 0), va_rf (fq 1), .int (fi 2), .int (fi 3), .int (fi 4), .int (fi 5), .int (fi 6), .int (fi 7), .int (fi 8)] : List Value).set 4 (.int v)) = ent cs 5 (upd fi 4 v) fj fq := by simp [ent, upd]
theorem oS_5_5 (cs : Nat → ClassId) (fi : Nat → Int32) (fj : Nat → Int64) (fq : Nat → Option Nat) (v : Int32) : Sum.inr (5, ([va_rf (fq 0), va_rf (fq 1), .int (fi 2), .int (fi 3), .int (fi 4), .int (fi 5), .int (fi 6), .int (fi 7), .int (fi 8)] : List Value).set 5 (.int v)) = ent cs 5 (upd fi 5 v) fj fq := by simp [ent, upd]
theorem oS_5_6 (cs : Nat → ClassId) (fi : Nat → Int32) (fj : Nat → Int64) (fq : Nat → Option Nat) (v : Int32) : Sum.inr (5, ([va_rf (fq 0), va_rf (fq 1), .int (fi 2), .int (fi 3), .int (fi 4), .int (fi 5), .int (fi 6), .int (fi 7), .int (fi 8)] : List Value).set 6 (.int v)) = ent cs 5 (upd fi 6 v) fj fq := by simp [ent, upd]
theorem oS_5_7 (cs : Nat → ClassId) (fi : Nat → Int32) (fj : Nat → Int64) (fq : Nat → Option Nat) (v : Int32) : Sum.inr (5, ([va_rf (fq 0), va_rf (fq 1), .int (fi 2), .int (fi 3), .int (fi 4), .int (fi 5), .int (fi 6), .int (fi 7), .int (fi 8)] : List Value).set 7 (.int v)) = ent cs 5 (upd fi 7 v) fj fq := by simp [ent, upd]
theorem oS_5_8 (cs : Nat → ClassId) (fi : Nat → Int32) (fj : Nat → Int64) (fq : Nat → Option Nat) (v : Int32) : Sum.inr (5, ([va_rf (fq 0), va_rf (fq 1), .int (fi 2), .int (fi 3), .int (fi 4), .int (fi 5), .int (fi 6), .int (fi 7), .int (fi 8)] : List Value).set 8 (.int v)) = ent cs 5 (upd fi 8 v) fj fq := by simp [ent, upd]
theorem oS_6_1 (cs : Nat → ClassId) (fi : Nat → Int32) (fj : Nat → Int64) (fq : Nat → Option Nat) (v : Int32) : Sum.inr (6, ([va_rf (fq 0), .int (fi 1), va_rf (fq 2), va_rf (fq 3), va_rf (fq 4), va_rf (fq 5), va_rf (fq 6), va_rf (fq 7), va_rf (fq 8), .int (fi 9), .int (fi 10), va_rf (fq 11)] : List Value).set 1 (.int v)) = ent cs 6 (upd fi 1 v) fj fq := by simp [ent, upd]
theorem oS_6_9 (cs : Nat → ClassId) (fi : Nat → Int32) (fj : Nat → Int64) (fq : Nat → Option Nat) (v : Int32) : Sum.inr (6, ([va_rf (fq 0), .int (fi 1), va_rf (fq 2), va_rf (fq 3), va_rf (fq 4), va_rf (fq 5), va_rf (fq 6), va_rf (fq 7), va_rf (fq 8), .int (fi 9), .int (fi 10), va_rf (fq 11)] : List Value).set 9 (.int v)) = ent cs 6 (upd fi 9 v) fj fq := by simp [ent, upd]
theorem oS_6_10 (cs : Nat → ClassId) (fi : Nat → Int32) (fj : Nat → Int64) (fq : Nat → Option Nat) (v : Int32) : Sum.inr (6, ([va_rf (fq 0), .int (fi 1), va_rf (fq 2), va_rf (fq 3), va_rf (fq 4), va_rf (fq 5), va_rf (fq 6), va_rf (fq 7), va_rf (fq 8), .int (fi 9), .int (fi 10), va_rf (fq 11)] : List Value).set 10 (.int v)) = ent cs 6 (upd fi 10 v) fj fq := by simp [ent, upd]
theorem oS_7_11 (cs : Nat → ClassId) (fi : Nat → Int32) (fj : Nat → Int64) (fq : Nat → Option Nat) (v : Int32) : Sum.inr (7, ([va_rf (fq 0), va_rf (fq 1), va_rf (fq 2), va_rf (fq 3), va_rf (fq 4), va_rf (fq 5), va_rf (fq 6), va_rf (fq 7), va_rf (fq 8), va_rf (fq 9), va_rf (fq 10), .int (fi 11), va_rf (fq 12), .int (fi 13), .int (fi 14), .int (fi 15), .int (fi 16), va_rf (fq 17), .int (fi 18), va_rf (fq 19), va_rf (fq 20), va_rf (fq 21), va_rf (fq 22), .int (fi 23), .int (fi 24), va_rf (fq 25)] : List Value).set 11 (.int v)) = ent cs 7 (upd fi 11 v) fj fq := by simp [ent, upd]
theorem oS_7_13 (cs : Nat → ClassId) (fi : Nat → Int32) (fj : Nat → Int64) (fq : Nat → Option Nat) (v : Int32) : Sum.inr (7, ([va_rf (fq 0), va_rf (fq 1), va_rf (fq 2), va_rf (fq 3), va_rf (fq 4), va_rf (fq 5), va_rf (fq 6), va_rf (fq 7), va_rf (fq 8), va_rf (fq 9), va_rf (fq 10), .int (fi 11), va_rf (fq 12), .int (fi 13), .int (fi 14), .int (fi 15), .int (fi 16), va_rf (fq 17), .int (fi 18), va_rf (fq 19), va_rf (fq 20), va_rf (fq 21), va_rf (fq 22), .int (fi 23), .int (fi 24), va_rf (fq 25)] : List Value).set 13 (.int v)) = ent cs 7 (upd fi 13 v) fj fq := by simp [ent, upd]
theorem oS_7_14 (cs : Nat → ClassId) (fi : Nat → Int32) (fj : Nat → Int64) (fq : Nat → Option Nat) (v : Int32) : Sum.inr (7, ([va_rf (fq 0), va_rf (fq 1), va_rf (fq 2), va_rf (fq 3), va_rf (fq 4), va_rf (fq 5), va_rf (fq 6), va_rf (fq 7), va_rf (fq 8), va_rf (fq 9), va_rf (fq 10), .int (fi 11), va_rf (fq 12), .int (fi 13), .int (fi 14), .int (fi 15), .int (fi 16), va_rf (fq 17), .int (fi 18), va_rf (fq 19), va_rf (fq 20), va_rf (fq 21), va_rf (fq 22), .int (fi 23), .int (fi 24), va_rf (fq 25)] : List Value).set 14 (.int v)) = ent cs 7 (upd fi 14 v) fj fq := by simp [ent, upd]
theorem oS_7_15 (cs : Nat → ClassId) (fi : Nat → Int32) (fj : Nat → Int64) (fq : Nat → Option Nat) (v : Int32) : Sum.inr (7, ([va_rf (fq 0), va_rf (fq 1), va_rf (fq 2), va_rf (fq 3), va_rf (fq 4), va_rf (fq 5), va_rf (fq 6), va_rf (fq 7), va_rf (fq 8), va_rf (fq 9), va_rf (fq 10), .int (fi 11), va_rf (fq 12), .int (fi 13), .int (fi 14), .int (fi 15), .int (fi 16), va_rf (fq 17), .int (fi 18), va_rf (fq 19), va_rf (fq 20), va_rf (fq 21), va_rf (fq 22), .int (fi 23), .int (fi 24), va_rf (fq 25)] : List Value).set 15 (.int v)) = ent cs 7 (upd fi 15 v) fj fq := by simp [ent, upd]
theorem oS_7_16 (cs : Nat → ClassId) (fi : Nat → Int32) (fj : Nat → Int64) (fq : Nat → Option Nat) (v : Int32) : Sum.inr (7, ([va_rf (fq 0), va_rf (fq 1), va_rf (fq 2), va_rf (fq 3), va_rf (fq 4), va_rf (fq 5), va_rf (fq 6), va_rf (fq 7), va_rf (fq 8), va_rf (fq 9), va_rf (fq 10), .int (fi 11), va_rf (fq 12), .int (fi 13), .int (fi 14), .int (fi 15), .int (fi 16), va_rf (fq 17), .int (fi 18), va_rf (fq 19), va_rf (fq 20), va_rf (fq 21), va_rf (fq 22), .int (fi 23), .int (fi 24), va_rf (fq 25)] : List Value).set 16 (.int v)) = ent cs 7 (upd fi 16 v) fj fq := by simp [ent, upd]
theorem oS_7_18 (cs : Nat → ClassId) (fi : Nat → Int32) (fj : Nat → Int64) (fq : Nat → Option Nat) (v : Int32) : Sum.inr (7, ([va_rf (fq 0), va_rf (fq 1), va_rf (fq 2), va_rf (fq 3), va_rf (fq 4), va_rf (fq 5), va_rf (fq 6), va_rf (fq 7), va_rf (fq 8), va_rf (fq 9), va_rf (fq 10), .int (fi 11), va_rf (fq 12), .int (fi 13), .int (fi 14), .int (fi 15), .int (fi 16), va_rf (fq 17), .int (fi 18), va_rf (fq 19), va_rf (fq 20), va_rf (fq 21), va_rf (fq 22), .int (fi 23), .int (fi 24), va_rf (fq 25)] : List Value).set 18 (.int v)) = ent cs 7 (upd fi 18 v) fj fq := by simp [ent, upd]
theorem oS_7_23 (cs : Nat → ClassId) (fi : Nat → Int32) (fj : Nat → Int64) (fq : Nat → Option Nat) (v : Int32) : Sum.inr (7, ([va_rf (fq 0), va_rf (fq 1), va_rf (fq 2), va_rf (fq 3), va_rf (fq 4), va_rf (fq 5), va_rf (fq 6), va_rf (fq 7), va_rf (fq 8), va_rf (fq 9), va_rf (fq 10), .int (fi 11), va_rf (fq 12), .int (fi 13), .int (fi 14), .int (fi 15), .int (fi 16), va_rf (fq 17), .int (fi 18), va_rf (fq 19), va_rf (fq 20), va_rf (fq 21), va_rf (fq 22), .int (fi 23), .int (fi 24), va_rf (fq 25)] : List Value).set 23 (.int v)) = ent cs 7 (upd fi 23 v) fj fq := by simp [ent, upd]
theorem oS_7_24 (cs : Nat → ClassId) (fi : Nat → Int32) (fj : Nat → Int64) (fq : Nat → Option Nat) (v : Int32) : Sum.inr (7, ([va_rf (fq 0), va_rf (fq 1), va_rf (fq 2), va_rf (fq 3), va_rf (fq 4), va_rf (fq 5), va_rf (fq 6), va_rf (fq 7), va_rf (fq 8), va_rf (fq 9), va_rf (fq 10), .int (fi 11), va_rf (fq 12), .int (fi 13), .int (fi 14), .int (fi 15), .int (fi 16), va_rf (fq 17), .int (fi 18), va_rf (fq 19), va_rf (fq 20), va_rf (fq 21), va_rf (fq 22), .int (fi 23), .int (fi 24), va_rf (fq 25)] : List Value).set 24 (.int v)) = ent cs 7 (upd fi 24 v) fj fq := by simp [ent, upd]
theorem fb_rng (x : Int32) : -2147483648 ≤ x.toInt ∧ x.toInt < 2147483648 := by
  have h1 := Int32.le_toInt x
  have h2 := Int32.toInt_lt x
  omega
theorem fb_bmod {z : Int} (h1 : -2147483648 ≤ z) (h2 : z < 2147483648) : z.bmod (2 ^ 32) = z := by
  rw [Int.bmod_eq_of_le (by omega) (by omega)]
theorem tq_add {x y z : Int32} {k q : Int} (ez : z = x + y) (hx : x.toInt = k) (hy : y.toInt = q) (h1 : -2147483648 ≤ k + q) (h2 : k + q < 2147483648) : z.toInt = k + q := by
  rw [ez, Int32.toInt_add, hx, hy, fb_bmod h1 h2]
theorem tq_addw {x y z : Int32} {k q : Int} (ez : z = x + y) (hx : x.toInt = k) (hy : y.toInt = q) : z.toInt = k + q ∨ z.toInt = k + q - 4294967296 ∨ z.toInt = k + q + 4294967296 := by
  have h1 := fb_rng x
  have h2 := fb_rng y
  rw [hx] at h1
  rw [hy] at h2
  rcases Int.lt_or_le (k + q) (-2147483648) with h | h
  · right; right
    rw [ez, Int32.toInt_add, hx, hy, ← Int.add_bmod_right]
    exact fb_bmod (by simp; omega) (by simp; omega)
  · rcases Int.lt_or_le (k + q) 2147483648 with h3 | h3
    · left
      rw [ez, Int32.toInt_add, hx, hy, fb_bmod h h3]
    · right; left
      rw [ez, Int32.toInt_add, hx, hy, ← Int.sub_bmod_right]
      exact fb_bmod (by simp; omega) (by simp; omega)
theorem tq_sub {x y z : Int32} {k q : Int} (ez : z = x - y) (hx : x.toInt = k) (hy : y.toInt = q) (h1 : -2147483648 ≤ k - q) (h2 : k - q < 2147483648) : z.toInt = k - q := by
  rw [ez, Int32.toInt_sub, hx, hy, fb_bmod h1 h2]
theorem tq_mul {x y z : Int32} {k q : Int} (ez : z = x * y) (hx : x.toInt = k) (hy : y.toInt = q) (h1 : -2147483648 ≤ k * q) (h2 : k * q < 2147483648) : z.toInt = k * q := by
  rw [ez, Int32.toInt_mul, hx, hy, fb_bmod h1 h2]
theorem tq_neg {x z : Int32} {k : Int} (ez : z = -x) (hx : x.toInt = k) (h1 : -2147483648 ≤ -k) (h2 : -k < 2147483648) : z.toInt = -k := by
  rw [ez, Int32.toInt_neg, hx, fb_bmod h1 h2]
theorem tq_and {x z : Int32} {mk : Int32} (k : Nat) (ez : z = x &&& mk) (hm : mk.toBitVec.toNat = 2 ^ k - 1) (hk : k ≤ 30) : 0 ≤ z.toInt ∧ z.toInt < 2 ^ k := by
  obtain ⟨j, hj, e⟩ := pk_andE x k hm
  have hlt : (2 : Nat) ^ k ≤ 2 ^ 30 := Nat.pow_le_pow_right (by decide) hk
  have hj2 : j < 2 ^ 31 := Nat.lt_of_lt_of_le hj (Nat.le_trans hlt (by decide))
  rw [ez, e, nI_toInt hj2]
  have : (j : Int) < ((2 ^ k : Nat) : Int) := Int.ofNat_lt.mpr hj
  have e2 : ((2 ^ k : Nat) : Int) = 2 ^ k := by simp
  omega
theorem tq_shr {x z y : Int32} (k : Nat) (ez : z = x >>> (y &&& 31)) (hs : ((y &&& 31).toBitVec.smod 32).toNat = k) : z.toInt = x.toInt / 2 ^ k := by
  rw [ez, pk_shr x (y &&& 31) k hs, Int.shiftRight_eq_div_pow]
  simp
theorem tq_max {x y z : Int32} (ez : z = if x < y then y else x) : x.toInt ≤ z.toInt ∧ y.toInt ≤ z.toInt ∧ (z.toInt = x.toInt ∨ z.toInt = y.toInt) := by
  by_cases h : x < y
  · rw [if_pos h] at ez; rw [Int32.lt_iff_toInt_lt] at h; rw [ez]; omega
  · rw [if_neg h] at ez; rw [Int32.lt_iff_toInt_lt] at h; rw [ez]; omega
theorem tq_min {x y z : Int32} (ez : z = if y < x then y else x) : z.toInt ≤ x.toInt ∧ z.toInt ≤ y.toInt ∧ (z.toInt = x.toInt ∨ z.toInt = y.toInt) := by
  by_cases h : y < x
  · rw [if_pos h] at ez; rw [Int32.lt_iff_toInt_lt] at h; rw [ez]; omega
  · rw [if_neg h] at ez; rw [Int32.lt_iff_toInt_lt] at h; rw [ez]; omega
theorem tq_abs {x z : Int32} (ez : z = if 0 ≤ x then x else 0 - x) (h : -2147483648 < x.toInt) : 0 ≤ z.toInt ∧ (z.toInt = x.toInt ∨ z.toInt = -x.toInt) := by
  have e0 : (0 : Int32).toInt = 0 := rfl
  have hr := fb_rng x
  by_cases h3 : 0 ≤ x
  · rw [if_pos h3] at ez
    rw [Int32.le_iff_toInt_le, e0] at h3
    rw [ez]; omega
  · rw [if_neg h3] at ez
    rw [Int32.le_iff_toInt_le, e0] at h3
    have := tq_sub ez e0 rfl (by omega) (by omega)
    omega
theorem tq_lt {x y : Int32} {k q : Int} (c : x < y) (hx : x.toInt = k) (hy : y.toInt = q) : k < q := by rw [← hx, ← hy]; exact Int32.lt_iff_toInt_lt.mp c
theorem tq_nlt {x y : Int32} {k q : Int} (c : ¬ x < y) (hx : x.toInt = k) (hy : y.toInt = q) : q ≤ k := by rw [← hx, ← hy]; exact Int.not_lt.mp (fun h => c (Int32.lt_iff_toInt_lt.mpr h))
theorem tq_le {x y : Int32} {k q : Int} (c : x ≤ y) (hx : x.toInt = k) (hy : y.toInt = q) : k ≤ q := by rw [← hx, ← hy]; exact Int32.le_iff_toInt_le.mp c
theorem tq_nle {x y : Int32} {k q : Int} (c : ¬ x ≤ y) (hx : x.toInt = k) (hy : y.toInt = q) : q < k := by rw [← hx, ← hy]; exact Int.not_le.mp (fun h => c (Int32.le_iff_toInt_le.mpr h))
theorem tq_eq {x y : Int32} {k q : Int} (c : x = y) (hx : x.toInt = k) (hy : y.toInt = q) : k = q := by rw [← hx, ← hy, c]
theorem tq_ne {x y : Int32} {k q : Int} (c : ¬ x = y) (hx : x.toInt = k) (hy : y.toInt = q) : ¬ k = q := by rw [← hx, ← hy]; exact fun h => c (Int32.toInt_inj.mp h)
theorem tq_div {x y z : Int32} {k : Int} (ez : z = x / y) (hy : y.toInt = k) (hk : 0 < k) (hx : 0 ≤ x.toInt) : z.toInt = x.toInt / k := by
  have hr := fb_rng x
  have hry := fb_rng y
  rw [ez, Int32.toInt_div, hy, Int.tdiv_eq_ediv_of_nonneg hx]
  have h1 : 0 ≤ x.toInt / k := Int.ediv_nonneg hx (by omega)
  have h2 : x.toInt / k ≤ x.toInt := Int.ediv_le_self _ hx
  exact fb_bmod (by omega) (by omega)
theorem tq_rem {x y z : Int32} {k : Int} (ez : z = x - x / y * y) (hy : y.toInt = k) (hk : 0 < k) (hx : 0 ≤ x.toInt) : z.toInt = x.toInt % k := by
  have hr := fb_rng x
  have hd := tq_div (z := x / y) rfl hy hk hx
  have h3 : 0 ≤ x.toInt % k := Int.emod_nonneg _ (by omega)
  have h4 : 0 ≤ x.toInt / k := Int.ediv_nonneg hx (by omega)
  have h5 : x.toInt / k * k = x.toInt - x.toInt % k := by
    have h6 := Int.emod_def x.toInt k
    rw [h6, Int.mul_comm k]; omega
  have h7 : x.toInt % k ≤ x.toInt := by
    have h8 : 0 ≤ x.toInt / k * k := Int.mul_nonneg h4 (by omega)
    omega
  have hm := tq_mul (z := x / y * y) rfl hd hy (by rw [h5]; omega) (by rw [h5]; omega)
  have := tq_sub ez rfl hm (by rw [h5]; omega) (by rw [h5]; omega)
  rw [this, h5]; omega
theorem namedW {p : Program} {l : Launch} {e : Env} {R : Room} {s : State} {m : MethodId} {args : Array Value} {below : List Frame} {meth : Method} {c : Code} {H : Heap} {locs : List Loc} {cells slots : Nat} {Q : State → Prop} {g : JFrame} (h : ∀ (R' : Room) (Q' : State → Prop), R' = R → Q' = Q → W p l e R' s m args below meth c H locs cells slots Q' g) : W p l e R s m args below meth c H locs cells slots Q g := h R Q rfl rfl
/-! cells by kind: 0 to 7 the objects of the eight classes, 10 and on the arrays; what each holds, by its address -/
def Wd (cs : Nat → ClassId) (L : List Nat) (K : Nat → Nat) (I : Nat → Nat → Int32) (J : Nat → Nat → Int64) (Q : Nat → Nat → Option Nat) : va_W := va_pl L (fun a => ent cs (K a) (I a) (J a) (Q a))
theorem Wd_at {cs : Nat → ClassId} {L : List Nat} {K : Nat → Nat} {I : Nat → Nat → Int32} {J : Nat → Nat → Int64} {Q : Nat → Nat → Option Nat} {a κ : Nat} {x : va_E} (ha : a ∈ L) (hκ : K a = κ) (hx : ent cs κ (I a) (J a) (Q a) = x) : ∃ i : Nat, (Wd cs L K I J Q)[i]? = some (a, x) := by
  obtain ⟨i, hi⟩ := va_pl_get (X := []) (f := fun a => ent cs (K a) (I a) (J a) (Q a)) ha
  refine ⟨i, ?_⟩
  have h : (Wd cs L K I J Q)[i]? = some (a, ent cs (K a) (I a) (J a) (Q a)) := hi
  rw [h, hκ, hx]
theorem Wd_set {cs : Nat → ClassId} {L : List Nat} {K : Nat → Nat} {I I2 : Nat → Nat → Int32} {J J2 : Nat → Nat → Int64} {Q Q2 : Nat → Nat → Option Nat} {a κ i : Nat} {x y : va_E} {A : Nat → Prop} (hD : ∀ F, va_D A (va_pl L F)) (ha : a ∈ L) (hκ : K a = κ) (hx : ent cs κ (I a) (J a) (Q a) = x) (hi : (Wd cs L K I J Q)[i]? = some (a, x)) (hy : y = ent cs κ (I2 a) (J2 a) (Q2 a)) (h1 : ∀ b, b ≠ a → I2 b = I b) (h2 : ∀ b, b ≠ a → J2 b = J b) (h3 : ∀ b, b ≠ a → Q2 b = Q b) : (Wd cs L K I J Q).set i (a, y) = Wd cs L K I2 J2 Q2 := by
  have hi2 : ([] ++ va_pl L (fun a => ent cs (K a) (I a) (J a) (Q a)))[i]? = some (a, (fun a => ent cs (K a) (I a) (J a) (Q a)) a) := by
    show (Wd cs L K I J Q)[i]? = _
    rw [hi, ← hx, ← hκ]
  have h := va_pl_set (X := []) (e := y) (hD _) ha hi2
  refine h.trans ?_
  show va_pl L _ = va_pl L _
  refine va_pl_congr (fun b => ?_)
  by_cases hb : b = a
  · rw [hb, va_up_self, hy, hκ]
  · rw [va_up_ne _ _ hb, h1 b hb, h2 b hb, h3 b hb]
section POOL
variable {p : Program} {l : Launch} {e : Env} {R : Room} {s : State} {m : MethodId} {args : Array Value} {below : List Frame} {meth : Method} {c : Code} {H : Heap} {locs : List Loc} {cells slots : Nat} {Qq : State → Prop}
variable {cc : ByteArray} {pc : Nat} {ls : Array Slot} {rest : List Value} {D : va_G} {A : Nat → Prop} {a : Nat} {H0 : Heap}
variable {cs : Nat → ClassId} {L : List Nat} {K : Nat → Nat} {I : Nat → Nat → Int32} {J : Nat → Nat → Int64} {Q : Nat → Nat → Option Nat}
theorem p_get (hexec : p.tables.exec = Jvm.exec) (hb : c.code = cc) {own C : String} {T : u_T} {N ci index κ : Nat} (hts : ∀ w ∈ pw, w.before args s = true) (hin : ∀ w ∈ u_ws C T N, w ∈ pw) (hown : s.vm.findClass own = some m.cls) {tys : List (ClassId × FieldType)} (hK : va_K D vwCl tys s) (hP : va_P D vwCl (Wd cs L K I J Q) H) (ha : a ∈ L) (hκ : K a = κ) {fs : List Value} (hfs : ent cs κ (I a) (J a) (Q a) = .inr (ci, fs)) (hc : vwCl[ci]? = some (C, T, N)) (k : Nat) (hk : k < N) (hlink : (Cond.fieldLink own index (T k).1 (T k).2.1 (T k).2.2.1).before args s = true) {v : Value} (hv : fs[k]? = some v) (hdg : decode cc pc = .ok (.getfield index, 3))
    (kk : W p l e R s m args below meth c H locs cells slots Qq (F0 m (pc + 3) ls (v :: rest))) : W p l e R s m args below meth c H locs cells slots Qq (F0 m pc ls (.ref a :: rest)) := by
  obtain ⟨i, hi⟩ := Wd_at ha hκ hfs
  exact va_get hexec hb hts hin hown hK hP i hi hc k hk hlink (fun _ h => h) hv hdg kk
theorem p_put (hexec : p.tables.exec = Jvm.exec) (hb : c.code = cc) {own C : String} {T : u_T} {N ci index κ : Nat} (hts : ∀ w ∈ pw, w.before args s = true) (hin : ∀ w ∈ u_ws C T N, w ∈ pw) (ty0 : Nat → FieldType) (hty : ∀ k, k < N → parseFieldDescriptor (T k).2.2.1 = some (ty0 k)) (hnm : ∀ a, a < N → ∀ b, b < N → a ≠ b → (T a).2.1 ≠ (T b).2.1) (hown : s.vm.findClass own = some m.cls) {tys : List (ClassId × FieldType)} (hK : va_K D vwCl tys s) (hP : va_P D vwCl (Wd cs L K I J Q) H) (hD : ∀ F, va_D A (va_pl L F)) (hS0 : va_S A H0 H locs) (ha : a ∈ L) (hκ : K a = κ) {fs : List Value} (hfs : ent cs κ (I a) (J a) (Q a) = .inr (ci, fs)) (hc : vwCl[ci]? = some (C, T, N)) (k : Nat) (hk : k < N) (hlink : (Cond.fieldLink own index (T k).1 (T k).2.1 (T k).2.2.1).before args s = true) (hfin : (T k).2.2.2 = false) {v : Int32} (hd : parseFieldDescriptor (T k).2.2.1 = some .int) (hl : k < fs.length) (hset : Sum.inr (ci, fs.set k (.int v)) = ent cs κ (upd (I a) k v) (J a) (Q a))
    (hdg : decode cc pc = .ok (.putfield index, 3)) (kk : ∀ (H1 : Heap) (locs1 : List Loc), va_P D vwCl (Wd cs L K (va_up I a (upd (I a) k v)) J Q) H1 → va_S A H0 H1 locs1 → W p l e R s m args below meth c H1 locs1 cells slots Qq (F0 m (pc + 3) ls rest)) : W p l e R s m args below meth c H locs cells slots Qq (F0 m pc ls (.int v :: .ref a :: rest)) := by
  obtain ⟨i, hi⟩ := Wd_at ha hκ hfs
  refine va_put (ty := .int) hexec hb hts hin ty0 hty hnm hown hK hP (hD _) hS0 i hi hc k hk hlink (fun _ h => h) hfin hd rfl rfl hl hdg (fun H1 locs1 hP1 _ hS1 => kk H1 locs1 ?_ hS1)
  rw [Wd_set (I2 := va_up I a (upd (I a) k v)) (J2 := J) (Q2 := Q) hD ha hκ hfs hi (by rw [va_up_self]; exact hset) (fun b hb => va_up_ne _ _ hb) (fun _ _ => rfl) (fun _ _ => rfl)] at hP1
  exact hP1
theorem p_iald (hexec : p.tables.exec = Jvm.exec) (hb : c.code = cc) {tys : List (ClassId × FieldType)} (hK : va_K D vwCl tys s) (hP : va_P D vwCl (Wd cs L K I J Q) H) (t0 : Nat) {κ n : Nat} {cA : ClassId} (ha : a ∈ L) (hκ : K a = κ) (hfs : ent cs κ (I a) (J a) (Q a) = .inl (cA, n, .inl (I a))) (ht : tys[t0]? = some (cA, .int)) {i : Int32} (hin : vp_in i n) (hdg : decode cc pc = .ok (.iaload, 1))
    (kk : W p l e R s m args below meth c H locs cells slots Qq (F0 m (pc + 1) ls (.int (I a i.toNatClampNeg) :: rest))) : W p l e R s m args below meth c H locs cells slots Qq (F0 m pc ls (.int i :: .ref a :: rest)) := by
  obtain ⟨q, hq⟩ := Wd_at ha hκ hfs
  exact va_iald hexec hb hK hP q t0 hq ht hin hdg kk
theorem p_bald (hexec : p.tables.exec = Jvm.exec) (hb : c.code = cc) {tys : List (ClassId × FieldType)} (hK : va_K D vwCl tys s) (hP : va_P D vwCl (Wd cs L K I J Q) H) (t0 : Nat) {κ n : Nat} {cA : ClassId} (ha : a ∈ L) (hκ : K a = κ) (hfs : ent cs κ (I a) (J a) (Q a) = .inl (cA, n, .inl (I a))) (ht : tys[t0]? = some (cA, .byte)) {i : Int32} (hin : vp_in i n) (hdg : decode cc pc = .ok (.baload, 1))
    (kk : W p l e R s m args below meth c H locs cells slots Qq (F0 m (pc + 1) ls (.int (I a i.toNatClampNeg) :: rest))) : W p l e R s m args below meth c H locs cells slots Qq (F0 m pc ls (.int i :: .ref a :: rest)) := by
  obtain ⟨q, hq⟩ := Wd_at ha hκ hfs
  exact va_bald hexec hb hK hP q t0 hq ht hin hdg kk
theorem p_zald (hexec : p.tables.exec = Jvm.exec) (hb : c.code = cc) {tys : List (ClassId × FieldType)} (hK : va_K D vwCl tys s) (hP : va_P D vwCl (Wd cs L K I J Q) H) (t0 : Nat) {κ n : Nat} {cA : ClassId} (ha : a ∈ L) (hκ : K a = κ) (hfs : ent cs κ (I a) (J a) (Q a) = .inl (cA, n, .inl (I a))) (ht : tys[t0]? = some (cA, .boolean)) {i : Int32} (hin : vp_in i n) (hdg : decode cc pc = .ok (.baload, 1))
    (kk : W p l e R s m args below meth c H locs cells slots Qq (F0 m (pc + 1) ls (.int (I a i.toNatClampNeg) :: rest))) : W p l e R s m args below meth c H locs cells slots Qq (F0 m pc ls (.int i :: .ref a :: rest)) := by
  obtain ⟨q, hq⟩ := Wd_at ha hκ hfs
  exact va_zald hexec hb hK hP q t0 hq ht hin hdg kk
theorem p_lald (hexec : p.tables.exec = Jvm.exec) (hb : c.code = cc) {tys : List (ClassId × FieldType)} (hK : va_K D vwCl tys s) (hP : va_P D vwCl (Wd cs L K I J Q) H) (t0 : Nat) {κ n : Nat} {cA : ClassId} (ha : a ∈ L) (hκ : K a = κ) (hfs : ent cs κ (I a) (J a) (Q a) = .inl (cA, n, .inr (.inl (J a)))) (ht : tys[t0]? = some (cA, .long)) {i : Int32} (hin : vp_in i n) (hdg : decode cc pc = .ok (.laload, 1))
    (kk : W p l e R s m args below meth c H locs cells slots Qq (F0 m (pc + 1) ls (.long (J a i.toNatClampNeg) :: rest))) : W p l e R s m args below meth c H locs cells slots Qq (F0 m pc ls (.int i :: .ref a :: rest)) := by
  obtain ⟨q, hq⟩ := Wd_at ha hκ hfs
  exact va_lald hexec hb hK hP q t0 hq ht hin hdg kk
theorem p_aald (hexec : p.tables.exec = Jvm.exec) (hb : c.code = cc) {tys : List (ClassId × FieldType)} (hK : va_K D vwCl tys s) (hP : va_P D vwCl (Wd cs L K I J Q) H) (t0 : Nat) {κ n : Nat} {cA : ClassId} {C : String} (ha : a ∈ L) (hκ : K a = κ) (hfs : ent cs κ (I a) (J a) (Q a) = .inl (cA, n, .inr (.inr (.inr (.inr (Q a)))))) (ht : tys[t0]? = some (cA, .object C)) {i : Int32} (hin : vp_in i n) (hdg : decode cc pc = .ok (.aaload, 1))
    (kk : W p l e R s m args below meth c H locs cells slots Qq (F0 m (pc + 1) ls (va_rf (Q a i.toNatClampNeg) :: rest))) : W p l e R s m args below meth c H locs cells slots Qq (F0 m pc ls (.int i :: .ref a :: rest)) := by
  obtain ⟨q, hq⟩ := Wd_at ha hκ hfs
  exact va_aldq hexec hb hK hP q t0 hq ht hin hdg kk
theorem p_alen (hexec : p.tables.exec = Jvm.exec) (hb : c.code = cc) {tys : List (ClassId × FieldType)} (hK : va_K D vwCl tys s) (hP : va_P D vwCl (Wd cs L K I J Q) H) (t0 : Nat) {κ : Nat} {cA : ClassId} {x : vp_A} (ha : a ∈ L) (hκ : K a = κ) (hfs : ent cs κ (I a) (J a) (Q a) = .inl (cA, x)) {ty : FieldType} (ht : tys[t0]? = some (cA, ty)) {v : Int32} (hv : Int32.ofNat x.1 = v) (hdg : decode cc pc = .ok (.arraylength, 1))
    (kk : W p l e R s m args below meth c H locs cells slots Qq (F0 m (pc + 1) ls (.int v :: rest))) : W p l e R s m args below meth c H locs cells slots Qq (F0 m pc ls (.ref a :: rest)) := by
  obtain ⟨q, hq⟩ := Wd_at ha hκ hfs
  exact va_alen hexec hb hK hP q t0 hq ht hv hdg kk
theorem p_iast (hexec : p.tables.exec = Jvm.exec) (hb : c.code = cc) {tys : List (ClassId × FieldType)} (hK : va_K D vwCl tys s) (hP : va_P D vwCl (Wd cs L K I J Q) H) (hD : ∀ F, va_D A (va_pl L F)) (hS : va_S A H0 H locs) (t0 : Nat) {κ n : Nat} {cA : ClassId} (ha : a ∈ L) (hκ : K a = κ) (hfs : ent cs κ (I a) (J a) (Q a) = .inl (cA, n, .inl (I a))) (hset : ∀ f, Sum.inl (cA, n, .inl f) = ent cs κ f (J a) (Q a)) (ht : tys[t0]? = some (cA, .int)) {i : Int32} {x : Int32} (hin : vp_in i n) (hdg : decode cc pc = .ok (.iastore, 1))
    (kk : ∀ (H1 : Heap) (locs1 : List Loc), va_P D vwCl (Wd cs L K (va_up I a (upd (I a) i.toNatClampNeg x)) J Q) H1 → va_S A H0 H1 locs1 → W p l e R s m args below meth c H1 locs1 cells slots Qq (F0 m (pc + 1) ls rest)) : W p l e R s m args below meth c H locs cells slots Qq (F0 m pc ls (.int x :: .int i :: .ref a :: rest)) := by
  obtain ⟨q, hq⟩ := Wd_at ha hκ hfs
  refine va_iast hexec hb hK hP (hD _) hS q t0 hq ht hin hdg (fun H1 locs1 hP1 _ hS1 => kk H1 locs1 ?_ hS1)
  rw [Wd_set (I2 := va_up I a (upd (I a) i.toNatClampNeg x)) (J2 := J) (Q2 := Q) hD ha hκ hfs hq (by rw [va_up_self]; exact hset _) (fun b hb => va_up_ne _ _ hb) (fun _ _ => rfl) (fun _ _ => rfl)] at hP1
  exact hP1
theorem p_bast (hexec : p.tables.exec = Jvm.exec) (hb : c.code = cc) {tys : List (ClassId × FieldType)} (hK : va_K D vwCl tys s) (hP : va_P D vwCl (Wd cs L K I J Q) H) (hD : ∀ F, va_D A (va_pl L F)) (hS : va_S A H0 H locs) (t0 : Nat) {κ n : Nat} {cA : ClassId} (ha : a ∈ L) (hκ : K a = κ) (hfs : ent cs κ (I a) (J a) (Q a) = .inl (cA, n, .inl (I a))) (hset : ∀ f, Sum.inl (cA, n, .inl f) = ent cs κ f (J a) (Q a)) (ht : tys[t0]? = some (cA, .byte)) {i : Int32} {x : Int32} (hin : vp_in i n) (hdg : decode cc pc = .ok (.bastore, 1))
    (kk : ∀ (H1 : Heap) (locs1 : List Loc), va_P D vwCl (Wd cs L K (va_up I a (upd (I a) i.toNatClampNeg (vp_nar .byte x))) J Q) H1 → va_S A H0 H1 locs1 → W p l e R s m args below meth c H1 locs1 cells slots Qq (F0 m (pc + 1) ls rest)) : W p l e R s m args below meth c H locs cells slots Qq (F0 m pc ls (.int x :: .int i :: .ref a :: rest)) := by
  obtain ⟨q, hq⟩ := Wd_at ha hκ hfs
  refine va_bast hexec hb hK hP (hD _) hS q t0 hq ht hin hdg (fun H1 locs1 hP1 _ hS1 => kk H1 locs1 ?_ hS1)
  rw [Wd_set (I2 := va_up I a (upd (I a) i.toNatClampNeg (vp_nar .byte x))) (J2 := J) (Q2 := Q) hD ha hκ hfs hq (by rw [va_up_self]; exact hset _) (fun b hb => va_up_ne _ _ hb) (fun _ _ => rfl) (fun _ _ => rfl)] at hP1
  exact hP1
theorem p_zast (hexec : p.tables.exec = Jvm.exec) (hb : c.code = cc) {tys : List (ClassId × FieldType)} (hK : va_K D vwCl tys s) (hP : va_P D vwCl (Wd cs L K I J Q) H) (hD : ∀ F, va_D A (va_pl L F)) (hS : va_S A H0 H locs) (t0 : Nat) {κ n : Nat} {cA : ClassId} (ha : a ∈ L) (hκ : K a = κ) (hfs : ent cs κ (I a) (J a) (Q a) = .inl (cA, n, .inl (I a))) (hset : ∀ f, Sum.inl (cA, n, .inl f) = ent cs κ f (J a) (Q a)) (ht : tys[t0]? = some (cA, .boolean)) {i : Int32} {x : Int32} (hin : vp_in i n) (hdg : decode cc pc = .ok (.bastore, 1))
    (kk : ∀ (H1 : Heap) (locs1 : List Loc), va_P D vwCl (Wd cs L K (va_up I a (upd (I a) i.toNatClampNeg (vp_nar .boolean x))) J Q) H1 → va_S A H0 H1 locs1 → W p l e R s m args below meth c H1 locs1 cells slots Qq (F0 m (pc + 1) ls rest)) : W p l e R s m args below meth c H locs cells slots Qq (F0 m pc ls (.int x :: .int i :: .ref a :: rest)) := by
  obtain ⟨q, hq⟩ := Wd_at ha hκ hfs
  refine va_zast hexec hb hK hP (hD _) hS q t0 hq ht hin hdg (fun H1 locs1 hP1 _ hS1 => kk H1 locs1 ?_ hS1)
  rw [Wd_set (I2 := va_up I a (upd (I a) i.toNatClampNeg (vp_nar .boolean x))) (J2 := J) (Q2 := Q) hD ha hκ hfs hq (by rw [va_up_self]; exact hset _) (fun b hb => va_up_ne _ _ hb) (fun _ _ => rfl) (fun _ _ => rfl)] at hP1
  exact hP1
theorem p_last (hexec : p.tables.exec = Jvm.exec) (hb : c.code = cc) {tys : List (ClassId × FieldType)} (hK : va_K D vwCl tys s) (hP : va_P D vwCl (Wd cs L K I J Q) H) (hD : ∀ F, va_D A (va_pl L F)) (hS : va_S A H0 H locs) (t0 : Nat) {κ n : Nat} {cA : ClassId} (ha : a ∈ L) (hκ : K a = κ) (hfs : ent cs κ (I a) (J a) (Q a) = .inl (cA, n, .inr (.inl (J a)))) (hset : ∀ f, Sum.inl (cA, n, .inr (.inl f)) = ent cs κ (I a) f (Q a)) (ht : tys[t0]? = some (cA, .long)) {i : Int32} {x : Int64} (hin : vp_in i n) (hdg : decode cc pc = .ok (.lastore, 1))
    (kk : ∀ (H1 : Heap) (locs1 : List Loc), va_P D vwCl (Wd cs L K I (va_up J a (vp_updL (J a) i.toNatClampNeg x)) Q) H1 → va_S A H0 H1 locs1 → W p l e R s m args below meth c H1 locs1 cells slots Qq (F0 m (pc + 1) ls rest)) : W p l e R s m args below meth c H locs cells slots Qq (F0 m pc ls (.long x :: .int i :: .ref a :: rest)) := by
  obtain ⟨q, hq⟩ := Wd_at ha hκ hfs
  refine va_last hexec hb hK hP (hD _) hS q t0 hq ht hin hdg (fun H1 locs1 hP1 _ hS1 => kk H1 locs1 ?_ hS1)
  rw [Wd_set (I2 := I) (J2 := va_up J a (vp_updL (J a) i.toNatClampNeg x)) (Q2 := Q) hD ha hκ hfs hq (by rw [va_up_self]; exact hset _) (fun _ _ => rfl) (fun b hb => va_up_ne _ _ hb) (fun _ _ => rfl)] at hP1
  exact hP1
end POOL
/-- a method's start over the pool -/
def sP (D : va_G) (cs : Nat → ClassId) (av : List Value) (sz : Nat) (L : List Nat) (K : Nat → Nat) (I : Nat → Nat → Int32) (J : Nat → Nat → Int64) (Q : Nat → Nat → Option Nat) : Array Value → State → Prop := va_Pc av (fun U => U.heap.size = sz ∧ va_P D vwCl (Wd cs L K I J Q) U.heap ∧ va_K D vwCl (tysA cs) U ∧ (∀ F, va_D (fun _ => True) (va_pl L F)) ∧ xN U)
theorem sP_blind {D : va_G} {cs : Nat → ClassId} {av : List Value} {sz : Nat} {L : List Nat} {K : Nat → Nat} {I : Nat → Nat → Int32} {J : Nat → Nat → Int64} {Q : Nat → Nat → Option Nat} : FrameBlind (sP D cs av sz L K I J Q) := fun a U g mk q => by
  obtain ⟨q0, q1, qP, qK, qD, qN⟩ := q
  exact ⟨q0, q1, qP, va_K.moved (u := U) (U := U.calling g mk a) (Vm.Alike.refl U.vm) qK, qD, xN_call qN⟩
theorem sP_S {s : State} {H : Heap} {D : va_G} {cs : Nat → ClassId} {As : List Value} {L : List Nat} {K : Nat → Nat} {I : Nat → Nat → Int32} {J : Nat → Nat → Int64} {Q : Nat → Nat → Option Nat} {A : Nat → Prop} (hP : va_P D vwCl (Wd cs L K I J Q) H) (hD : ∀ F, va_D A (va_pl L F)) (hK : va_K D vwCl (tysA cs) s) (hN : xN s) : PreS s H (sP D cs As H.size L K I J Q) As :=
  ⟨sP_blind, fun U hU hW => ⟨rfl, by rw [hU], by rw [hU]; exact hP, va_K.moved hW.alike hK, fun F => (hD F).weaken (fun _ _ _ _ => trivial), xN_warm hW hN⟩⟩
theorem sP_V {s : State} {H : Heap} {D : va_G} {cs : Nat → ClassId} {b κ ci : Nat} {C : String} {T : u_T} {N : Nat} {fs : List Value} {As : List Value} {L : List Nat} {K : Nat → Nat} {I : Nat → Nat → Int32} {J : Nat → Nat → Int64} {Q : Nat → Nat → Option Nat} {A : Nat → Prop} (hP : va_P D vwCl (Wd cs L K I J Q) H) (hD : ∀ F, va_D A (va_pl L F)) (hK : va_K D vwCl (tysA cs) s) (hN : xN s) (hb : b ∈ L) (hκ : K b = κ) (hfs : ent cs κ (I b) (J b) (Q b) = .inr (ci, fs)) (hc : vwCl[ci]? = some (C, T, N)) : PreV s H C b (sP D cs (.ref b :: As) H.size L K I J Q) As := by
  obtain ⟨i, hi⟩ := Wd_at hb hκ hfs
  exact ⟨sP_blind, va_recv hK hP hc hi, (sP_S (As := .ref b :: As) hP hD hK hN).2⟩
/-- behind a method that writes: the invariants hold, the pool is the same -/
def sB (D : va_G) (cs : Nat → ClassId) (L : List Nat) (K : Nat → Nat) (Q : Nat → Nat → Option Nat) (Z : (Nat → Nat → Int32) → (Nat → Nat → Int64) → Prop) (t : State) : Prop := ∃ (I : Nat → Nat → Int32) (J : Nat → Nat → Int64), Z I J ∧ va_P D vwCl (Wd cs L K I J Q) t.heap
section SW
variable {p : Program} {l : Launch} {e : Env} {R : Room} {s : State} {m : MethodId} {args : Array Value} {below : List Frame} {meth : Method} {c : Code} {H : Heap} {locs : List Loc} {cells slots : Nat} {Qq : State → Prop}
variable {pc : Nat} {ls : Array Slot} {rest st0 : List Value} {a : Array Value} {A0 : Nat → Prop} {H0 : Heap} {D : va_G} {cs : Nat → ClassId} {L : List Nat} {K : Nat → Nat} {Q : Nat → Nat → Option Nat} {Z : (Nat → Nat → Int32) → (Nat → Nat → Int64) → Prop}
theorem sw_i {post : Int32 → Unit → Prop} (hr : va_Run p l e R s m args below meth c H locs cells slots 0 0 (F0 m pc ls st0) rest (va_Qi post (fun _ t => sB D cs L K Q Z t) (fun q => q ∈ L ∨ H.size ≤ q) a) (fun q => q ∈ L ∨ H.size ≤ q)) (hS : va_S A0 H0 H locs) (hAL : ∀ q, q ∈ L → A0 q) (hA : ∀ q, H0.size ≤ q → A0 q)
    (kk : ∀ (r : Int32) (I : Nat → Nat → Int32) (J : Nat → Nat → Int64) (H1 : Heap) (locs1 : List Loc), post r () → Z I J → va_P D vwCl (Wd cs L K I J Q) H1 → va_S A0 H0 H1 locs1 → W p l e R s m args below meth c H1 locs1 cells slots Qq (F0 m (pc + 3) ls (.int r :: rest))) : W p l e R s m args below meth c H locs cells slots Qq (F0 m pc ls st0) :=
  va_calli hr hS (fun q _ h => h.elim (hAL q) (fun h => hA q (Nat.le_trans hS.1 h))) (fun q h => h.elim (hAL q) (fun h => hA q (Nat.le_trans hS.1 h))) (fun r u t H1 locs1 ht hvm hw hB hz1 hk1 hS => by
    obtain ⟨I, J, h1, h2⟩ := hB
    rw [ht] at h2
    exact kk r I J H1 locs1 hw h1 h2 hS)
theorem sw_ir {Z : Int32 → (Nat → Nat → Int32) → (Nat → Nat → Int64) → Prop} {post : Int32 → Prop} (hr : va_Run p l e R s m args below meth c H locs cells slots 0 0 (F0 m pc ls st0) rest (va_Qi (fun (r : Int32) (u : Int32) => u = r ∧ post r) (fun u t => sB D cs L K Q (Z u) t) (fun q => q ∈ L ∨ H.size ≤ q) a) (fun q => q ∈ L ∨ H.size ≤ q)) (hS : va_S A0 H0 H locs) (hAL : ∀ q, q ∈ L → A0 q) (hA : ∀ q, H0.size ≤ q → A0 q)
    (kk : ∀ (r : Int32) (I : Nat → Nat → Int32) (J : Nat → Nat → Int64) (H1 : Heap) (locs1 : List Loc), post r → Z r I J → va_P D vwCl (Wd cs L K I J Q) H1 → va_S A0 H0 H1 locs1 → W p l e R s m args below meth c H1 locs1 cells slots Qq (F0 m (pc + 3) ls (.int r :: rest))) : W p l e R s m args below meth c H locs cells slots Qq (F0 m pc ls st0) :=
  va_calli hr hS (fun q _ h => h.elim (hAL q) (fun h => hA q (Nat.le_trans hS.1 h))) (fun q h => h.elim (hAL q) (fun h => hA q (Nat.le_trans hS.1 h))) (fun r u t H1 locs1 ht hvm hw hB hz1 hk1 hS => by
    obtain ⟨I, J, h1, h2⟩ := hB
    rw [ht] at h2
    obtain ⟨e, hw⟩ := hw
    rw [e] at h1
    exact kk r I J H1 locs1 hw h1 h2 hS)
theorem sw_l {post : Int64 → Unit → Prop} (hr : va_Run p l e R s m args below meth c H locs cells slots 0 0 (F0 m pc ls st0) rest (va_Ql post (fun _ t => sB D cs L K Q Z t) (fun q => q ∈ L ∨ H.size ≤ q) a) (fun q => q ∈ L ∨ H.size ≤ q)) (hS : va_S A0 H0 H locs) (hAL : ∀ q, q ∈ L → A0 q) (hA : ∀ q, H0.size ≤ q → A0 q)
    (kk : ∀ (r : Int64) (I : Nat → Nat → Int32) (J : Nat → Nat → Int64) (H1 : Heap) (locs1 : List Loc), post r () → Z I J → va_P D vwCl (Wd cs L K I J Q) H1 → va_S A0 H0 H1 locs1 → W p l e R s m args below meth c H1 locs1 cells slots Qq (F0 m (pc + 3) ls (.long r :: rest))) : W p l e R s m args below meth c H locs cells slots Qq (F0 m pc ls st0) :=
  va_calll hr hS (fun q _ h => h.elim (hAL q) (fun h => hA q (Nat.le_trans hS.1 h))) (fun q h => h.elim (hAL q) (fun h => hA q (Nat.le_trans hS.1 h))) (fun r u t H1 locs1 ht hvm hw hB hz1 hk1 hS => by
    obtain ⟨I, J, h1, h2⟩ := hB
    rw [ht] at h2
    exact kk r I J H1 locs1 hw h1 h2 hS)
theorem sw_v {post : Unit → Prop} (hr : va_Run p l e R s m args below meth c H locs cells slots 0 0 (F0 m pc ls st0) rest (va_Qv post (fun _ t => sB D cs L K Q Z t) (fun q => q ∈ L ∨ H.size ≤ q) a) (fun q => q ∈ L ∨ H.size ≤ q)) (hS : va_S A0 H0 H locs) (hAL : ∀ q, q ∈ L → A0 q) (hA : ∀ q, H0.size ≤ q → A0 q)
    (kk : ∀ (I : Nat → Nat → Int32) (J : Nat → Nat → Int64) (H1 : Heap) (locs1 : List Loc), post () → Z I J → va_P D vwCl (Wd cs L K I J Q) H1 → va_S A0 H0 H1 locs1 → W p l e R s m args below meth c H1 locs1 cells slots Qq (F0 m (pc + 3) ls rest)) : W p l e R s m args below meth c H locs cells slots Qq (F0 m pc ls st0) :=
  va_callv hr hS (fun q _ h => h.elim (hAL q) (fun h => hA q (Nat.le_trans hS.1 h))) (fun q h => h.elim (hAL q) (fun h => hA q (Nat.le_trans hS.1 h))) (fun u t H1 locs1 ht hvm hw hB hz1 hk1 hS => by
    obtain ⟨I, J, h1, h2⟩ := hB
    rw [ht] at h2
    exact kk I J H1 locs1 hw h1 h2 hS)
end SW
/-- blocks of a method, each with a measure -/
theorem blocks (P : Nat → Prop) (h : ∀ n, (∀ k, k < n → P k) → P n) : ∀ n, P n := fun n => Nat.strongRecOn n h
theorem in_of {x : Int32} {n : Nat} (h0 : 0 ≤ x.toInt) (h1 : x.toInt < n) : vp_in x n := vp_in_iff.mpr ⟨h0, h1⟩
theorem pl_mem {L : List Nat} {F : Nat → va_E} {k : Nat} {q : Nat × va_E} (h : (va_pl L F)[k]? = some q) : q.1 ∈ L := by
  obtain ⟨a, ha, e⟩ := List.mem_map.mp (List.mem_of_getElem? h)
  rw [← e]
  exact ha
theorem clamp_lt {i : Int32} {n : Nat} (h : vp_in i n) : i.toNatClampNeg < n := Nat.not_le.mp fun q => h (Or.inr q)
section POOL2
variable {p : Program} {l : Launch} {e : Env} {R : Room} {s : State} {m : MethodId} {args : Array Value} {below : List Frame} {meth : Method} {c : Code} {H : Heap} {locs : List Loc} {cells slots : Nat} {Qq : State → Prop}
variable {cc : ByteArray} {pc : Nat} {ls : Array Slot} {rest : List Value} {D : va_G} {A : Nat → Prop} {a : Nat} {H0 : Heap}
variable {cs : Nat → ClassId} {L : List Nat} {K : Nat → Nat} {I : Nat → Nat → Int32} {J : Nat → Nat → Int64} {Q : Nat → Nat → Option Nat}
theorem p_aaldR (hexec : p.tables.exec = Jvm.exec) (hb : c.code = cc) {tys : List (ClassId × FieldType)} (hK : va_K D vwCl tys s) (hP : va_P D vwCl (Wd cs L K I J Q) H) (t0 : Nat) {κ n : Nat} {cA : ClassId} {C : String} (ha : a ∈ L) (hκ : K a = κ) (hfs : ent cs κ (I a) (J a) (Q a) = .inl (cA, n, .inr (.inr (.inr (.inr (Q a)))))) (ht : tys[t0]? = some (cA, .object C)) {i : Int32} (hin : vp_in i n) {y : Nat} (hy : Q a i.toNatClampNeg = some y) (hdg : decode cc pc = .ok (.aaload, 1))
    (kk : W p l e R s m args below meth c H locs cells slots Qq (F0 m (pc + 1) ls (.ref y :: rest))) : W p l e R s m args below meth c H locs cells slots Qq (F0 m pc ls (.int i :: .ref a :: rest)) := by
  refine p_aald hexec hb hK hP t0 ha hκ hfs ht hin hdg ?_
  rw [hy]
  exact kk
theorem p_aaldN (hexec : p.tables.exec = Jvm.exec) (hb : c.code = cc) {tys : List (ClassId × FieldType)} (hK : va_K D vwCl tys s) (hP : va_P D vwCl (Wd cs L K I J Q) H) (t0 : Nat) {κ n : Nat} {cA : ClassId} {C : String} (ha : a ∈ L) (hκ : K a = κ) (hfs : ent cs κ (I a) (J a) (Q a) = .inl (cA, n, .inr (.inr (.inr (.inr (Q a)))))) (ht : tys[t0]? = some (cA, .object C)) {i : Int32} (hin : vp_in i n) (hy : Q a i.toNatClampNeg = none) (hdg : decode cc pc = .ok (.aaload, 1))
    (kk : W p l e R s m args below meth c H locs cells slots Qq (F0 m (pc + 1) ls (.null :: rest))) : W p l e R s m args below meth c H locs cells slots Qq (F0 m pc ls (.int i :: .ref a :: rest)) := by
  refine p_aald hexec hb hK hP t0 ha hκ hfs ht hin hdg ?_
  rw [hy]
  exact kk
theorem p_copy (hexec : p.tables.exec = Jvm.exec) (hb : c.code = cc) (hml : c.maxLocals = ls.size) {own : String} {index : Nat} (hown : s.vm.findClass own = some m.cls) (hlink : (Cond.methodLink own index arraycopyName).before args s = true) (hnat : (Cond.native arraycopyName).before args s = true) (hstat : (Cond.static arraycopyName).before args s = true) (hini : (Cond.initialized "java/lang/System").before args s = true) (hK : va_K D vwCl (tysA cs) s) (hP : va_P D vwCl (Wd cs L K I J Q) H) (hD : ∀ F, va_D A (va_pl L F)) (hS : va_S A H0 H locs) {a0 : Nat} (hL0 : a0 ∈ L) (hK0 : K a0 = 12) (hL1 : a ∈ L) (hK1 : K a = 12) (hframes : 1 ≤ R.frames) (hlocals : (rest.map fun v => v.category).sum + (nativeFrameWords "java/lang/System" "arraycopy" 5 + 11) ≤ R.locals) (hdg : decode cc pc = .ok (.invokestatic index, 3))
    (kk : ∀ (J1 : Nat → Nat → Int64) (H1 : Heap) (locs1 : List Loc), J1 = va_up J a (va_cpy (J a0) (J a) (0 : Int32).toNatClampNeg (0 : Int32).toNatClampNeg (80 : Int32).toNatClampNeg) → va_P D vwCl (Wd cs L K I J1 Q) H1 → va_S A H0 H1 locs1 → W p l e R s m args below meth c H1 locs1 cells slots Qq (F0 m (pc + 3) ls rest)) : W p l e R s m args below meth c H locs cells slots Qq (F0 m pc ls (.int 80 :: .int 0 :: .ref a :: .int 0 :: .ref a0 :: rest)) := by
  obtain ⟨q0, h0⟩ := Wd_at (cs := cs) (I := I) (J := J) (Q := Q) hL0 hK0 rfl
  obtain ⟨q1, h1⟩ := Wd_at (cs := cs) (I := I) (J := J) (Q := Q) hL1 hK1 rfl
  refine va_copyl hexec hb hml hown hlink hnat hstat hini hK hP (hD _) hS q0 q1 2 2 h0 h1 rfl rfl rfl (by decide +kernel) (by decide +kernel) (by decide +kernel) (by decide +kernel) (by decide +kernel) (fun _ _ => rfl) hframes hlocals hdg (fun H1 locs1 hP1 _ hS1 => kk (va_up J a (va_cpy (J a0) (J a) (0 : Int32).toNatClampNeg (0 : Int32).toNatClampNeg (80 : Int32).toNatClampNeg)) H1 locs1 rfl ?_ hS1)
  rw [Wd_set (I2 := I) (J2 := va_up J a (va_cpy (J a0) (J a) (0 : Int32).toNatClampNeg (0 : Int32).toNatClampNeg (80 : Int32).toNatClampNeg)) (Q2 := Q) hD hL1 hK1 rfl h1 (by rw [va_up_self]; rfl) (fun _ _ => rfl) (fun b hb => va_up_ne _ _ hb) (fun _ _ => rfl)] at hP1
  exact hP1
end POOL2
theorem rz_fr (I : Nat → Nat → Int32) (a : Nat) (j : Nat) (v : Int32) {b k : Nat} (h : ¬ k = j) : va_up I a (upd (I a) j v) b k = I b k := by
  by_cases q : b = a
  · rw [q, va_up_self]; simp only [upd, h, if_false]
  · rw [va_up_ne _ _ q]
theorem rz_at (I : Nat → Nat → Int32) (a : Nat) (j : Nat) (v : Int32) : va_up I a (upd (I a) j v) a j = v := by
  rw [va_up_self]; simp only [upd, if_true]
theorem ne_k {K : Nat → Nat} {a b x y : Nat} (ha : K a = x) (hb : K b = y) (h : x ≠ y) : ¬ a = b := fun z => h (by rw [← ha, ← hb, z])
/-! bodies that may go -/
def bnd (B : Int) (I : Nat → Nat → Int32) (y : Nat) (dx dy : Int) : Prop := (-B ≤ (I y 1).toInt + dx ∧ (I y 1).toInt + dx ≤ B) ∧ (-B ≤ (I y 2).toInt + dy ∧ (I y 2).toInt + dy ≤ B)
def goOK (B : Int) (Q : Nat → Nat → Option Nat) (I : Nat → Nat → Int32) (p0 : Nat) (g dx dy : Int32) (lo n : Int) : Prop := ∀ yf yB y (i : Int32), Q p0 0 = some yf → Q yf 1 = some yB → lo ≤ i.toInt → i.toInt < n → Q yB i.toNatClampNeg = some y → (g >>> (i &&& 31)) &&& 1 = 1 → bnd B I y dx.toInt dy.toInt
def goAll (B : Int) (Q : Nat → Nat → Option Nat) (I : Nat → Nat → Int32) (p0 : Nat) (g dx dy : Int32) : Prop := ∀ yf, Q p0 0 = some yf → goOK B Q I p0 g dx dy 0 (I yf 3).toInt
theorem goOK_zero {B : Int} {Q : Nat → Nat → Option Nat} {I : Nat → Nat → Int32} {p0 : Nat} {g dx dy : Int32} : goOK B Q I p0 g dx dy 0 (0 : Int32).toInt := by
  intro yf yB y i _ _ h h2
  rw [show (0 : Int32).toInt = 0 from by decide +kernel] at h2
  omega
theorem goOK_step {B : Int} {Q : Nat → Nat → Option Nat} {I : Nat → Nat → Int32} {p0 : Nat} {g dx dy v z : Int32} {yf yB y : Nat} (h : goOK B Q I p0 g dx dy 0 v.toInt) (hz : z.toInt = v.toInt + 1) (e1 : Q p0 0 = some yf) (e2 : Q yf 1 = some yB) (e3 : Q yB v.toNatClampNeg = some y) (h1 : (g >>> (v &&& 31)) &&& 1 = 1 → bnd B I y dx.toInt dy.toInt) : goOK B Q I p0 g dx dy 0 z.toInt := by
  intro yf' yB' y' i f1 f2 h0 hi f3 hb
  obtain rfl : yf = yf' := Option.some.inj (e1.symm.trans f1)
  obtain rfl : yB = yB' := Option.some.inj (e2.symm.trans f2)
  by_cases q : i.toInt < v.toInt
  · exact h yf yB y' i e1 e2 h0 q f3 hb
  · obtain rfl : i = v := Int32.toInt_inj.mp (by omega)
    obtain rfl : y = y' := Option.some.inj (e3.symm.trans f3)
    exact h1 hb
theorem goAll_of {B : Int} {Q : Nat → Nat → Option Nat} {I : Nat → Nat → Int32} {p0 : Nat} {g dx dy v : Int32} {yf : Nat} (e1 : Q p0 0 = some yf) (hn : (I yf 3).toInt ≤ v.toInt) (h : goOK B Q I p0 g dx dy 0 v.toInt) : goAll B Q I p0 g dx dy := by
  intro yf' f1 yf2 yB y i a1 a2 a3 a4
  obtain rfl : yf = yf' := Option.some.inj (e1.symm.trans f1)
  exact h yf2 yB y i a1 a2 a3 (by omega)
theorem goF_step {B : Int} {Q : Nat → Nat → Option Nat} {I I2 : Nat → Nat → Int32} {p0 : Nat} {g dx dy v : Int32} {w n : Int} {yf yB y : Nat} (h : goOK B Q I p0 g dx dy v.toInt n) (hz : w = v.toInt + 1) (h0 : 0 ≤ v.toInt) (hn : n ≤ 10) (e1 : Q p0 0 = some yf) (e2 : Q yf 1 = some yB) (e3 : Q yB v.toNatClampNeg = some y) (inj : ∀ i j, i < 10 → j < 10 → Q yB i = Q yB j → i = j) (hfr : ∀ b, ¬ b = y → I2 b = I b) : goOK B Q I2 p0 g dx dy w n := by
  intro yf' yB' y' i f1 f2 hl hi f3 hb
  obtain rfl : yf = yf' := Option.some.inj (e1.symm.trans f1)
  obtain rfl : yB = yB' := Option.some.inj (e2.symm.trans f2)
  have hr := h yf yB y' i e1 e2 (by omega) hi f3 hb
  have hne : ¬ y' = y := by
    intro q
    rw [q] at f3
    have := inj v.toNatClampNeg i.toNatClampNeg (by show v.toInt.toNat < 10; omega) (by show i.toInt.toNat < 10; omega) (e3.trans f3.symm)
    have e4 : v.toInt.toNat = i.toInt.toNat := this
    omega
  unfold bnd at hr ⊢
  rw [hfr y' hne]
  exact hr
theorem goF_skip {B : Int} {Q : Nat → Nat → Option Nat} {I : Nat → Nat → Int32} {p0 : Nat} {g dx dy v : Int32} {w n : Int} (h : goOK B Q I p0 g dx dy v.toInt n) (hz : w = v.toInt + 1) : goOK B Q I p0 g dx dy w n := by
  intro yf yB y i f1 f2 hl hi f3 hb
  exact h yf yB y i f1 f2 (by omega) hi f3 hb
def glOK (B : Int) (Q : Nat → Nat → Option Nat) (I : Nat → Nat → Int32) (p0 : Nat) (b : Int32) : Prop := ∀ yf yB y, Q p0 0 = some yf → Q yf 1 = some yB → Q yB b.toNatClampNeg = some y → bnd B I y (I p0 4).toInt (I p0 5).toInt
theorem glOK_of {B : Int} {Q : Nat → Nat → Option Nat} {I : Nat → Nat → Int32} {p0 : Nat} {b : Int32} {yf yB y : Nat} (e1 : Q p0 0 = some yf) (e2 : Q yf 1 = some yB) (e3 : Q yB b.toNatClampNeg = some y) (h : bnd B I y (I p0 4).toInt (I p0 5).toInt) : glOK B Q I p0 b := by
  intro yf' yB' y' f1 f2 f3
  obtain rfl : yf = yf' := Option.some.inj (e1.symm.trans f1)
  obtain rfl : yB = yB' := Option.some.inj (e2.symm.trans f2)
  obtain rfl : y = y' := Option.some.inj (e3.symm.trans f3)
  exact h
/-! sets of bodies as bits -/
def bc32 (x : Int32) : Int32 :=
  let a := x - ((x.toUInt32 >>> ((1 : Int32) &&& 31).toUInt32).toInt32 &&& 1431655765)
  let b := (a &&& 858993459) + ((a.toUInt32 >>> ((2 : Int32) &&& 31).toUInt32).toInt32 &&& 858993459)
  let c := (b + (b.toUInt32 >>> ((4 : Int32) &&& 31).toUInt32).toInt32) &&& 252645135
  let d := c + (c.toUInt32 >>> ((8 : Int32) &&& 31).toUInt32).toInt32
  let f := d + (d.toUInt32 >>> ((16 : Int32) &&& 31).toUInt32).toInt32
  f &&& 63
theorem i10 {x : Int32} : (0 ≤ x.toInt ∧ x.toInt ≤ 1023) ↔ x.toBitVec.toNat < 1024 := by
  have h : x.toInt = x.toBitVec.toInt := rfl
  have h2 := x.toBitVec.isLt
  rw [h, BitVec.toInt_eq_toNat_cond]
  split <;> omega
theorem or10 {x y z : Int32} (e : z = x ||| y) (hx : 0 ≤ x.toInt ∧ x.toInt ≤ 1023) (hy : 0 ≤ y.toInt ∧ y.toInt ≤ 1023) : 0 ≤ z.toInt ∧ z.toInt ≤ 1023 := by
  rw [i10] at hx hy ⊢
  rw [e, Int32.toBitVec_or, BitVec.toNat_or]
  exact Nat.or_lt_two_pow (n := 10) hx hy
theorem and10 {x y z : Int32} (e : z = x &&& y) (hx : 0 ≤ x.toInt ∧ x.toInt ≤ 1023) : 0 ≤ z.toInt ∧ z.toInt ≤ 1023 := by
  rw [i10] at hx ⊢
  rw [e, Int32.toBitVec_and, BitVec.toNat_and]
  exact Nat.lt_of_le_of_lt Nat.and_le_left hx
theorem nI_10 {x : Int32} {n : Nat} (hn : n < 2 ^ 31) (h0 : 0 ≤ x.toInt) (h1 : x.toInt ≤ n) : ∃ k, k ≤ n ∧ x = nI k := by
  refine ⟨x.toInt.toNat, by omega, Int32.toInt_inj.mp ?_⟩
  rw [nI_toInt (by omega)]
  omega
theorem shl10k : ∀ k : Fin 10, 0 ≤ ((1 : Int32) <<< (nI k.1 &&& 31)).toInt ∧ ((1 : Int32) <<< (nI k.1 &&& 31)).toInt ≤ 1023 := by decide +kernel
theorem shl10 {i z : Int32} (e : z = 1 <<< (i &&& 31)) (h : 0 ≤ i.toInt ∧ i.toInt ≤ 9) : 0 ≤ z.toInt ∧ z.toInt ≤ 1023 := by
  obtain ⟨k, hk, rfl⟩ := nI_10 (n := 9) (by decide) h.1 h.2
  rw [e]; exact shl10k ⟨k, by omega⟩
set_option maxRecDepth 100000 in
theorem bc_lowk : ∀ k : Fin 1024, k.1 ≠ 0 → (0 ≤ (bc32 ((nI k.1 &&& -nI k.1) - 1)).toInt ∧ (bc32 ((nI k.1 &&& -nI k.1) - 1)).toInt ≤ 9) ∧ (1 : Int32) <<< (bc32 ((nI k.1 &&& -nI k.1) - 1) &&& 31) = nI k.1 &&& -nI k.1 := by decide +kernel
theorem bc_low {x : Int32} (h0 : 1 ≤ x.toInt) (h1 : x.toInt ≤ 1023) : (0 ≤ (bc32 ((x &&& -x) - 1)).toInt ∧ (bc32 ((x &&& -x) - 1)).toInt ≤ 9) ∧ (1 : Int32) <<< (bc32 ((x &&& -x) - 1) &&& 31) = x &&& -x := by
  obtain ⟨k, hk, rfl⟩ := nI_10 (n := 1023) (by decide) (by omega) h1
  refine bc_lowk ⟨k, by omega⟩ (fun q => ?_)
  simp only [] at q
  subst q
  rw [nI_toInt (by decide)] at h0
  omega
theorem i32_ext {x y : Int32} (h : ∀ i, i < 32 → x.toBitVec.getLsbD i = y.toBitVec.getLsbD i) : x = y := Int32.toBitVec_inj.mp (BitVec.eq_of_getLsbD_eq (fun i hi => h i hi))
theorem sub_bit {a g : Int32} (h : a &&& g = a) (i : Nat) : (a.toBitVec.getLsbD i && g.toBitVec.getLsbD i) = a.toBitVec.getLsbD i := by
  have := congrArg (fun x : Int32 => x.toBitVec.getLsbD i) h
  simpa using this
theorem sub_or {a g c z : Int32} (h : a &&& g = a) (e : z = g ||| c) : a &&& z = a := by
  rw [e]
  refine i32_ext (fun i _ => ?_)
  rw [Int32.toBitVec_and, Int32.toBitVec_or, BitVec.getLsbD_and, BitVec.getLsbD_or]
  exact (show ∀ A G C : Bool, (A && G) = A → (A && (G || C)) = A by decide) _ _ _ (sub_bit h i)
theorem or_sub {a b g z : Int32} (h : a &&& g = a) (h2 : b &&& g = b) (e : z = a ||| b) : z &&& g = z := by
  rw [e]
  refine i32_ext (fun i _ => ?_)
  rw [Int32.toBitVec_and, Int32.toBitVec_or, BitVec.getLsbD_and, BitVec.getLsbD_or]
  exact (show ∀ A B G : Bool, (A && G) = A → (B && G) = B → ((A || B) && G) = (A || B) by decide) _ _ _ (sub_bit h i) (sub_bit h2 i)
theorem low_sub {g w n m : Int32} (e : n = g &&& w) : (n &&& m) &&& g = n &&& m := by
  rw [e]
  refine i32_ext (fun i _ => ?_)
  simp only [Int32.toBitVec_and, BitVec.getLsbD_and]
  cases g.toBitVec.getLsbD i <;> simp
theorem nx10 {g a w n : Int32} (e : n = g &&& w) (ew : w = a ^^^ -1) (h : a &&& g = a) (hg : 0 ≤ g.toInt ∧ g.toInt ≤ 1023) (hne : ¬ a.toInt = g.toInt) : 1 ≤ n.toInt ∧ n.toInt ≤ 1023 := by
  have h1 := and10 e hg
  refine ⟨?_, h1.2⟩
  have h2 : ¬ n.toInt = 0 := by
    intro q
    have q0 : n = 0 := Int32.toInt_inj.mp q
    refine hne (congrArg Int32.toInt (i32_ext (fun i hi => ?_)))
    have q1 := congrArg (fun x : Int32 => x.toBitVec.getLsbD i) (e.symm.trans q0)
    have q2 := sub_bit h i
    rw [ew] at q1
    have q3 : (-1 : Int32).toBitVec.getLsbD i = true := by
      rw [show (-1 : Int32).toBitVec = BitVec.allOnes 32 from by decide +kernel, BitVec.getLsbD_allOnes]; simp [hi]
    have q4 : (g.toBitVec.getLsbD i && (a.toBitVec.getLsbD i ^^ true)) = false := by
      have q5 : (g &&& (a ^^^ -1)).toBitVec.getLsbD i = (0 : Int32).toBitVec.getLsbD i := q1
      rw [Int32.toBitVec_and, Int32.toBitVec_xor, BitVec.getLsbD_and, BitVec.getLsbD_xor, q3] at q5
      rw [q5]
      simp
    exact (show ∀ A G : Bool, (A && G) = A → (G && (A ^^ true)) = false → A = G by decide) _ _ q2 q4
  omega
theorem lo10 {n m w y z : Int32} (em : m = -n) (ew : w = n &&& m) (ey : y = w - 1) (ez : z = bc32 y) (h : 1 ≤ n.toInt ∧ n.toInt ≤ 1023) : 0 ≤ z.toInt ∧ z.toInt ≤ 9 := by
  rw [ez, ey, ew, em]
  exact (bc_low h.1 h.2).1
theorem as10 {g a q n m w y z b r : Int32} (en : n = g &&& q) (em : m = -n) (ew : w = n &&& m) (ey : y = w - 1) (ez : z = bc32 y) (eb : b = 1 <<< (z &&& 31)) (er : r = a ||| b) (h : 1 ≤ n.toInt ∧ n.toInt ≤ 1023) (hs : a &&& g = a) : r &&& g = r := by
  refine or_sub hs ?_ er
  rw [eb, ez, ey, ew, em, (bc_low h.1 h.2).2]
  exact low_sub en
theorem letn {a b m d k : Int32} (em : m = a * b) (ed : d = m - 1) (hk : 0 ≤ k.toInt) (hl : k.toInt < d.toInt) : ¬ a = 0 := by
  intro h
  rw [h, Int32.zero_mul] at em
  rw [em] at ed
  have : d.toInt = -1 := by rw [ed]; decide +kernel
  omega
theorem tq_i2l {x : Int32} {z : Int64} {k : Int} (ez : z = x.toInt64) (hx : x.toInt = k) : z.toInt = k := by
  rw [ez, ← hx]; exact Int32.toInt_toInt64 x
theorem tq_lcmp {x y : Int64} {z : Int32} {k q : Int} (ez : z = lg_cmp x y) (hx : x.toInt = k) (hy : y.toInt = q) : (z.toInt < 0 ↔ k < q) ∧ (0 < z.toInt ↔ q < k) := by
  rw [ez]
  unfold lg_cmp
  by_cases h : x > y
  · rw [if_pos h]
    have h2 : y.toInt < x.toInt := Int64.lt_iff_toInt_lt.mp h
    rw [show (1 : Int32).toInt = 1 from by decide +kernel]
    omega
  · rw [if_neg h]
    have h2 : ¬ y.toInt < x.toInt := fun z => h (Int64.lt_iff_toInt_lt.mpr z)
    by_cases h3 : x = y
    · rw [if_pos h3, show (0 : Int32).toInt = 0 from by decide +kernel]
      have : x.toInt = y.toInt := by rw [h3]
      omega
    · rw [if_neg h3, show (-1 : Int32).toInt = -1 from by decide +kernel]
      have : ¬ x.toInt = y.toInt := fun z => h3 (Int64.toInt_inj.mp z)
      omega
theorem mul_bd {x y z : Int32} {a b : Int} (ez : z = x * y) (hx : -a ≤ x.toInt ∧ x.toInt ≤ a) (hy : -b ≤ y.toInt ∧ y.toInt ≤ b) (hab : a * b < 2147483648) : -(a * b) ≤ z.toInt ∧ z.toInt ≤ a * b := by
  have h0 : 0 ≤ a := by omega
  have h1 : (x.toInt * y.toInt).natAbs = x.toInt.natAbs * y.toInt.natAbs := Int.natAbs_mul _ _
  have h2 : x.toInt.natAbs * y.toInt.natAbs ≤ a.toNat * b.toNat := Nat.mul_le_mul (by omega) (by omega)
  have h3 : ((a.toNat * b.toNat : Nat) : Int) = a * b := by
    rw [Int.natCast_mul, Int.toNat_of_nonneg h0, Int.toNat_of_nonneg (by omega)]
  have h4 := tq_mul ez rfl rfl (by omega) (by omega)
  rw [h4]
  omega
/-- kept out of linear arithmetic's sight -/
def Hid (p : Prop) : Prop := p
set_option maxRecDepth 100000 in
theorem orgtk : ∀ o : Fin 10, ∀ k : Fin 1024, (nI k.1 >>> (nI o.1 &&& 31)) &&& 1 = 0 → (nI k.1).toInt < (nI k.1 ||| (1 : Int32) <<< (nI o.1 &&& 31)).toInt := by decide +kernel
theorem orgt {x o a b s z : Int32} (ea : a = x >>> (o &&& 31)) (eb : b = a &&& 1) (hb : b.toInt = 0) (es : s = 1 <<< (o &&& 31)) (ez : z = x ||| s) (hx : 0 ≤ x.toInt ∧ x.toInt ≤ 1023) (ho : 0 ≤ o.toInt ∧ o.toInt ≤ 9) : x.toInt < z.toInt ∧ z.toInt ≤ 1023 := by
  obtain ⟨k, hk, rfl⟩ := nI_10 (n := 1023) (by decide) hx.1 hx.2
  obtain ⟨j, hj, rfl⟩ := nI_10 (n := 9) (by decide) ho.1 ho.2
  refine ⟨?_, (or10 ez hx (shl10 es ho)).2⟩
  rw [ez, es]
  refine orgtk ⟨j, by omega⟩ ⟨k, by omega⟩ ?_
  show (nI k >>> (nI j &&& 31)) &&& 1 = 0
  rw [← ea, ← eb]
  exact Int32.toInt_inj.mp hb
theorem rng0 {B v : Int} (h : rng B ((0 : Int).toNat) v) : 0 ≤ v ∧ v ≤ 8 := h.1 rfl
theorem rng1 {B v : Int} (h : rng B ((1 : Int).toNat) v) : 0 ≤ v ∧ v ≤ 10 := h.2.1 rfl
theorem rng_two {B v : Int} : rng B ((2 : Int).toNat) v := by
  have e : (2 : Int).toNat = 2 := rfl
  rw [e]; unfold rng; omega
theorem drW {s : State} {cs : List Choice} {P : Drawn → Prop} (h : s.drawn.sameBut s.drawn cs) (k : ∀ d0, s.drawn.sameBut d0 cs → P d0) : P s.drawn := k _ h
theorem nar01 {r : Int32} (h0 : 0 ≤ r.toInt) (h1 : r.toInt ≤ 1) : narrow .boolean (.int r) = .int r := by
  rcases (show r.toInt = 0 ∨ r.toInt = 1 by omega) with h | h
  · obtain rfl : r = 0 := Int32.toInt_inj.mp h
    decide +kernel
  · obtain rfl : r = 1 := Int32.toInt_inj.mp h
    decide +kernel
