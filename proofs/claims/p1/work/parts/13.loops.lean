
theorem upd00 (k : Nat) : upd (fun _ => (0 : Int32)) k 0 = (fun _ => 0) := by
  funext j
  unfold upd
  split <;> rfl
theorem updL00 (k : Nat) : vp_updL (fun _ => (0 : Int64)) k 0 = (fun _ => 0) := by
  funext j
  unfold vp_updL
  split <;> rfl
theorem namedW {p : Program} {l : Launch} {e : Env} {R : Room} {s : State} {m : MethodId} {args : Array Value} {below : List Frame} {meth : Method} {c : Code} {H : Heap} {locs : List Loc} {cells slots : Nat} {Q : State → Prop} {g : JFrame} (h : ∀ (R' : Room) (Q' : State → Prop), R' = R → Q' = Q → W p l e R' s m args below meth c H locs cells slots Q' g) : W p l e R s m args below meth c H locs cells slots Q g := h R Q rfl rfl
theorem loopW {α : Type} (I G : α → Array Slot → Heap → List Loc → Prop) (mu : α → Nat) (hs : ∀ x ls H lo, I x ls H lo → (∀ x' ls' H' lo', I x' ls' H' lo' → mu x' < mu x → G x' ls' H' lo') → G x ls H lo) : ∀ x ls H lo, I x ls H lo → G x ls H lo := by
  have key : ∀ (n : Nat) (x : α), mu x < n → ∀ ls H lo, I x ls H lo → G x ls H lo := by
    intro n
    induction n with
    | zero => intro x h; exact absurd h (Nat.not_lt_zero _)
    | succ n ih => intro x h ls H lo hI; exact hs x ls H lo hI (fun x' ls' H' lo' hI' hm => ih x' (Nat.lt_of_lt_of_le hm (Nat.le_of_lt_succ h)) ls' H' lo' hI')
  exact fun x => key (mu x + 1) x (Nat.lt_succ_self _)
theorem nI_ltb {j n : Nat} (hj : j < 2 ^ 31) (c : ¬ nI n ≤ nI j) : j < n := Nat.not_le.mp (fun h => c (nI_le h hj))
theorem in_add (a j n : Nat) (A : Int32) (hA : A = nI a) (h : a + j < n) (hn : n < 2 ^ 31) : vp_in (A + nI j) n := by
  rw [hA, nI_add]
  exact vp_in_nI h hn
theorem sw7 (x : Int32) : x = 0 ∨ x = 1 ∨ x = 2 ∨ x = 3 ∨ x = 4 ∨ x = 5 ∨ x = 6 ∨ (x.toInt < 0 ∨ 6 < x.toInt) := by
  rcases Int.lt_or_le x.toInt 0 with h | h
  · exact Or.inr (Or.inr (Or.inr (Or.inr (Or.inr (Or.inr (Or.inr (Or.inl h)))))))
  · rcases Int.lt_or_le 6 x.toInt with h2 | h2
    · exact Or.inr (Or.inr (Or.inr (Or.inr (Or.inr (Or.inr (Or.inr (Or.inr h2)))))))
    · have e : ∀ y : Int32, x.toInt = y.toInt → x = y := fun y h => Int32.toInt_inj.mp h
      have h3 : x.toInt = 0 ∨ x.toInt = 1 ∨ x.toInt = 2 ∨ x.toInt = 3 ∨ x.toInt = 4 ∨ x.toInt = 5 ∨ x.toInt = 6 := by omega
      rcases h3 with h3 | h3 | h3 | h3 | h3 | h3 | h3
      · exact Or.inl (e 0 h3)
      · exact Or.inr (Or.inl (e 1 h3))
      · exact Or.inr (Or.inr (Or.inl (e 2 h3)))
      · exact Or.inr (Or.inr (Or.inr (Or.inl (e 3 h3))))
      · exact Or.inr (Or.inr (Or.inr (Or.inr (Or.inl (e 4 h3)))))
      · exact Or.inr (Or.inr (Or.inr (Or.inr (Or.inr (Or.inl (e 5 h3))))))
      · exact Or.inr (Or.inr (Or.inr (Or.inr (Or.inr (Or.inr (Or.inl (e 6 h3)))))))
