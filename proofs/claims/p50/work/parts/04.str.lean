/-! Strings: constants of the class files, outside the pool -/
def cbC (b : Int32) : Int32 := ((b &&& 255).toUInt32 % 65536).toInt32
/-- signs that are bytes of their own -/
def asc (w : List Int32) : Prop := ∀ k : Nat, k < w.length → cbC (w.getD k 0) = w.getD k 0
def sOK (a : Nat) (n : List Int32) (A : Nat → Prop) (U : State) (H : Heap) : Prop := (n.length < 2 ^ 31 ∧ asc n) ∧ va_O "java/lang/String" a A U H ∧ va_OF "java/lang/String" "coder" "B" (.int 0) a A U H ∧ ∃ v : Nat, va_OF "java/lang/String" "value" "[B" (.ref v) a A U H ∧ va_T .byte v n.length (fun j => .int (n.getD j 0)) A U H
def bOK (v : Nat) (n : List Int32) (A : Nat → Prop) (U : State) (H : Heap) : Prop := (n.length < 2 ^ 31 ∧ asc n) ∧ va_T .byte v n.length (fun j => .int (n.getD j 0)) A U H
def tS (A : Nat → Prop) (U : State) (H : Heap) : Prop := va_Z "java/lang/String" "COMPACT_STRINGS" "Z" (.int 1) A U H ∧ va_Zq "jdk/internal/util/Preconditions" "SIOOBE_FORMATTER" "Ljava/util/function/BiFunction;" A U H
def lits : List (String × Nat × String × List Int32) := [(RX4, 49, "mask", wMask), (RX4, 79, "box", wBox), (RX4, 88, "frame", wFrame), (RX4, 93, "disk", wDisk), (RX4, 59, "body", wBody), (RX4, 169, "flip", wFlip), (RX4, 173, "layer", wLayer), (RX4, 181, "moves", wMoves), (RX7, 171, "mask", wMask), (RX7, 141, "box", wBox), (RX7, 146, "frame", wFrame), (RX7, 152, "disk", wDisk), (RX7, 176, "body", wBody), (RX7, 165, "flip", wFlip), (RX7, 167, "layer", wLayer), (RX7, 169, "moves", wMoves)]
def xS (A : Nat → Prop) (U : State) (H : Heap) : Prop := tS A U H ∧ ∀ q, q ∈ lits → ∃ a, vk_R q.1 q.2.1 q.2.2.1 a U ∧ sOK a q.2.2.2 A U H
abbrev XT := (Nat → Prop) → State → Heap → Prop
/-- facts that stand over calls -/
def gX (X : XT) : Prop := (∀ (A : Nat → Prop) (s : State) (H H1 : Heap), X A s H → (∀ a : Nat, a < H.size → ¬ A a → H1[a]? = H[a]?) → X A s H1) ∧ (∀ (A B : Nat → Prop) (s : State) (H : Heap), X A s H → (∀ q, B q → A q) → X B s H) ∧ (∀ (A : Nat → Prop) (s U : State) (H : Heap), s.WarmedH U.vm → X A s H → X A U H) ∧ ∀ (A : Nat → Prop) (U : State) (H : Heap) (g : JFrame) (mk : MethodId) (a : Array Value), X A U H → X A (U.calling g mk a) H
theorem sOK_al {a : Nat} {n : List Int32} {A : Nat → Prop} {u U : State} {H : Heap} (hv : u.vm.Alike U.vm) (h : sOK a n A u H) : sOK a n A U H := by
  obtain ⟨h1, h2, h3, v, h4, h5⟩ := h
  exact ⟨h1, va_O.moved hv h2, va_OF.moved hv h3, v, va_OF.moved hv h4, va_T.moved hv h5⟩
theorem gX_s (a : Nat) (n : List Int32) : gX (sOK a n) := by
  refine ⟨fun A s H H1 h hq => ?_, fun A B s H h hq => ?_, fun A s U H hW h => sOK_al hW.alike h, fun A U H g mk x h => sOK_al (u := U) (U := U.calling g mk x) (Vm.Alike.refl U.vm) h⟩
  · obtain ⟨h1, h2, h3, v, h4, h5⟩ := h
    exact ⟨h1, h2.kept hq, h3.kept hq, v, h4.kept hq, h5.kept hq⟩
  · obtain ⟨h1, h2, h3, v, h4, h5⟩ := h
    exact ⟨h1, h2.narrow hq, h3.narrow hq, v, h4.narrow hq, h5.narrow hq⟩
theorem gX_b (a : Nat) (n : List Int32) : gX (bOK a n) := by
  refine ⟨fun A s H H1 h hq => ?_, fun A B s H h hq => ?_, fun A s U H hW h => ?_, fun A U H g mk x h => ?_⟩
  · obtain ⟨h1, h5⟩ := h
    exact ⟨h1, h5.kept hq⟩
  · obtain ⟨h1, h5⟩ := h
    exact ⟨h1, h5.narrow hq⟩
  · obtain ⟨h1, h5⟩ := h
    exact ⟨h1, va_T.moved hW.alike h5⟩
  · obtain ⟨h1, h5⟩ := h
    exact ⟨h1, va_T.moved (u := U) (U := U.calling g mk x) (Vm.Alike.refl U.vm) h5⟩
theorem gX_t : gX tS := ⟨fun _ _ _ _ h hq => ⟨h.1.kept hq, h.2.kept hq⟩, fun _ _ _ _ h hq => ⟨h.1.narrow hq, h.2.narrow hq⟩, fun _ _ _ _ hW h => ⟨va_Z.moved hW.alike h.1, va_Zq.moved hW.alike h.2⟩, fun _ U _ g mk x h => ⟨va_Z.moved (u := U) (U := U.calling g mk x) (Vm.Alike.refl U.vm) h.1, va_Zq.moved (u := U) (U := U.calling g mk x) (Vm.Alike.refl U.vm) h.2⟩⟩
theorem gX_x : gX xS := by
  refine ⟨fun A s H H1 h hq => ⟨gX_t.1 A s H H1 h.1 hq, fun q hm => ?_⟩, fun A B s H h hq => ⟨gX_t.2.1 A B s H h.1 hq, fun q hm => ?_⟩, fun A s U H hW h => ⟨gX_t.2.2.1 A s U H hW h.1, fun q hm => ?_⟩, fun A U H g mk x h => ⟨gX_t.2.2.2 A U H g mk x h.1, fun q hm => ?_⟩⟩
  · obtain ⟨a, h1, h2⟩ := h.2 q hm
    exact ⟨a, h1, (gX_s _ _).1 _ _ _ _ h2 hq⟩
  · obtain ⟨a, h1, h2⟩ := h.2 q hm
    exact ⟨a, h1, (gX_s _ _).2.1 _ _ _ _ h2 hq⟩
  · obtain ⟨a, h1, h2⟩ := h.2 q hm
    exact ⟨a, h1.warm hW, (gX_s _ _).2.2.1 _ _ _ _ hW h2⟩
  · obtain ⟨a, h1, h2⟩ := h.2 q hm
    exact ⟨a, vk_R.same (u := U) (U := U.calling g mk x) rfl h1, (gX_s _ _).2.2.2 _ _ _ _ _ _ h2⟩
theorem gX_and {X Y : XT} (hx : gX X) (hy : gX Y) : gX (fun A U H => X A U H ∧ Y A U H) := ⟨fun A s H H1 h hq => ⟨hx.1 A s H H1 h.1 hq, hy.1 A s H H1 h.2 hq⟩, fun A B s H h hq => ⟨hx.2.1 A B s H h.1 hq, hy.2.1 A B s H h.2 hq⟩, fun A s U H hW h => ⟨hx.2.2.1 A s U H hW h.1, hy.2.2.1 A s U H hW h.2⟩, fun A U H g mk x h => ⟨hx.2.2.2 A U H g mk x h.1, hy.2.2.2 A U H g mk x h.2⟩⟩
/-- a method's start over the pool, with what it knows of Strings -/
def sPX (D : va_G) (cs : Nat → ClassId) (av : List Value) (sz : Nat) (L : List Nat) (K : Nat → Nat) (I : Nat → Nat → Int32) (J : Nat → Nat → Int64) (Q : Nat → Nat → Option Nat) (B : Nat → Prop) (X : XT) : Array Value → State → Prop := va_Pc av (fun U => (U.heap.size = sz ∧ va_P D vwCl (Wd cs L K I J Q) U.heap ∧ va_K D vwCl (tysA cs) U ∧ (∀ F, va_D (fun _ => True) (va_pl L F)) ∧ xN U) ∧ X B U U.heap)
theorem sPX_blind {D : va_G} {cs : Nat → ClassId} {av : List Value} {sz : Nat} {L : List Nat} {K : Nat → Nat} {I : Nat → Nat → Int32} {J : Nat → Nat → Int64} {Q : Nat → Nat → Option Nat} {B : Nat → Prop} {X : XT} (hg : gX X) : FrameBlind (sPX D cs av sz L K I J Q B X) := fun a U g mk q => by
  obtain ⟨q0, ⟨q1, qP, qK, qD, qN⟩, qX⟩ := q
  exact ⟨q0, ⟨q1, qP, va_K.moved (u := U) (U := U.calling g mk a) (Vm.Alike.refl U.vm) qK, qD, xN_call qN⟩, hg.2.2.2 B U U.heap g mk a qX⟩
theorem sPX_S {s : State} {H H0 : Heap} {locs : List Loc} {D : va_G} {cs : Nat → ClassId} {As : List Value} {L : List Nat} {K : Nat → Nat} {I : Nat → Nat → Int32} {J : Nat → Nat → Int64} {Q : Nat → Nat → Option Nat} {A B C : Nat → Prop} {X : XT} (hP : va_P D vwCl (Wd cs L K I J Q) H) (hD : ∀ F, va_D C (va_pl L F)) (hK : va_K D vwCl (tysA cs) s) (hN : xN s) (hg : gX X) (hS : va_S A H0 H locs) (hX : X A s H0) (hB : ∀ q, B q → A q) : PreS s H (sPX D cs As H.size L K I J Q B X) As :=
  ⟨sPX_blind hg, fun U hU hW => ⟨rfl, ⟨by rw [hU], by rw [hU]; exact hP, va_K.moved hW.alike hK, fun F => (hD F).weaken (fun _ _ _ _ => trivial), xN_warm hW hN⟩, by rw [hU]; exact hg.2.2.1 _ _ _ _ hW (hg.2.1 _ _ _ _ (hg.1 _ _ _ _ hX hS.2.1) hB)⟩⟩
theorem sPX_V {s : State} {H H0 : Heap} {locs : List Loc} {D : va_G} {cs : Nat → ClassId} {b κ ci : Nat} {C : String} {T : u_T} {N : Nat} {fs : List Value} {As : List Value} {L : List Nat} {K : Nat → Nat} {I : Nat → Nat → Int32} {J : Nat → Nat → Int64} {Q : Nat → Nat → Option Nat} {A B C1 : Nat → Prop} {X : XT} (hP : va_P D vwCl (Wd cs L K I J Q) H) (hD : ∀ F, va_D C1 (va_pl L F)) (hK : va_K D vwCl (tysA cs) s) (hN : xN s) (hb : b ∈ L) (hκ : K b = κ) (hfs : ent cs κ (I b) (J b) (Q b) = .inr (ci, fs)) (hc : vwCl[ci]? = some (C, T, N)) (hg : gX X) (hS : va_S A H0 H locs) (hX : X A s H0) (hB : ∀ q, B q → A q) : PreV s H C b (sPX D cs (.ref b :: As) H.size L K I J Q B X) As := by
  obtain ⟨i, hi⟩ := Wd_at hb hκ hfs
  exact ⟨sPX_blind hg, va_recv hK hP hc hi, (sPX_S (As := .ref b :: As) hP hD hK hN hg hS hX hB).2⟩
theorem sPX_VS {s : State} {H H0 : Heap} {locs : List Loc} {D : va_G} {cs : Nat → ClassId} {b : Nat} {n : List Int32} {As : List Value} {L : List Nat} {K : Nat → Nat} {I : Nat → Nat → Int32} {J : Nat → Nat → Int64} {Q : Nat → Nat → Option Nat} {A B C1 : Nat → Prop} {X : XT} (hP : va_P D vwCl (Wd cs L K I J Q) H) (hD : ∀ F, va_D C1 (va_pl L F)) (hK : va_K D vwCl (tysA cs) s) (hN : xN s) (hs : sOK b n A s H0) (hg : gX X) (hS : va_S A H0 H locs) (hX : X A s H0) (hB : ∀ q, B q → A q) : PreV s H "java/lang/String" b (sPX D cs (.ref b :: As) H.size L K I J Q B X) As := by
  obtain ⟨cell, h1, h2, h3, -⟩ := hs.2.1.kept hS.2.1
  exact ⟨sPX_blind hg, ⟨cell, h1, h2, h3⟩, (sPX_S (As := .ref b :: As) hP hD hK hN hg hS hX hB).2⟩
theorem nar255 {z : Int32} (h : 0 ≤ z.toInt ∧ z.toInt ≤ 255) : narrow .char (.int z) = .int z := by
  obtain ⟨h0, h1⟩ := h
  have e : z = nI z.toInt.toNat := Int32.toInt_inj.mp (by rw [nI_toInt (by omega)]; omega)
  rw [e]
  exact (pk_charN (by omega)).1
theorem str_len {z : Int32} {n : Nat} (e : z = Int32.ofNat n) (h : n < 2 ^ 31) : z.toInt = (n : Int) := by
  rw [e]; exact nI_toInt h
theorem shr0 {x y z : Int32} (ez : z = x >>> (y &&& 31)) (hy : 0 ≤ y.toInt ∧ y.toInt ≤ 0) : z.toInt = x.toInt := by
  obtain rfl : y = 0 := Int32.toInt_inj.mp (by rw [show (0 : Int32).toInt = 0 from by decide +kernel]; omega)
  have := tq_shr 0 ez (by decide +kernel)
  rw [this]; simp
