
/-! THE CLAIM OUT OF ONE WALK OF THE LAW'S BODY. Your part is whole_start (and what it stands on); all else here is the same for every law, but numbers. -/
def R_law : String := "MaskTouchLaw"
def lw_P (b : Addr) (xs : List Int32) (args : Array Value) (s : State) : Prop := args = #[.ref b] ∧ s.IntsAt b xs ∧ xs.length ≤ 3072 ∧ (Jvm.Cond.and given_1 narrow_1).before args s = true
/-- what a walk over the start with the record d0 says of its end, said of the start itself -/
theorem lw_closed {s t : State} {o : Outcome} {d0 : Drawn} {L : List Loc} {k n : Nat} (hd0 : s.drawn.sameBut d0 lw_cs) (hv : ∃ v, o = .returned v) (hW : (s.setDrawn d0).WarmedH t.vm) (hs : (s.setDrawn d0).sameButNew ({ t with vm := s.vm } : State) L k n) : State.butDraws s t lw_cs (fun t1 => Framed s o t1 L k n) := by
  have h2 : t.drawn = d0 := congrArg State.drawn hs.1
  refine ⟨⟨hv, hW, State.sameButNew.setDrawn hs s.drawn⟩, ?_, by decide⟩
  rw [h2]
  exact hd0
def lw_Q (_ : Array Value) (s : State) (o : Outcome) (t : State) : Prop := o = .returned (some (.int 1)) ∧ State.butDraws s t lw_cs (fun t1 => Framed s o t1 [] 600000 7302249)
def lw_Z (below : List Frame) (a : Array Value) (s : State) : State → Prop := fun t => ∃ o, t.status = .running ∧ Ended t below o ∧ lw_Q a s o t
/-- the law's own end, with 1 on the stack, nothing written that was there before, its room as the claim has it; d0: the record of draws at this point (at the entry s.drawn: begin with 'refine W.base ?_' and 'have hd0 := Drawn.sameBut.refl s.drawn lw_cs') -/
theorem lw_ret {p : Program} {l : Launch} {e : Env} {s : State} {m : MethodId} {below : List Frame} {meth : Method} {c : Code} {b : Nat} {d0 : Drawn} (hd0 : s.drawn.sameBut d0 lw_cs) (hx : p.tables.exec = Jvm.exec) (hb : c.code = code) (hr : meth.sig.returnType = ret) (hlocks : meth.locks = false) {pc : Nat} {H : Heap} {ls : Array Slot} (hdg : decode code pc = .ok (.ireturn, 1)) : W p l e room_1 (s.setDrawn d0) m #[Value.ref b] below meth c H [] 600000 7302249 (lw_Z below #[Value.ref b] s) (F0 m pc ls [.int 1]) := by
  intro T hT X
  obtain ⟨fs, hret, hrun, hended, hW, hframe⟩ := X.leave (v := some (.int 1)) (hlocks := hlocks) (fun h => by rw [hr] at h; cases h)
  have hmeth' : T.vm.method? m = some meth := X.method'
  refine ⟨T.setFrames fs, ?_, .returned (some (.int 1)), hrun, hended, rfl, lw_closed hd0 ⟨_, rfl⟩ hW hframe⟩
  jvm_step X.here [X.here.top, hx, hb, hdg, hmeth', hr, ret, narrow_b1]
  (try refine ⟨rfl, ?_⟩); (try refine ⟨rfl, ?_⟩)
  first | (intro acts; rw [hret _ acts rfl rfl rfl]) | rw [hret _ _ rfl rfl rfl]
  exact Steps.refl _
/-- what holds at the law's entry: the machine, the code, the tables' words (any of lw_tbl by 'hts w (by decide +kernel)'), the script of L ints xs at the cell b, what the Statement gives of the start (any of its parts by flat_of_before) -/
def lw_At (p : Program) (s : State) (m : MethodId) (meth : Method) (c : Code) (b L : Nat) (xs : Nat → Int32) : Prop :=
  p.tables.exec = Jvm.exec ∧ c.code = code ∧ meth.sig.returnType = ret ∧ c.maxLocals = 4 ∧ s.vm.findClass R_law = some m.cls ∧ (∀ w ∈ lw_tbl, w.before #[Value.ref b] s = true) ∧ va_X b L xs s s.heap ∧ b < s.heap.size ∧ meth.locks = false ∧ (Jvm.Cond.and given_1 narrow_1).before #[Value.ref b] s = true

/-- tapes as long as each other, and alike -/
def agr (tx tm : GT) : Prop := tx.1 = tm.1 ∧ ∀ k : Nat, k < tx.1.toInt.toNat → tx.2.2 k = tm.2.2 k
/-- what holds at the head of the law's loop, before its call number n: the pool, the tapes as long as each other, the places within bounds that grow, the room spent -/
def lwI (dC : Nat → ClassId) (dI : Nat → Nat → Nat) (cs : Nat → ClassId) (x0 m0 b : Nat) (s : State) (i : Int32) (n : Nat) (d0 : Drawn) (H : Heap) (lo : List Loc) (ls : Array Slot) (nc ns : Nat) : Prop := ∃ (L : List Nat) (K G : Nat → Nat) (Q : Nat → Nat → Option Nat) (I : Nat → Nat → Int32) (J : Nat → Nat → Int64) (tx tm : GT) (B : Int) (σ : Sx), Sv L K G Q ∧ Iv L K x0 m0 tx (tm, B) I ∧ x0 ∈ L ∧ m0 ∈ L ∧ B ≤ 999 + 10000 * (n : Int) ∧ agr tx tm ∧ cxA Q I J x0 σ ∧ cmA Q I J m0 σ ∧ (∀ F, va_D (fun q : Nat => s.heap.size ≤ q) (va_pl L F)) ∧ (∀ q, q ∈ L → (fun q : Nat => s.heap.size ≤ q) q) ∧ va_P (dC, dI) vwCl (Wd cs L K I J Q) H ∧ va_S (fun q : Nat => s.heap.size ≤ q) s.heap H lo ∧ lv_has ls 4 [(3, .int i), (2, .ref m0), (1, .ref x0), (0, .ref b)] ∧ s.drawn.sameBut d0 lw_cs ∧ nc ≤ 110 + 29 * n ∧ ns ≤ 27528 + 807 * n
theorem lwI_up {dC : Nat → ClassId} {dI : Nat → Nat → Nat} {cs : Nat → ClassId} {x0 m0 b : Nat} {s : State} {i : Int32} {n : Nat} {d0 : Drawn} {H : Heap} {lo : List Loc} {ls : Array Slot} {nc ns : Nat} (h : lwI dC dI cs x0 m0 b s i n d0 H lo ls nc ns) : lwI dC dI cs x0 m0 b s i (n + 1) d0 H lo ls nc ns := by
  obtain ⟨L, K, G, Q, I, J, tx, tm, B, σ, hQ, hI, hx0, hm0, hB, hT, hC, hM, hD, hAL, hP, hS, hl, hd0, hnc, hns⟩ := h
  exact ⟨L, K, G, Q, I, J, tx, tm, B, σ, hQ, hI, hx0, hm0, by omega, hT, hC, hM, hD, hAL, hP, hS, hl, hd0, by omega, by omega⟩
theorem lw_in {i j : Int32} {n : Nat} {J : Int} (hj : j.toInt = J) (h0 : 0 ≤ J) (h5 : J ≤ 5) (hi : 0 ≤ i.toInt) (h : i.toInt + 5 < (n : Int)) (hn : n ≤ 3072) : vp_in (i + j) n := by
  have e : (i + j).toInt = i.toInt + J := tq_add rfl rfl hj (by omega) (by omega)
  exact in_of (by omega) (by omega)
