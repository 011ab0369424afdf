/-! the law: both sides hold one state -/
section LAW4
variable {L L0 : List Nat} {K G K0 G0 : Nat → Nat} {Q Q0 : Nat → Nat → Option Nat} {I I1 : Nat → Nat → Int32} {J J1 : Nat → Nat → Int64} {x m F : Nat} {σ : Sx}
theorem cmA_w (hQ : Sv L K G Q) (hL : m ∈ L) (hK : K m = 7) (h : cmA Q I J m σ) (d : ∀ b, K b = 7 ∨ K b = 18 ∨ K b = 19 ∨ K b = 20 ∨ K b = 24 → I1 b = I b) (dj : ∀ b, K b = 21 ∨ K b = 22 ∨ K b = 23 → J1 b = J b) : cmA Q I1 J1 m σ :=
  cmA_fr hQ hL hK (fun b hb => d b (by omega)) dj (by rw [d m (Or.inl hK)]) h
theorem cxA_w (hQ : Sv L K G Q) (hL : x ∈ L) (hK : K x = 6) (h : cxA Q I J x σ) (d : ∀ b, K b = 0 ∨ K b = 1 ∨ K b = 3 ∨ K b = 6 → I1 b = I b) (dj : ∀ b, K b = 12 → J1 b = J b) : cxA Q I1 J1 x σ :=
  cxA_fr (P := fun _ => True) hQ extW_refl hL hK (fun _ _ => rfl) rfl (by rw [d x (by omega)]) (by rw [d x (by omega)]) trivial trivial trivial trivial (fun _ _ => trivial) (fun b _ hb _ => d b (by omega)) (fun b _ hb _ => dj b hb) h
theorem cmA_al (hQ : Sv L0 K0 G0 Q0) (hL : m ∈ L0) (hK : K0 m = 7) (hE : extW L0 K0 G0 Q0 L K G Q) (h : cmA Q0 I J m σ) (d : ∀ b, b ∈ L0 → (K0 b = 7 ∨ K0 b = 18 ∨ K0 b = 19 ∨ K0 b = 20 ∨ K0 b = 24) → I1 b = I b) (dj : ∀ b, b ∈ L0 → (K0 b = 21 ∨ K0 b = 22 ∨ K0 b = 23) → J1 b = J b) : cmA Q I1 J1 m σ := by
  have eq : Q m = Q0 m := (hE m hL).2.2.2 (by rw [hK]; decide) (by rw [hK]; decide)
  obtain ⟨y0, f0, l0, k0⟩ := oQ_7_0 (Sv_at hQ hL hK)
  obtain ⟨y3, f3, l3, k3⟩ := oQ_7_3 (Sv_at hQ hL hK)
  obtain ⟨y4, f4, l4, k4⟩ := oQ_7_4 (Sv_at hQ hL hK)
  obtain ⟨y5, f5, l5, k5⟩ := oQ_7_5 (Sv_at hQ hL hK)
  obtain ⟨y8, f8, l8, k8⟩ := oQ_7_8 (Sv_at hQ hL hK)
  obtain ⟨y9, f9, l9, k9⟩ := oQ_7_9 (Sv_at hQ hL hK)
  obtain ⟨y10, f10, l10, k10⟩ := oQ_7_10 (Sv_at hQ hL hK)
  have e0 : a0 Q0 m 0 = y0 := gd_of f0
  have e3 : a0 Q0 m 3 = y3 := gd_of f3
  have e4 : a0 Q0 m 4 = y4 := gd_of f4
  have e5 : a0 Q0 m 5 = y5 := gd_of f5
  have e8 : a0 Q0 m 8 = y8 := gd_of f8
  have e9 : a0 Q0 m 9 = y9 := gd_of f9
  have e10 : a0 Q0 m 10 = y10 := gd_of f10
  have g : ∀ i, a0 Q m i = a0 Q0 m i := fun i => by unfold a0; rw [eq]
  obtain ⟨h1, h2, h3, h4⟩ := h
  rw [e0, e5] at h1
  rw [e3, e8] at h3
  rw [e4, e9, e10] at h4
  unfold cmA
  rw [g 0, g 5, g 3, g 8, g 10, g 4, g 9, e0, e3, e4, e5, e8, e9, e10]
  refine ⟨isF_fr (d y0 l0 (by omega)) (dj y5 l5 (by omega)) h1, by rw [d m hL (by omega)]; exact h2, fun j hj => isF_fr (d y3 l3 (by omega)) (dj y8 l8 (by omega)) (h3 j hj), fun s hs => ?_⟩
  rw [d y10 l10 (by omega)]
  rcases h4 s hs with z | ⟨z1, c2, z2, z3⟩
  · exact Or.inl z
  · exact Or.inr ⟨z1, c2, z2, isF_fr (d y4 l4 (by omega)) (dj y9 l9 (by omega)) z3⟩
/-- the state at the start: no dots are told, whatever lies in the reference's dots -/
def sg0 (f : Nat → Int64) : Sx := ((fun _ => 0, f), 0, fun _ => fx0, fun _ => none)
theorem okF_00 {f : Nat → Int64} : okF (fun _ => 0, f) := by
  have e : ((0 : Int32)).toInt = 0 := by decide +kernel
  refine ⟨?_, ?_, fun i hi => ?_, fun b hb => ?_⟩
  · show 0 ≤ (0 : Int32).toInt ∧ (0 : Int32).toInt ≤ 8; omega
  · show 0 ≤ (0 : Int32).toInt ∧ (0 : Int32).toInt ≤ 10; omega
  · have hi : i < (0 : Int32).toInt.toNat := hi
    omega
  · have hb : b < (0 : Int32).toInt.toNat := hb
    omega
theorem cxA_0 {f : Nat → Int64} (ea : an Q x = F) (hF : I F = fun _ => 0) (h10 : I x 10 = 0) (hs : ∀ s, s < 2 → Q (sa Q x) s = none) (hn : nf Q (se Q x) = F) : cxA Q I J x (sg0 f) := by
  have e : ((0 : Int32)).toInt = 0 := by decide +kernel
  refine ⟨⟨⟨okF_00, ?_⟩, ⟨by rw [h10, e]; rfl, by show (0 : Nat) ≤ 10; decide⟩, fun j hj => absurd hj (Nat.not_lt_zero j), fun s h => Or.inl ⟨hs s h, rfl⟩, hn.trans ea.symm⟩, fun i hi => ?_⟩
  · rw [ea]
    refine ⟨by rw [hF]; rfl, by rw [hF]; rfl, by rw [hF]; rfl, fun i hi => ?_, fun i hi => ?_⟩
    · have hi : i < (0 : Int32).toInt.toNat := hi
      omega
    · have hi : i < (0 : Int32).toInt.toNat := hi
      omega
  · have hi : i < (0 : Int32).toInt.toNat := hi
    omega
theorem cmA_0 (hN : I (a0 Q m 0) = fun _ => 0) (h11 : I m 11 = 0) (hk : I (a0 Q m 10) = fun _ => 0) : cmA Q I J m (sg0 (J (a0 Q m 5))) := by
  have e : ((0 : Int32)).toInt = 0 := by decide +kernel
  refine ⟨⟨fun k _ => by rw [hN]; rfl, fun k _ => by rw [show 640 * 0 + k = k by omega]; rfl⟩, ⟨by rw [h11, e]; rfl, by show (0 : Nat) ≤ 10; decide⟩, fun j hj => absurd hj (Nat.not_lt_zero j), fun s _ => Or.inl ⟨by rw [hk], rfl⟩⟩
end LAW4
