/-- the letters are no more -/
theorem rz {S K : HI} {N : Int32} (h : R S (up K 52 13 N)) (h0 : K 52 13 = 0) : R (up S 47 1 0) K := by
  refine h.rc ⟨?_, ?_, ?_⟩ (Fr.refl.put (by omega)) (fun a ha => (up_ne a (by omega)).symm) (fun b hb => (up_k hb).symm)
  · rw [up_v]; exact vp_b rfl
  · rw [up_v]; exact h0
  · intro i hi
    rw [up_v] at hi
    exact absurd hi (Nat.not_lt_zero i)
/-! the fault of one statement gives back what was -/
theorem restore_R {S K C : HI} {N : Int32} (hR : R S (up K 52 13 N)) (hK13 : K 52 13 = 0) (h65 : ∀ q, q < 146 → K 65 q = K (la q) (lb q)) (hC : ∀ a b, (59 < a ∨ a < 52 ∨ (a = 52 ∧ (b < 3 ∨ 5 < b))) → C a b = K a b) (hF : ∀ t, t < 27 → vp_in (C 56 t) 2) : R (up S 47 1 0) (fX6_carryAll_a C 0) := by
  obtain ⟨g1, g2⟩ := carryAll_gives_a C
  have gm : ∀ q, q < 146 → fX6_carryAll_a C 0 (la q) (lb q) = K (la q) (lb q) := fun q h1 => by rw [g1 q h1, hC 65 q (by omega)]; exact h65 q h1
  have go : ∀ a b, (59 < a ∨ (a = 52 ∧ (b < 3 ∨ 5 < b) ∧ ¬ (23 ≤ b ∧ b ≤ 25))) → fX6_carryAll_a C 0 a b = K a b := fun a b hab => by
    rw [g2 a b (fun q h1 e => by have := la_ok h1; omega) (by omega)]
    exact hC a b (by omega)
  have hA : Al 1 S K := by
    obtain ⟨⟨a1, a2, a3⟩, a4, a5, a6, a7⟩ := hR.1.1
    have e2 : ∀ a, a ≠ 52 → up K 52 13 N a = K a := fun a ha => up_ne a ha
    rw [up_k (by omega)] at a1 a2 a3
    rw [e2 53 (by omega)] at a4
    rw [e2 54 (by omega)] at a5
    rw [e2 55 (by omega)] at a6
    rw [e2 56 (by omega), e2 57 (by omega), e2 58 (by omega), e2 59 (by omega)] at a7
    exact ⟨⟨a1, a2, a3⟩, a4, a5, a6, a7⟩
  have hA2 : Al 1 S (fX6_carryAll_a C 0) := by
    obtain ⟨⟨a1, a2, a3⟩, a4, a5, a6, a7⟩ := hA
    refine ⟨⟨(gm 0 (by omega)).trans a1, (gm 1 (by omega)).trans a2, (gm 2 (by omega)).trans a3⟩, fun i hi => ?_, fun i hi => ?_, fun i hi => ?_, fun t ht => ?_⟩
    · have e := gm (3 + 2 * i) (by omega)
      rw [la53 hi, lb53 hi] at e
      exact e.trans (a4 i hi)
    · have e := gm (3 + 2 * i + 1) (by omega)
      rw [la54 hi, lb54 hi] at e
      exact e.trans (a5 i hi)
    · have e := gm (51 + i) (by omega)
      rw [la55 hi, lb55 hi] at e
      exact e.trans (a6 i hi)
    · have ht6 : t < 6 := by have e := hR.d6; omega
      obtain ⟨c1, c2, c3, c4⟩ := a7 t ht
      have e1 := gm (56 + 3 * t) (by omega)
      have e2 := gm (56 + 3 * t + 1) (by omega)
      have e3 := gm (56 + 3 * t + 2) (by omega)
      rw [la56 ht6, lb56 ht6] at e1
      rw [la57 ht6, lb57 ht6] at e2
      rw [la58 ht6, lb58 ht6] at e3
      refine ⟨e1.trans c1, e2.trans c2, e3.trans c3, fun k hk => ?_⟩
      have e4 := gm (74 + (12 * t + k)) (by omega)
      rw [la59 (by omega), lb59 (by omega)] at e4
      exact e4.trans (c4 k hk)
  have hX : ∀ a, 59 < a → fX6_carryAll_a C 0 a = up K 52 13 N a := fun a ha => by
    funext b
    rw [go a b (Or.inl ha), up_ne2 (by omega)]
  have h1 : R S (up (fX6_carryAll_a C 0) 52 13 N) := by
    refine ⟨⟨?_, hR.1.2.1, fun t ht => ?_⟩, hR.2.1.c rfl (by rw [up_ne 60 (by omega)]; exact hX 60 (by omega)), hR.2.2.1.c rfl rfl (by rw [up_v, up_v]) (by rw [up_ne 61 (by omega)]; exact hX 61 (by omega)), hR.2.2.2.1.c rfl rfl (by rw [up_k (by omega), up_k (by omega)]; exact go 52 27 (by omega)) (by rw [up_ne 67 (by omega)]; exact hX 67 (by omega)), hR.2.2.2.2.cJ (by rw [up_k (by omega), up_k (by omega)]; exact go 52 22 (by omega)) (by rw [up_ne 66 (by omega)]; exact hX 66 (by omega))⟩
    · obtain ⟨⟨a1, a2, a3⟩, a4, a5, a6, a7⟩ := hA2
      have e2 : ∀ a, a ≠ 52 → up (fX6_carryAll_a C 0) 52 13 N a = fX6_carryAll_a C 0 a := fun a ha => up_ne a ha
      unfold Al
      rw [up_k (by omega), up_k (by omega), up_k (by omega), e2 53 (by omega), e2 54 (by omega), e2 55 (by omega), e2 56 (by omega), e2 57 (by omega), e2 58 (by omega), e2 59 (by omega)]
      exact ⟨⟨a1, a2, a3⟩, a4, a5, a6, a7⟩
    · rw [up_ne2 (by omega)]
      by_cases q : t < 6
      · have e1 := g1 (56 + 3 * t) (by omega)
        rw [la56 q, lb56 q] at e1
        have e3 := gm (56 + 3 * t) (by omega)
        rw [la56 q, lb56 q] at e3
        rw [e3]
        have z := hR.hF6 t ht
        rw [up_ne2 (by omega)] at z
        exact z
      · rw [g2 56 t (fun p hp e => by have := la56_lt p hp e.1.symm; omega) (by omega)]
        exact hF t ht
  exact rz h1 (by rw [go 52 13 (by omega)]; exact hK13)
