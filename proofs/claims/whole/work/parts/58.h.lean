/-! the model's parser against the same places -/
def MS (K K0 : HI) (p : Nat) (b : Int32) : Prop := (∀ a c, a ≠ 64 → ¬ (a = 52 ∧ (c = 14 ∨ c = 15)) → K a c = K0 a c) ∧ K 52 14 = nI p ∧ K 52 15 = b
theorem MS.put {K K0 : HI} {p i : Nat} {b v : Int32} (h : MS K K0 p b) : MS (up K 64 i v) K0 p b := ⟨fun a c ha hc => by rw [up_ne2 ha]; exact h.1 a c ha hc, by rw [up_ne2 (by omega)]; exact h.2.1, by rw [up_ne2 (by omega)]; exact h.2.2⟩
theorem here_cs {S K0 K : HI} {p : Nat} {b : Int32} (hc : Rc S K0) (h : MS K K0 p b) (hp : p < 1000) : (fX6_here K = cs S p ∧ K 61 (ix (K 52 14)) = cs S p) ∨ (fX6_here K = -1 ∧ cs S p = -9) := by
  obtain ⟨c1, c2, c3⟩ := hc
  obtain ⟨h1, h2, h3⟩ := h
  have b1 := vb c1
  have e13 : K 52 13 = nI (ix (S 47 1)) := by rw [h1 52 13 (by omega) (by omega), c2]; exact vx c1
  have ecs : cs S p = if ix (S 47 1) ≤ p then -9 else S 48 p := by
    unfold cs fX0_signAt
    rw [if_neg (nI_pos (by omega)), ix_nI (by omega)]
    by_cases q : ix (S 47 1) ≤ p
    · rw [if_pos q, if_pos (by rw [vx c1]; exact nI_le q (by omega))]
    · rw [if_neg q, if_neg (by rw [vx c1]; exact nI_ge (by omega) (by omega))]
  unfold fX6_here
  rw [e13, h2, ecs, ix_nI (by omega)]
  by_cases q : ix (S 47 1) ≤ p
  · rw [if_pos q, if_pos (nI_le q (by omega))]
    exact Or.inr ⟨rfl, rfl⟩
  · rw [if_neg q, if_neg (nI_ge (by omega) (by omega)), h1 61 p (by omega) (by omega), c3 p (by omega)]
    exact Or.inl ⟨rfl, rfl⟩
theorem hr_eq {S K0 K : HI} {p : Nat} {b x : Int32} (hc : Rc S K0) (h : MS K K0 p b) (hp : p < 1000) (h1 : ¬ x = -1) (h9 : ¬ x = -9) : fX6_here K = x ↔ cs S p = x := by
  rcases here_cs hc h hp with ⟨e, -⟩ | ⟨e1, e2⟩
  · rw [e]
  · rw [e1, e2]
    exact ⟨fun q => absurd q.symm h1, fun q => absurd q.symm h9⟩
theorem here_dig {S K0 K : HI} {p : Nat} {b : Int32} (hc : Rc S K0) (h : MS K K0 p b) (hp : p < 1000) : fX6_in (fX6_here K).toInt64 48 57 = fX5_within (cs S p) 48 57 := by
  rw [show fX6_in (fX6_here K).toInt64 48 57 = fX5_within (fX6_here K) 48 57 from in6_eq _ 48 57]
  rcases here_cs hc h hp with ⟨e, -⟩ | ⟨e1, e2⟩
  · rw [e]
  · rw [e1, e2]; decide
def ST (S K0 K : HI) (p j : Nat) : Prop := (dn S j p = j ∧ MS K K0 (p + j) 0) ∨ (dn S j p < j ∧ MS K K0 (p + dn S j p) 1)
theorem MS.bad {K K0 : HI} {p : Nat} {b : Int32} (h : MS K K0 p b) : MS (up K 52 15 1) K0 p 1 := ⟨fun a c ha hc => by rw [up_o (by omega)]; exact h.1 a c ha hc, by rw [up_k (by omega)]; exact h.2.1, up_v⟩
theorem MS.inc {K K0 : HI} {p : Nat} {b : Int32} (h : MS K K0 p b) : MS (up (up K 52 15 0) 52 14 (K 52 14 + 1)) K0 (p + 1) 0 := ⟨fun a c ha hc => by rw [up_o (by omega), up_o (by omega)]; exact h.1 a c ha hc, by rw [up_v, h.2.1]; exact nv_iadd (b := 1) rfl rfl, by rw [up_k (by omega), up_v]⟩
theorem rd_step {S K0 K : HI} {p j : Nat} (hc : Rc S K0) (h : ST S K0 K p j) (hp : p + j < 500) : ST S K0 (fX6_readDigit K).2 p (j + 1) ∧ (fX6_readDigit K).2 64 = K 64 ∧ (dn S (j + 1) p = j + 1 → (fX6_readDigit K).1 = cs S (p + j) - 48) := by
  have hs := dn_s (S := S) j p
  unfold fX6_readDigit
  rcases h with ⟨d, h⟩ | ⟨d, h⟩
  · rw [if_pos h.2.2, here_dig hc h (by omega)]
    by_cases q : fX5_within (cs S (p + j)) 48 57 = 0
    · rw [if_pos q]
      rw [if_neg (fun z => z.2 q)] at hs
      refine ⟨Or.inr ⟨by omega, ?_⟩, show up K 52 15 1 64 = K 64 from up_ne 64 (by omega), fun z => by omega⟩
      rw [hs, d]; exact h.bad
    · rw [if_neg q]
      rw [if_pos ⟨d, q⟩] at hs
      refine ⟨Or.inl ⟨hs, h.inc⟩, ?_, fun _ => ?_⟩
      · dsimp only
        rw [up_ne 64 (by omega), up_ne 64 (by omega)]
      · rcases here_cs hc h (by omega) with ⟨-, e⟩ | ⟨-, e⟩
        · dsimp only
          rw [e]
        · rw [e] at q; exact absurd (by decide) q
  · rw [if_neg (by rw [h.2.2]; decide)]
    rw [if_neg (fun z => by omega)] at hs
    refine ⟨Or.inr ⟨by omega, ?_⟩, show up K 52 15 1 64 = K 64 from up_ne 64 (by omega), fun z => by omega⟩
    rw [hs]; exact h.bad
theorem ST.put {S K0 K : HI} {p j i : Nat} {v : Int32} (h : ST S K0 K p j) : ST S K0 (up K 64 i v) p j := by
  rcases h with ⟨d, h⟩ | ⟨d, h⟩
  · exact Or.inl ⟨d, h.put⟩
  · exact Or.inr ⟨d, h.put⟩
theorem tk1 {K0 K : HI} {p : Nat} {c : Int32} (h : MS K K0 p 1) : MS (fX6_take K c) K0 p 1 ∧ (fX6_take K c) 64 = K 64 := by
  unfold fX6_take
  rw [if_neg (by rw [h.2.2]; decide)]
  refine ⟨⟨fun a b ha hb => by rw [up_o (by omega), up_o (by omega)]; exact h.1 a b ha hb, by rw [up_v, Int32.add_zero]; exact h.2.1, by rw [up_k (by omega), up_v]⟩, ?_⟩
  rw [up_ne 64 (by omega), up_ne 64 (by omega)]
theorem tk0 {S K0 K : HI} {p : Nat} {c : Int32} (hc : Rc S K0) (h : MS K K0 p 0) (hp : p < 1000) (h1 : ¬ c = -1) (h9 : ¬ c = -9) : (cs S p = c → MS (fX6_take K c) K0 (p + 1) 0) ∧ (¬ cs S p = c → MS (fX6_take K c) K0 p 1) ∧ (fX6_take K c) 64 = K 64 := by
  have e := hr_eq hc h hp h1 h9
  unfold fX6_take
  rw [if_pos h.2.2]
  refine ⟨fun q => ?_, fun q => ?_, ?_⟩
  · rw [if_pos (e.mpr q)]; exact h.inc
  · rw [if_neg (fun z => q (e.mp z))]
    exact ⟨fun a b ha hb => by rw [up_o (by omega), up_o (by omega)]; exact h.1 a b ha hb, by rw [up_v, Int32.add_zero]; exact h.2.1, by rw [up_k (by omega), up_v]⟩
  · split
    · rw [up_ne 64 (by omega), up_ne 64 (by omega)]
    · rw [up_ne 64 (by omega), up_ne 64 (by omega)]
/-- how a statement stands behind its reading -/
def SE (K K0 : HI) (r : Int32 × Nat) : Prop := (r.1 = 0 → MS K K0 r.2 1) ∧ (¬ r.1 = 0 → MS K K0 r.2 0)
theorem pln_end {S K0 K : HI} {p d : Nat} (hc : Rc S K0) (h : ST S K0 K (p + 1) d) (hp : p + d < 500) : SE (fX6_take K 59) K0 (pln S d p) ∧ (fX6_take K 59) 64 = K 64 := by
  unfold pln
  rcases h with ⟨e, h⟩ | ⟨e, h⟩
  · obtain ⟨t1, t2, t3⟩ := tk0 (c := 59) hc h (by omega) (by decide) (by decide)
    rw [if_neg (by omega)]
    refine ⟨?_, t3⟩
    by_cases q : cs S (p + 1 + d) = 59
    · rw [if_pos q]; exact ⟨fun z => absurd z (show ¬ (1 : Int32) = 0 by decide), fun _ => t1 q⟩
    · rw [if_neg q]; exact ⟨fun _ => t2 q, fun z => absurd rfl z⟩
  · obtain ⟨t1, t2⟩ := tk1 (c := 59) h
    rw [if_pos e]
    exact ⟨⟨fun _ => t1, fun z => absurd rfl z⟩, t2⟩
noncomputable def nm (S : HI) (q : Nat) : Nat → Int32
  | 0 => 0
  | m + 1 => 10 * nm S q m + (cs S (q + m) - 48)
theorem nm1 {S : HI} {q : Nat} : nm S q 1 = cs S q - 48 := by
  show 10 * 0 + (cs S (q + 0) - 48) = _
  rw [Int32.mul_zero, Int32.zero_add]; rfl
theorem nm2 {S : HI} {q : Nat} : nm S q 2 = 10 * (cs S q - 48) + (cs S (q + 1) - 48) := by
  show 10 * nm S q 1 + (cs S (q + 1) - 48) = _
  rw [nm1]
theorem numberAt_nm {S : HI} {q : Nat} : ∀ m, fX0_numberAt S (nI q) m = nm S q m
  | 0 => by unfold fX0_numberAt fX0_numberAt_x5; rw [fo_0]; rfl
  | m + 1 => by
    have ih := numberAt_nm (S := S) (q := q) m
    unfold fX0_numberAt fX0_numberAt_x5 at ih ⊢
    rw [fo_end, ih, Nat.zero_add]
    unfold fX0_numberAt_b5
    rw [show nI q + nI m = nI (q + m) from nI_add q m, Int32.sub_eq_add_neg, Int32.add_assoc, ← Int32.sub_eq_add_neg]
    rfl
theorem dn_dec {S : HI} {m p : Nat} (h : dn S (m + 1) p = m + 1) : dn S m p = m := by
  have hs := dn_s (S := S) m p
  have hl := dn_le (S := S) m p
  by_cases q : dn S m p = m ∧ ¬ fX5_within (cs S (p + m)) 48 57 = 0
  · exact q.1
  · rw [if_neg q] at hs; omega
theorem rn1 {K0 K : HI} {p : Nat} (h : MS K K0 p 1) : MS (fX6_readNumber K).2 K0 p 1 ∧ (fX6_readNumber K).2 64 = K 64 := by
  have e1 : fX6_readDigit K = (0, up K 52 15 1) := by unfold fX6_readDigit; rw [if_neg (by rw [h.2.2]; decide)]
  unfold fX6_readNumber
  rw [e1, show (2 : Nat) = 1 + 1 from rfl, foE_s]
  have e2 : fX6_readNumber_b7 1 0 (up K 52 15 1) = Sum.inl (0, up K 52 15 1) := by unfold fX6_readNumber_b7; rw [up_v, if_neg (by decide)]
  dsimp only
  rw [e2]
  exact ⟨h.bad, show up K 52 15 1 64 = K 64 from up_ne 64 (by omega)⟩
theorem rn0 {S K0 K : HI} {q : Nat} (hc : Rc S K0) (h : MS K K0 q 0) (hq : q < 400) : (dn S 3 q = 0 → MS (fX6_readNumber K).2 K0 q 1) ∧ (0 < dn S 3 q → MS (fX6_readNumber K).2 K0 (q + dn S 3 q) 0 ∧ (fX6_readNumber K).1 = nm S q (dn S 3 q)) ∧ (fX6_readNumber K).2 64 = K 64 := by
  have h0 : ST S K0 K q 0 := Or.inl ⟨rfl, h⟩
  obtain ⟨s1, f1, v1⟩ := rd_step hc h0 (by omega)
  have d2 : dn S 2 q = if dn S 1 q = 1 ∧ ¬ fX5_within (cs S (q + 1)) 48 57 = 0 then 2 else dn S 1 q := dn_s (S := S) 1 q
  have d3 : dn S 3 q = if dn S 2 q = 2 ∧ ¬ fX5_within (cs S (q + 2)) 48 57 = 0 then 3 else dn S 2 q := dn_s (S := S) 2 q
  unfold fX6_readNumber fX6_readNumber_x7
  generalize fX6_readDigit K = R1 at s1 f1 v1 ⊢
  obtain ⟨x1, K1⟩ := R1
  dsimp only at s1 f1 v1 ⊢
  rw [show (2 : Nat) = 1 + 1 from rfl, foE_s]
  dsimp only
  rcases s1 with ⟨e, hK1⟩ | ⟨e, hK1⟩
  · have hv1 := v1 e
    have e : dn S 1 q = 1 := e
    have b1 : fX6_readNumber_b7 1 x1 K1 = if fX5_within (cs S (q + 1)) 48 57 = 0 then Sum.inl (x1, K1) else Sum.inr (10 * x1 + (fX6_readDigit K1).1, (fX6_readDigit K1).2) := by
      unfold fX6_readNumber_b7
      rw [if_pos hK1.2.2, here_dig hc hK1 (by omega)]
    rw [b1]
    by_cases c1 : fX5_within (cs S (q + 1)) 48 57 = 0
    · rw [if_pos c1]
      rw [if_neg (fun z => z.2 c1)] at d2
      rw [if_neg (fun z => by omega)] at d3
      have e3 : dn S 3 q = 1 := by omega
      rw [e3]
      exact ⟨fun z => by omega, fun _ => ⟨hK1, by show x1 = _; rw [nm1]; exact hv1⟩, f1⟩
    · rw [if_neg c1]
      rw [if_pos ⟨e, c1⟩] at d2
      obtain ⟨s2, f2, v2⟩ := rd_step hc (Or.inl ⟨e, hK1⟩) (by omega)
      have hv2 := v2 d2
      generalize fX6_readDigit K1 = R2 at s2 f2 v2 hv2 ⊢
      obtain ⟨x2, K2⟩ := R2
      dsimp only at s2 f2 v2 hv2 ⊢
      show (dn S 3 q = 0 → MS (foE 1 2 _ id (10 * x1 + x2, K2)).2 K0 q 1) ∧ (0 < dn S 3 q → MS (foE 1 2 _ id (10 * x1 + x2, K2)).2 K0 (q + dn S 3 q) 0 ∧ (foE 1 2 _ id (10 * x1 + x2, K2)).1 = nm S q (dn S 3 q)) ∧ (foE 1 2 _ id (10 * x1 + x2, K2)).2 64 = K 64
      rcases s2 with ⟨e2, hK2⟩ | ⟨e2, hK2⟩
      · have e2 : dn S 2 q = 2 := e2
        rw [show (1 : Nat) = 0 + 1 from rfl, foE_s]
        dsimp only
        have b2 : fX6_readNumber_b7 2 (10 * x1 + x2) K2 = if fX5_within (cs S (q + 2)) 48 57 = 0 then Sum.inl (10 * x1 + x2, K2) else Sum.inr (10 * (10 * x1 + x2) + (fX6_readDigit K2).1, (fX6_readDigit K2).2) := by
          unfold fX6_readNumber_b7
          rw [if_pos hK2.2.2, here_dig hc hK2 (by omega)]
        have hn2 : 10 * x1 + x2 = nm S q 2 := by rw [nm2, hv1, hv2]; rfl
        rw [b2]
        by_cases c2 : fX5_within (cs S (q + 2)) 48 57 = 0
        · rw [if_pos c2]
          rw [if_neg (fun z => z.2 c2)] at d3
          have e3 : dn S 3 q = 2 := by omega
          rw [e3]
          exact ⟨fun z => by omega, fun _ => ⟨hK2, hn2⟩, f2.trans f1⟩
        · rw [if_neg c2]
          rw [if_pos ⟨e2, c2⟩] at d3
          obtain ⟨s3, f3, v3⟩ := rd_step hc (Or.inl ⟨e2, hK2⟩) (by omega)
          have hv3 := v3 d3
          generalize fX6_readDigit K2 = R3 at s3 f3 v3 hv3 ⊢
          obtain ⟨x3, K3⟩ := R3
          dsimp only at s3 f3 v3 hv3 ⊢
          show (dn S 3 q = 0 → MS (foE 0 3 _ id (10 * (10 * x1 + x2) + x3, K3)).2 K0 q 1) ∧ (0 < dn S 3 q → MS (foE 0 3 _ id (10 * (10 * x1 + x2) + x3, K3)).2 K0 (q + dn S 3 q) 0 ∧ (foE 0 3 _ id (10 * (10 * x1 + x2) + x3, K3)).1 = nm S q (dn S 3 q)) ∧ (foE 0 3 _ id (10 * (10 * x1 + x2) + x3, K3)).2 64 = K 64
          rw [foE_0]
          have e3 : dn S 3 q = 3 := d3
          rw [e3]
          rcases s3 with ⟨-, hK3⟩ | ⟨z, -⟩
          · refine ⟨fun z => by omega, fun _ => ⟨hK3, ?_⟩, (f3.trans f2).trans f1⟩
            show 10 * (10 * x1 + x2) + x3 = 10 * nm S q 2 + (cs S (q + 2) - 48)
            rw [hn2, hv3]
          · have z : dn S 3 q < 3 := z
            omega
      · have e2 : dn S 2 q < 2 := e2
        omega
  · have b1 : fX6_readNumber_b7 1 x1 K1 = Sum.inl (x1, K1) := by
      unfold fX6_readNumber_b7
      rw [if_neg (by rw [hK1.2.2]; decide)]
    rw [b1]
    have e1 : dn S 1 q = 0 := by have e' : dn S 1 q < 1 := e; omega
    rw [if_neg (fun z => by omega)] at d2
    rw [if_neg (fun z => by omega)] at d3
    have e3 : dn S 3 q = 0 := by omega
    rw [e3]
    refine ⟨fun _ => ?_, fun z => by omega, f1⟩
    have hz : dn S (0 + 1) q = 0 := e1
    rw [hz] at hK1
    exact hK1
