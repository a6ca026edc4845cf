theorem sm_of {I J : HI} (hR : R I J) (a v : Int32) : (fX5_of I a v).1 = (fX6_of J a v).1 ∧ R (fX5_of I a v).2 (fX6_of J a v).2 := by
  have h := hR.th (v := 0)
  unfold fX5_of fX6_of
  generalize up J 52 10 0 = K at h ⊢
  unfold fX6_of_c5
  rw [isTrace6_eq h, show fX6_in v.toInt64 0 8 = fX5_within v 0 8 from in6_eq v 0 8]
  by_cases h1 : fX3_hasTrace I a = 0
  · rw [if_pos h1, if_pos h1]; exact h.refuse ref1
  rw [if_neg h1, if_neg h1]
  have ht := (hasTrace_lt h.hd h1).2
  have h6 := vb (hasTrace_lt h.hd h1).1
  have hl := h.li ht
  have b0 := h.hF (ix a) h6
  by_cases h2 : fX5_within v 0 8 = 0
  · rw [if_pos h2]
    have hv : ∀ k : Nat, k < 9 → ¬ v = nI k := fun k hk e => by
      rw [e] at h2
      rcases (show k = 0 ∨ k = 1 ∨ k = 2 ∨ k = 3 ∨ k = 4 ∨ k = 5 ∨ k = 6 ∨ k = 7 ∨ k = 8 by omega) with rfl | rfl | rfl | rfl | rfl | rfl | rfl | rfl | rfl <;> exact absurd h2 (by decide)
    rw [if_neg (show ¬ v = 0 from hv 0 (by omega)), if_neg (show ¬ v = 1 from hv 1 (by omega)), if_neg (show ¬ v = 2 from hv 2 (by omega)), if_neg (show ¬ v = 3 from hv 3 (by omega)), if_neg (show ¬ v = 4 from hv 4 (by omega)), if_neg (show ¬ v = 5 from hv 5 (by omega)), if_neg (show ¬ v = 6 from hv 6 (by omega)), if_neg (show ¬ v = 7 from hv 7 (by omega)), if_neg (show ¬ v = 8 from hv 8 (by omega))]
    exact h.refuse ref2
  rw [if_neg h2]
  have b1 := within_in (b := 8) h2 (by omega)
  have e1 := vx b1
  have b2 := vb b1
  have hfl : fX3_flatsOf I (6 + 2 * ix a) = nI (ix (fX3_flatsOf I (6 + 2 * ix a))) := vx (by rw [← flats_eq hl (fun i hi => h.hard hi) (h.foot ht) b0]; exact flats6_in)
  rw [h.foot ht, h.push ht, h.lean ht, round_eq hl (h.radin h6 (by omega)), gap_eq hl, off_eq hl (h.set (by omega)), (hour_eq hl).1, bend_eq hl (hour_eq hl).2, flats_eq hl (fun i hi => h.hard hi) (h.foot ht) b0]
  by_cases q0 : v = 0
  · rw [if_pos q0, if_pos q0]; exact ⟨rfl, h⟩
  by_cases q1 : v = 1
  · rw [if_neg q0, if_neg q0, if_pos q1, if_pos q1]; exact ⟨rfl, h⟩
  by_cases q2 : v = 2
  · rw [if_neg q0, if_neg q0, if_neg q1, if_neg q1, if_pos q2, if_pos q2]; exact ⟨rfl, h⟩
  by_cases q3 : v = 3
  · rw [if_neg q0, if_neg q0, if_neg q1, if_neg q1, if_neg q2, if_neg q2, if_pos q3, if_pos q3]; exact ⟨rfl, h⟩
  by_cases q4 : v = 4
  · rw [if_neg q0, if_neg q0, if_neg q1, if_neg q1, if_neg q2, if_neg q2, if_neg q3, if_neg q3, if_pos q4, if_pos q4]; exact ⟨rfl, h⟩
  by_cases q5 : v = 5
  · rw [if_neg q0, if_neg q0, if_neg q1, if_neg q1, if_neg q2, if_neg q2, if_neg q3, if_neg q3, if_neg q4, if_neg q4, if_pos q5, if_pos q5]; exact ⟨rfl, h⟩
  by_cases q6 : v = 6
  · rw [if_neg q0, if_neg q0, if_neg q1, if_neg q1, if_neg q2, if_neg q2, if_neg q3, if_neg q3, if_neg q4, if_neg q4, if_neg q5, if_neg q5, if_pos q6, if_pos q6]; exact ⟨rfl, h⟩
  by_cases q7 : v = 7
  · rw [if_neg q0, if_neg q0, if_neg q1, if_neg q1, if_neg q2, if_neg q2, if_neg q3, if_neg q3, if_neg q4, if_neg q4, if_neg q5, if_neg q5, if_neg q6, if_neg q6, if_pos q7, if_pos q7]; exact ⟨rfl, h⟩
  have q8 : v = 8 := by
    rcases (show ix v = 0 ∨ ix v = 1 ∨ ix v = 2 ∨ ix v = 3 ∨ ix v = 4 ∨ ix v = 5 ∨ ix v = 6 ∨ ix v = 7 ∨ ix v = 8 by omega) with q | q | q | q | q | q | q | q | q <;> rw [q] at e1
    · exact absurd e1 q0
    · exact absurd e1 q1
    · exact absurd e1 q2
    · exact absurd e1 q3
    · exact absurd e1 q4
    · exact absurd e1 q5
    · exact absurd e1 q6
    · exact absurd e1 q7
    · exact e1
  rw [if_neg q0, if_neg q0, if_neg q1, if_neg q1, if_neg q2, if_neg q2, if_neg q3, if_neg q3, if_neg q4, if_neg q4, if_neg q5, if_neg q5, if_neg q6, if_neg q6, if_neg q7, if_neg q7, if_pos q8]; exact ⟨hfl, h⟩
theorem lo_of {I : HI} (a v : Int32) : Fr Pl I (fX5_of I a v).2 := by
  unfold fX5_of
  repeat' split
  all_goals first | exact refuse5_lo | exact Fr.refl
theorem hi_of {I : HI} (a v : Int32) : Fr Ph I (fX6_of I a v).2 := by
  refine th_hi.trans ?_
  unfold fX6_of fX6_of_c5
  repeat' split
  all_goals first | exact refuse6_hi | exact Fr.refl
theorem sm_close {I J : HI} (hR : R I J) (a b : Int32) : (fX5_close I a b).1 = (fX6_close J a b).1 ∧ R (fX5_close I a b).2 (fX6_close J a b).2 := by
  have h := hR.th (v := 0)
  unfold fX5_close fX6_close
  generalize up J 52 10 0 = K at h ⊢
  unfold fX6_close_c5
  rw [isTrace6_eq h, isTrace6_eq h]
  by_cases h1 : fX3_hasTrace I a = 0
  · rw [if_pos h1, if_pos h1]; exact h.refuse ref1
  by_cases h2 : fX3_hasTrace I b = 0
  · rw [if_neg h1, if_neg h1, if_pos h2, if_pos h2]; exact h.refuse ref1
  rw [if_neg h1, if_neg h1, if_neg h2, if_neg h2]
  exact ⟨(far_eq (h.li (hasTrace_lt h.hd h1).2) (h.li (hasTrace_lt h.hd h2).2)).symm, h⟩
theorem lo_close {I : HI} (a v : Int32) : Fr Pl I (fX5_close I a v).2 := by
  unfold fX5_close
  repeat' split
  all_goals first | exact refuse5_lo | exact Fr.refl
theorem hi_close {I : HI} (a v : Int32) : Fr Ph I (fX6_close I a v).2 := by
  refine th_hi.trans ?_
  unfold fX6_close fX6_close_c5
  repeat' split
  all_goals first | exact refuse6_hi | exact Fr.refl
/-! the greatest common divisor -/
theorem gcd6 : ∀ (n : Nat) (a b : Nat), b < n → a < 2 ^ 31 → b < 2 ^ 31 → (wh n (fun (s : Int32 × Int32) => fX6_divisor_b4 s.1 s.2) (nI b, nI a)).2 = nI (Nat.gcd a b)
  | 0, a, b, h, _, _ => by omega
  | n + 1, a, b, h, ha, hb => by
    rw [wh_s]
    rcases Nat.eq_zero_or_pos b with e | e
    · subst e
      have q : fX6_divisor_b4 (nI 0) (nI a) = Sum.inl (nI 0, nI a) := by unfold fX6_divisor_b4; rw [if_pos (show nI 0 = 0 from rfl)]
      dsimp only
      rw [q, Nat.gcd_zero_right]
      rfl
    · have hm := Nat.mod_lt a e
      have q : fX6_divisor_b4 (nI b) (nI a) = Sum.inr (nI (a % b), nI b) := by
        unfold fX6_divisor_b4
        rw [if_neg (nI_ne0 e hb), nv_irem (a := a) (b := b) rfl rfl ha e hb]
      dsimp only
      rw [q]
      show (wh n _ (nI (a % b), nI b)).2 = _
      rw [gcd6 n b (a % b) (by omega) hb (by omega), Nat.gcd_comm a b, Nat.gcd_rec b a, Nat.gcd_comm]
theorem half_mod {a b : Nat} (hb : 0 < b) (hab : b ≤ a) : 2 * (a % b) < a := by
  have h1 := Nat.mod_lt a hb
  have h2 := Nat.div_add_mod a b
  have h3 : 1 ≤ a / b := (Nat.one_le_div_iff hb).mpr hab
  have h4 : b * 1 ≤ b * (a / b) := Nat.mul_le_mul_left b h3
  omega
theorem gcd5 : ∀ (n m i : Nat) (a b : Nat), 2 * n + 1 ≤ m → b < 2 ^ n → a < 2 ^ 31 → b < 2 ^ 31 → (foE m i (fun (i : Nat) (s : Int32 × Int32) => fX5_commonDivisor_b7 i s.1 s.2) id (nI b, nI a)).2 = nI (Nat.gcd a b) := by
  have b0 : ∀ (i a : Nat), fX5_commonDivisor_b7 i (nI 0) (nI a) = Sum.inl (nI 0, nI a) := fun i a => by unfold fX5_commonDivisor_b7; rw [if_pos (show nI 0 = 0 from rfl)]
  have bs : ∀ (i a b : Nat), 0 < b → a < 2 ^ 31 → b < 2 ^ 31 → fX5_commonDivisor_b7 i (nI b) (nI a) = Sum.inr (nI (a % b), nI b) := fun i a b e ha hb => by
    unfold fX5_commonDivisor_b7
    rw [if_neg (nI_ne0 e hb), nv_irem (a := a) (b := b) rfl rfl ha e hb]
  intro n
  induction n with
  | zero =>
    intro m i a b hm0 h ha hb
    obtain ⟨m', rfl⟩ : ∃ m', m = m' + 1 := ⟨m - 1, by omega⟩
    have e : b = 0 := by omega
    subst e
    rw [foE_s]
    dsimp only
    rw [b0, Nat.gcd_zero_right]
    rfl
  | succ n ih =>
    intro m i a b hm0 h ha hb
    obtain ⟨m', rfl⟩ : ∃ m', m = m' + 1 + 1 := ⟨m - 2, by omega⟩
    rw [foE_s]
    dsimp only
    rcases Nat.eq_zero_or_pos b with e | e
    · subst e
      rw [b0, Nat.gcd_zero_right]
      rfl
    · rw [bs i a b e ha hb]
      show (foE (m' + 1) (i + 1) _ id (nI (a % b), nI b)).2 = _
      rw [foE_s]
      dsimp only
      have hm := Nat.mod_lt a e
      rcases Nat.eq_zero_or_pos (a % b) with e2 | e2
      · rw [e2, b0]
        have : Nat.gcd a b = b := by rw [Nat.gcd_comm, Nat.gcd_rec, e2, Nat.gcd_zero_left]
        rw [this]
        rfl
      · rw [bs (i + 1) b (a % b) e2 hb (by omega)]
        show (foE m' (i + 1 + 1) _ id (nI (b % (a % b)), nI (a % b))).2 = _
        have hh := half_mod e2 (Nat.le_of_lt hm)
        have hp : 2 ^ (n + 1) = 2 * 2 ^ n := by rw [Nat.pow_succ]; omega
        rw [ih m' (i + 1 + 1) (a % b) (b % (a % b)) (by omega) (by omega) (by omega) (by omega)]
        congr 1
        rw [Nat.gcd_comm a b, Nat.gcd_rec b a, Nat.gcd_rec (a % b) b, Nat.gcd_comm]
theorem div_eq {a b : Nat} (ha : a < 2 ^ 31) (hb : b < 2 ^ 31) : fX5_commonDivisor (nI a) (nI b) = nI (Nat.gcd a b) ∧ fX6_divisor (nI a) (nI b) = nI (Nat.gcd a b) := by
  refine ⟨?_, ?_⟩
  · unfold fX5_commonDivisor fX5_commonDivisor_x7
    dsimp only
    exact gcd5 31 64 0 a b (by omega) hb ha hb
  · unfold fX6_divisor fX6_divisor_x4
    dsimp only
    rw [nI_toInt hb]
    exact gcd6 _ a b (by simp) ha hb
