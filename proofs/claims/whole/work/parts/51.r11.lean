theorem bounded_held {x m : Int32} (hm : 0 ≤ m) : fX5_bounded x m = fX6_held x m := by
  unfold fX5_bounded fX6_held
  rw [← iMin_if, ← iMax_if]
  by_cases h1 : x ≤ m
  · rw [if_pos h1]
    by_cases h2 : 0 ≤ x
    · rw [if_pos h2]
      by_cases h3 : x ≤ 0
      · rw [if_pos h3]; exact Int32.le_antisymm h2 h3
      · rw [if_neg h3]
    · rw [if_neg h2, if_pos (Int32.le_of_lt (Int32.not_le.mp h2))]
  · rw [if_neg h1]
    have h2 : 0 ≤ x := Int32.le_trans hm (Int32.le_of_lt (Int32.not_le.mp h1))
    rw [if_pos h2]
    by_cases h3 : m ≤ 0
    · rw [if_pos h3]; exact Int32.le_antisymm hm h3
    · rw [if_neg h3]
def popF : Nat → Nat → Nat
  | 0, _ => 0
  | f + 1, n => if n = 0 then 0 else popF f (n &&& (n - 1)) + 1
theorem and_pred_lt {n : Nat} (h : 0 < n) : n &&& (n - 1) < n := by
  have := @Nat.and_le_right n (n - 1)
  omega
theorem ones_pop : ∀ (F n x : Nat), n < F → n < 2 ^ 31 → (wh F (fun (s : Nat × Int32) => fX6_ones_b4 s.1 s.2) (n, nI x)).2 = nI (x + popF F n)
  | 0, n, x, h, _ => by omega
  | F + 1, n, x, h, hn => by
    rw [wh_s]
    dsimp only
    rcases Nat.eq_zero_or_pos n with e | e
    · subst e
      have q : fX6_ones_b4 0 (nI x) = Sum.inl (0, nI x) := by unfold fX6_ones_b4; rw [if_pos (show nI 0 = 0 from rfl)]
      rw [q]
      show nI x = nI (x + popF (F + 1) 0)
      rfl
    · have q : fX6_ones_b4 n (nI x) = Sum.inr (n &&& (n - 1), nI (x + 1)) := by
        unfold fX6_ones_b4
        rw [if_neg (nI_ne0 e hn), show nI x + 1 = nI (x + 1) from nv_iadd (b := 1) rfl rfl]
      have hl := and_pred_lt e
      rw [q]
      show (wh F _ (n &&& (n - 1), nI (x + 1))).2 = _
      rw [ones_pop F _ _ (by omega) (by omega)]
      rw [show popF (F + 1) n = popF F (n &&& (n - 1)) + 1 by rw [popF, if_neg (by omega)]]
      congr 1
      omega
theorem pop_fuel : ∀ (F G n : Nat), n < F → n < G → popF F n = popF G n
  | 0, _, n, h, _ => by omega
  | F + 1, 0, n, _, h => by omega
  | F + 1, G + 1, n, h1, h2 => by
    unfold popF
    rcases Nat.eq_zero_or_pos n with e | e
    · rw [if_pos e, if_pos e]
    · have hl := and_pred_lt e
      rw [if_neg (by omega), if_neg (by omega), pop_fuel F G (n &&& (n - 1)) (by omega) (by omega)]
theorem ones_eq {n : Nat} (h : n < 4096) : fX6_ones n = nI (popF 4096 n) := by
  unfold fX6_ones fX6_ones_x4
  dsimp only
  rw [show (0 : Int32) = nI 0 from rfl, ones_pop (n + 1) n 0 (by omega) (by omega), Nat.zero_add, pop_fuel (n + 1) 4096 n (by omega) h]
set_option maxRecDepth 100000 in
theorem bc_all : ∀ n, n < 4096 → fJ6_bitCount_0f7a4 (nI n) = nI (popF 4096 n) := by decide +kernel
theorem bc_ones {x : Int32} (h : vp_in x 4096) : fJ6_bitCount_0f7a4 x = fX6_ones (ix x) := by
  rw [ones_eq (vb h), ← bc_all _ (vb h), ← vx h]
