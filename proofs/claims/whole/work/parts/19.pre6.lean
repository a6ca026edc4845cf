theorem fa_and (a b : Nat) : nI a &&& nI b = nI (a &&& b) := by
  apply Int32.toBitVec_inj.1
  show BitVec.ofNat 32 a &&& BitVec.ofNat 32 b = BitVec.ofNat 32 (a &&& b)
  apply BitVec.eq_of_getLsbD_eq
  intro i hi
  simp [hi]
theorem fa_or (a b : Nat) : nI a ||| nI b = nI (a ||| b) := by
  apply Int32.toBitVec_inj.1
  show BitVec.ofNat 32 a ||| BitVec.ofNat 32 b = BitVec.ofNat 32 (a ||| b)
  apply BitVec.eq_of_getLsbD_eq
  intro i hi
  simp [hi]
theorem nv_iand {x y : Int32} {a b : Nat} (hx : x = nI a) (hy : y = nI b) : x &&& y = nI (a &&& b) := by rw [hx, hy]; exact fa_and a b
theorem pred_pos2 {k : Nat} (h : 0 ≤ nI k - 1) : 0 < k := by
  rcases Nat.eq_zero_or_pos k with e | e
  · subst e
    exact absurd h (by decide +kernel)
  · exact e
theorem pos_of_ne {k : Nat} (h : ¬ nI k = 0) : 0 < k := by
  rcases Nat.eq_zero_or_pos k with e | e
  · subst e
    exact absurd rfl h
  · exact e
theorem vp_mono {x : Int32} {a b : Nat} (h : vp_in x a) (hab : a ≤ b) : vp_in x b := fun q => q.elim (fun q => h (Or.inl q)) (fun q => h (Or.inr (Nat.le_trans hab q)))
theorem up_ne2 {I : HI} {j k a b : Nat} {v : Int32} (h : a ≠ j) : up I j k v a b = I a b := by rw [up_ne a h]
theorem toInt64_lt (a b : Int32) : a.toInt64 < b.toInt64 ↔ a < b := by
  rw [Int64.lt_iff_toInt_lt, Int32.lt_iff_toInt_lt, Int32.toInt_toInt64, Int32.toInt_toInt64]
theorem vp_b {x : Int32} {n : Nat} (h : decide (¬ (x < 0 ∨ n ≤ x.toNatClampNeg)) = true) : vp_in x n := by unfold vp_in; exact of_decide_eq_true h
theorem ix_nI {n : Nat} (h : n < 2 ^ 31) : ix (nI n) = n := nI_clamp h
