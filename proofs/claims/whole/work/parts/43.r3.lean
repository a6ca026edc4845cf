/-! the plain calls -/
theorem ref1 : isRef (-1) := Or.inl rfl
theorem ref2 : isRef (-2) := Or.inr (Or.inl rfl)
theorem ref3 : isRef (-3) := Or.inr (Or.inr (Or.inl rfl))
theorem ref4 : isRef (-4) := Or.inr (Or.inr (Or.inr (Or.inl rfl)))
theorem ref6 : isRef (-6) := Or.inr (Or.inr (Or.inr (Or.inr rfl)))
theorem ref_of {x : Int32} (h : x = 0 ∨ x = -4 ∨ x = -6) (h0 : ¬ x = 0) : isRef x := by
  rcases h with h | h | h
  · exact absurd h h0
  · rw [h]; exact ref4
  · rw [h]; exact ref6
theorem R.hard {I J : HI} (h : R I J) {i : Nat} (hi : i < 24) : J 53 i = I 2 i := h.1.1.2.1 i hi
theorem R.old {I J : HI} (h : R I J) {i : Nat} (hi : i < 24) : J 54 i = I 3 i := h.1.1.2.2.1 i hi
theorem R.set {I J : HI} (h : R I J) {i : Nat} (hi : i < 5) : J 55 i = I 4 i := h.1.1.2.2.2.1 i hi
theorem R.kind {I J : HI} (h : R I J) : J 52 3 = I 1 3 := h.1.1.1.1
theorem R.fig {I J : HI} (h : R I J) : J 52 4 = I 1 4 := h.1.1.1.2.1
theorem R.drawn {I J : HI} (h : R I J) : J 52 5 = I 1 6 := h.1.1.1.2.2
theorem R.foot {I J : HI} (h : R I J) {t : Nat} (ht : t < ix (I 1 6)) : J 56 t = I (6 + 2 * t) 0 := (h.1.1.2.2.2.2 t ht).1
theorem R.push {I J : HI} (h : R I J) {t : Nat} (ht : t < ix (I 1 6)) : J 57 t = I (6 + 2 * t) 1 := (h.1.1.2.2.2.2 t ht).2.1
theorem R.lean {I J : HI} (h : R I J) {t : Nat} (ht : t < ix (I 1 6)) : J 58 t = I (6 + 2 * t) 2 := (h.1.1.2.2.2.2 t ht).2.2.1
theorem R.rad {I J : HI} (h : R I J) {t k : Nat} (ht : t < ix (I 1 6)) (hk : k < 12) : J 59 (12 * t + k) = I (6 + 2 * t + 1) k := (h.1.1.2.2.2.2 t ht).2.2.2 k hk
theorem R.radin {I J : HI} (h : R I J) {t k : Nat} (ht : t < 6) (hk : k < 12) : vp_in (I (6 + 2 * t + 1) k) 1000 := (h.1.2.1.2.2.2.2.2.2 t ht).2 k hk
theorem R.d6 {I J : HI} (h : R I J) : ix (I 1 6) ≤ 6 := by have := vb h.hd; omega
theorem fh {I J : HI} {j k : Nat} {v : Int32} (h : Fr Ph I J) (hj : 52 ≤ j) : Fr Ph I (up J j k v) := Fr.put h (by show ¬ j < 52; omega)
theorem fl {I J : HI} {j k : Nat} {v : Int32} (h : Fr Pl I J) (hj : j < 52) : Fr Pl I (up J j k v) := Fr.put h (by show ¬ 52 ≤ j; omega)
theorem fm {I J : HI} {j k : Nat} {v : Int32} (h : Fr Pm I J) (hj : 36 ≤ j ∧ j < 47) : Fr Pm I (up J j k v) := Fr.put h (by show ¬ (j < 36 ∨ 47 ≤ j); omega)
theorem spot_eq {p h : Nat} : fX5_spot p h = 12 * p + h := by unfold fX5_spot; omega
theorem spot0 {x y : Int32} : (fX5_isSpot x y = 0) ↔ (fX5_isFoot x = 0 ∨ fX5_isHour y = 0) := by
  unfold fX5_isSpot
  by_cases h : fX5_isFoot x = 0
  · simp [h]
  · by_cases h2 : fX5_isHour y = 0 <;> simp [h, h2]
theorem sm_ice {I J : HI} (hR : R I J) (a b c : Int32) : (fX5_ice I a b c).1 = (fX6_ice J a b c).1 ∧ R (fX5_ice I a b c).2 (fX6_ice J a b c).2 := by
  have h := hR.th (v := 0)
  unfold fX5_ice fX6_ice
  generalize up J 52 10 0 = K at h ⊢
  unfold fX6_ice_c5
  rw [isFoot6_eq, isHour6_eq, show fX6_in c.toInt64 0 1 = fX5_within c 0 1 from in6_eq c 0 1]
  by_cases h1 : fX5_isFoot a = 0
  · rw [if_pos (spot0.mpr (Or.inl h1)), if_pos h1]; exact h.refuse ref1
  by_cases h2 : fX5_isHour b = 0
  · rw [if_pos (spot0.mpr (Or.inr h2)), if_neg h1, if_pos h2]; exact h.refuse ref1
  rw [if_neg (fun q => (spot0.mp q).elim h1 h2), if_neg h1, if_neg h2]
  by_cases h3 : fX5_within c 0 1 = 0
  · rw [if_pos h3, if_pos h3]; exact h.refuse ref2
  rw [if_neg h3, if_neg h3, spot_eq]
  have b1 := vb (isFoot_in h1)
  have b2 := vb (isHour_in h2)
  split
  · exact ⟨(h.hard (by omega)).symm, h⟩
  · exact ⟨(h.old (by omega)).symm, h⟩
theorem lo_ice {I : HI} (a b c : Int32) : Fr Pl I (fX5_ice I a b c).2 := by
  unfold fX5_ice
  repeat' split
  all_goals first | exact refuse5_lo | exact Fr.refl
theorem hi_ice {I : HI} (a b c : Int32) : Fr Ph I (fX6_ice I a b c).2 := by
  refine th_hi.trans ?_
  unfold fX6_ice fX6_ice_c5
  repeat' split
  all_goals first | exact refuse6_hi | exact Fr.refl
