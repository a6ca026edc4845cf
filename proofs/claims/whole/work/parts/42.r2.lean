/-! ranges and refusals alike -/
theorem lgc_lt (x y : Int64) : lg_cmp x y < 0 ↔ x < y := by
  unfold lg_cmp
  by_cases h : y < x
  · have h2 : ¬ x < y := Int64.not_lt.mpr (Int64.le_of_lt h)
    simp [h, h2]
  · by_cases h2 : x = y
    · subst h2; simp [h]
    · have h3 : x < y := (Int64.lt_or_lt_of_ne h2).resolve_right h
      simp [h, h2, h3]
theorem lgc_gt (x y : Int64) : 0 < lg_cmp x y ↔ y < x := by
  unfold lg_cmp
  by_cases h : y < x
  · simp [h]
  · by_cases h2 : x = y
    · subst h2; simp [h]
    · simp [h, h2]
theorem in6_eq (x a b : Int32) : fX6_in x.toInt64 a.toInt64 b.toInt64 = fX5_within x a b := by
  unfold fX6_in fX5_within
  simp only [lgc_lt, lgc_gt, toInt64_lt]
theorem isFoot6_eq (x : Int32) : fX6_isFoot x = fX5_isFoot x := in6_eq x 0 1
theorem isHour6_eq (x : Int32) : fX6_isHour x = fX5_isHour x := in6_eq x 0 11
theorem isTrace6_eq {I J : HI} (h : R I J) (x : Int32) : fX6_isTrace J x = fX3_hasTrace I x := by
  unfold fX6_isTrace fX3_hasTrace
  rw [h.1.1.1.2.2]
  exact in6_eq x 0 (I 1 6 - 1)
theorem wrongNumber_eq (x a b : Int32) : fX6_wrongNumber x a b = fX5_rangeFault x a b := rfl
theorem wrongTwo_eq (x y : Int32) : fX6_wrongTwo x y = fX5_strokeFault x y := rfl
theorem rf_neg {x a b : Int32} : fX5_rangeFault x a b = 0 ∨ fX5_rangeFault x a b = -4 ∨ fX5_rangeFault x a b = -6 := by
  unfold fX5_rangeFault
  split
  · split
    · exact Or.inl rfl
    · exact Or.inr (Or.inr rfl)
  · exact Or.inr (Or.inl rfl)
theorem sf_neg {x y : Int32} : fX5_strokeFault x y = 0 ∨ fX5_strokeFault x y = -4 ∨ fX5_strokeFault x y = -6 := by
  unfold fX5_strokeFault
  repeat' split
  all_goals first | exact Or.inl rfl | exact Or.inr (Or.inl rfl) | exact Or.inr (Or.inr rfl)
theorem ge0_iff {x : Int32} (h : x = 0 ∨ x = -4 ∨ x = -6) : 0 ≤ x ↔ x = 0 := by
  rcases h with rfl | rfl | rfl <;> decide
theorem wrongGrowth_eq (x y z : Int32) : fX6_wrongGrowth x y z = fX5_growthFault x y z := by
  unfold fX6_wrongGrowth fX5_growthFault fX5_strokeFault fX5_rangeFault
  by_cases h1 : x < 1
  · simp [h1]
  · by_cases h2 : y < 1
    · have h2' : ¬ (1 : Int32) ≤ y := Int32.not_le.mpr h2
      simp [h1, h2, h2']
    · have h2' : (1 : Int32) ≤ y := Int32.not_lt.mp h2
      by_cases h3 : (2 : Int32) ≤ z
      · by_cases h4 : (9 : Int32) < x
        · by_cases h6 : z ≤ 9 <;> simp [h1, h2, h2', h3, h4, h6]
        · by_cases h5 : y ≤ 9
          · have h5' : ¬ (9 : Int32) < y := Int32.not_lt.mpr h5
            by_cases h6 : z ≤ 9 <;> simp [h1, h2, h2', h3, h4, h5, h5', h6]
          · have h5' : (9 : Int32) < y := Int32.not_le.mp h5
            by_cases h6 : z ≤ 9 <;> simp [h1, h2, h2', h3, h4, h5, h5', h6]
      · by_cases h4 : (9 : Int32) < x <;> by_cases h5 : y ≤ 9 <;> simp [h1, h2, h2', h3, h4, h5]
theorem gf_neg {x y z : Int32} : fX5_growthFault x y z = 0 ∨ fX5_growthFault x y z = -4 ∨ fX5_growthFault x y z = -6 := by
  unfold fX5_growthFault
  repeat' split
  all_goals first | exact Or.inl rfl | exact Or.inr (Or.inl rfl) | exact Or.inr (Or.inr rfl) | exact rf_neg | exact sf_neg
def isRef (n : Int32) : Prop := n = -1 ∨ n = -2 ∨ n = -3 ∨ n = -4 ∨ n = -6
theorem refuse5 {I : HI} {n : Int32} (hn : isRef n) : fX5_refuse I n = (n, up I 51 (ix (-n)) (I 51 (ix (-n)) + 1)) := by
  rcases hn with rfl | rfl | rfl | rfl | rfl <;> rfl
theorem isRef_lt {n : Int32} (hn : isRef n) : ix (-n) < 7 := by
  rcases hn with rfl | rfl | rfl | rfl | rfl <;> decide
theorem R.refuse {I J : HI} (h : R I J) {n : Int32} (hn : isRef n) : (fX5_refuse I n).1 = (fX6_refuse J n).1 ∧ R (fX5_refuse I n).2 (fX6_refuse J n).2 := by
  rw [refuse5 hn, show fX6_refuse J n = (n, up J 60 (ix (-n)) (J 60 (ix (-n)) + 1)) from rfl]
  dsimp only
  refine ⟨rfl, h.1.cI (Fr.refl.put (by omega)) |>.cJ (fun b _ _ => up_ne2 (by omega)) (Fr.refl.put (by omega)) (fun t ht => ?_) (fun t ht => ?_), fun i hi => ?_, h.2.2.1.c (up_ne2 (by omega)) (up_ne 48 (by omega)) (up_ne2 (by omega)) (up_ne 61 (by omega)), h.2.2.2.1.c (up_ne2 (by omega)) (up_ne 50 (by omega)) (up_ne2 (by omega)) (up_ne 67 (by omega)), (h.2.2.2.2.cI (up_ne2 (by omega)) (Fr.refl.put (by omega))).cJ (up_ne2 (by omega)) (up_ne 66 (by omega))⟩
  · exact ⟨up_ne2 (by omega), up_ne2 (by omega), up_ne2 (by omega), fun _ _ => up_ne2 (by omega)⟩
  · rw [up_ne2 (by omega)]
    exact h.hF6 t ht
  · have hb := h.2.1
    by_cases e : i = ix (-n)
    · subst e
      rw [up_v, up_v, hb _ (isRef_lt hn)]
    · rw [up_k e, up_k e]
      exact hb i hi
theorem refuse5_lo {I : HI} {n : Int32} : Fr Pl I (fX5_refuse I n).2 := by
  unfold fX5_refuse fX5_refuse_22
  show Fr Pl I (if _ then _ else _)
  split
  · exact Fr.refl
  · exact Fr.refl.put (by show ¬ 52 ≤ 51; omega)
theorem refuse6_hi {I : HI} {n : Int32} : Fr Ph I (fX6_refuse I n).2 := Fr.refl.put (by show ¬ 60 < 52; omega)
theorem th_hi {I : HI} : Fr Ph I (up I 52 10 0) := Fr.refl.put (by show ¬ 52 < 52; omega)
