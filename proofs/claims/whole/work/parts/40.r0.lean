/-! the class's ints (cells below 52, table I) against the model's (cells from 52 on, table J) -/
def Al (c : Nat) (I m : HI) : Prop := (m 52 3 = I c 3 ∧ m 52 4 = I c 4 ∧ m 52 5 = I c 6) ∧ (∀ i, i < 24 → m 53 i = I (c + 1) i) ∧ (∀ i, i < 24 → m 54 i = I (c + 2) i) ∧ (∀ i, i < 5 → m 55 i = I (c + 3) i) ∧ ∀ t, t < ix (I c 6) → m 56 t = I (c + 5 + 2 * t) 0 ∧ m 57 t = I (c + 5 + 2 * t) 1 ∧ m 58 t = I (c + 5 + 2 * t) 2 ∧ ∀ h, h < 12 → m 59 (12 * t + h) = I (c + 5 + 2 * t + 1) h
def Fi (c : Nat) (I : HI) : Prop := vp_in (I c 3) 7 ∧ vp_in (I c 4) 10 ∧ vp_in (I c 6) 7 ∧ (∀ i, i < 24 → vp_in (I (c + 1) i) 4) ∧ (∀ i, i < 24 → vp_in (I (c + 2) i) 100) ∧ (vp_in (I (c + 3) 0) 100 ∧ vp_in (I (c + 3) 1) 10) ∧ ∀ t, t < 6 → vp_in (I (c + 5 + 2 * t) 0) 2 ∧ ∀ h, h < 12 → vp_in (I (c + 5 + 2 * t + 1) h) 1000
def Ra (I J : HI) : Prop := Al 1 I J ∧ Fi 1 I ∧ ∀ t, t < 27 → vp_in (J 56 t) 2
def Rb (I J : HI) : Prop := ∀ i, i < 7 → J 60 i = I 51 i
def Rc (I J : HI) : Prop := vp_in (I 47 1) 97 ∧ J 52 13 = I 47 1 ∧ ∀ i, i < ix (I 47 1) → J 61 i = I 48 i
def Rw (I J : HI) : Prop := vp_in (I 0 7) 13 ∧ J 52 27 = I 0 7 ∧ ∀ i, i < ix (I 0 7) → J 67 i = I 50 i
def Rm (I J : HI) : Prop := J 52 22 = I 0 2 ∧ (¬ I 0 2 = 0 → ∃ m : HI, Al 18 I m ∧ Fi 18 I ∧ (∀ t, t < 6 → vp_in (m 56 t) 2) ∧ ∀ q, q < 146 → J 66 q = m (la q) (lb q))
def R (I J : HI) : Prop := Ra I J ∧ Rb I J ∧ Rc I J ∧ Rw I J ∧ Rm I J
theorem R.hd {I J : HI} (h : R I J) : vp_in (I 1 6) 7 := h.1.2.1.2.2.1
theorem R.hd6 {I J : HI} (h : R I J) : vp_in (J 52 5) 7 := by rw [h.1.1.1.2.2]; exact h.hd
theorem R.hm {I J : HI} (h : R I J) : vp_in (I 47 1) 97 := h.2.2.1.1
theorem R.hm6 {I J : HI} (h : R I J) : vp_in (J 52 13) 97 := by rw [h.2.2.1.2.1]; exact h.hm
theorem R.ht {I J : HI} (h : R I J) : vp_in (I 0 7) 13 := h.2.2.2.1.1
theorem R.hr9 {I J : HI} (h : R I J) : vp_in (J 52 27) 13 := by rw [h.2.2.2.1.2.1]; exact h.ht
theorem R.hF {I J : HI} (h : R I J) : ∀ n, n < 6 → vp_in (I (6 + 2 * n) 0) 2 := fun n hn => (h.1.2.1.2.2.2.2.2.2 n hn).1
theorem R.hF6 {I J : HI} (h : R I J) : ∀ n, n < 27 → vp_in (J 56 n) 2 := h.1.2.2
theorem R_start : R I0 I0 := by
  refine ⟨⟨⟨⟨rfl, rfl, rfl⟩, fun _ _ => rfl, fun _ _ => rfl, fun i hi => ?_, fun t ht => absurd ht (Nat.not_lt_zero t)⟩, ⟨vp_b rfl, vp_b rfl, vp_b rfl, fun _ _ => vp_b rfl, fun _ _ => vp_b rfl, ⟨vp_b rfl, vp_b rfl⟩, fun t ht => ?_⟩, fun _ _ => vp_b rfl⟩, fun _ _ => rfl, ⟨vp_b rfl, rfl, fun i hi => absurd hi (Nat.not_lt_zero i)⟩, ⟨vp_b rfl, rfl, fun i hi => absurd hi (Nat.not_lt_zero i)⟩, rfl, fun h => absurd rfl h⟩
  · rcases (show i = 0 ∨ i = 1 ∨ i = 2 ∨ i = 3 ∨ i = 4 by omega) with rfl | rfl | rfl | rfl | rfl <;> rfl
  · rcases (show t = 0 ∨ t = 1 ∨ t = 2 ∨ t = 3 ∨ t = 4 ∨ t = 5 by omega) with rfl | rfl | rfl | rfl | rfl | rfl <;> exact ⟨vp_b rfl, fun _ _ => vp_b rfl⟩
