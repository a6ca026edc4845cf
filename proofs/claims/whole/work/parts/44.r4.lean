theorem up_id {J : HI} {a b : Nat} : up J a b (J a b) = J := by
  funext c d
  by_cases h : c = a ∧ d = b
  · rw [h.1, h.2, up_v]
  · exact up_o h
theorem R.ra {I J I' J' : HI} (h : R I J) (ha : Ra I' J') (h1 : Fr (fun a => a = 0 ∨ 18 ≤ a) I I') (h2 : Fr (fun a => 60 ≤ a) J J') (h3 : ∀ b, b = 13 ∨ b = 22 ∨ b = 27 → J' 52 b = J 52 b) : R I' J' :=
  ⟨ha, h.2.1.c (h1 51 (by omega)) (h2 60 (by omega)), h.2.2.1.c (by rw [h1 47 (by omega)]) (h1 48 (by omega)) (h3 13 (by omega)) (h2 61 (by omega)), h.2.2.2.1.c (by rw [h1 0 (by omega)]) (h1 50 (by omega)) (h3 27 (by omega)) (h2 67 (by omega)), (h.2.2.2.2.cI (by rw [h1 0 (by omega)]) (h1.sub (fun a ha => by omega))).cJ (h3 22 (by omega)) (h2 66 (by omega))⟩
theorem upd_like {x y : HI} {a b n s : Nat} {v : Int32} (h : ∀ i, i < n → x a i = y b i) : ∀ i, i < n → up x a s v a i = up y b s v b i := fun i hi => by
  by_cases e : i = s
  · subst e; rw [up_v, up_v]
  · rw [up_k e, up_k e]; exact h i hi
theorem upd_in {x : HI} {a n s m : Nat} {v : Int32} (h : ∀ i, i < n → vp_in (x a i) m) (hv : vp_in v m) : ∀ i, i < n → vp_in (up x a s v a i) m := fun i hi => by
  by_cases e : i = s
  · subst e; rw [up_v]; exact hv
  · rw [up_k e]; exact h i hi
theorem R.upH {I J : HI} (h : R I J) {s : Nat} {v : Int32} (hv : vp_in v 4) : R (up I 2 s v) (up J 53 s v) := by
  refine h.ra ?_ (Fr.refl.put (by omega)) (Fr.refl.put (by omega)) (fun b _ => up_ne2 (by omega))
  obtain ⟨⟨⟨⟨a1, a2, a3⟩, a4, a5, a6, a7⟩, ⟨b1, b2, b3, b4, b5, b6, b7⟩, c⟩, -⟩ := h
  have e : ∀ a, a ≠ 2 → up I 2 s v a = I a := fun a ha => up_ne a ha
  have e2 : ∀ a, a ≠ 53 → up J 53 s v a = J a := fun a ha => up_ne a ha
  refine ⟨⟨?_, upd_like a4, ?_, ?_, ?_⟩, ⟨?_, ?_, ?_, upd_in b4 hv, ?_, ?_, ?_⟩, ?_⟩
  · rw [e2 52 (by omega), e 1 (by omega)]; exact ⟨a1, a2, a3⟩
  · rw [e2 54 (by omega), e (1 + 2) (by omega)]; exact a5
  · rw [e2 55 (by omega), e (1 + 3) (by omega)]; exact a6
  · intro t ht
    rw [e 1 (by omega)] at ht
    rw [e2 56 (by omega), e2 57 (by omega), e2 58 (by omega), e2 59 (by omega), e (1 + 5 + 2 * t) (by omega), e (1 + 5 + 2 * t + 1) (by omega)]; exact a7 t ht
  · rw [e 1 (by omega)]; exact b1
  · rw [e 1 (by omega)]; exact b2
  · rw [e 1 (by omega)]; exact b3
  · rw [e (1 + 2) (by omega)]; exact b5
  · rw [e (1 + 3) (by omega)]; exact b6
  · intro t ht
    rw [e (1 + 5 + 2 * t) (by omega), e (1 + 5 + 2 * t + 1) (by omega)]; exact b7 t ht
  · rw [e2 56 (by omega)]; exact c
theorem R.upO {I J : HI} (h : R I J) {s : Nat} {v : Int32} (hv : vp_in v 100) : R (up I 3 s v) (up J 54 s v) := by
  refine h.ra ?_ (Fr.refl.put (by omega)) (Fr.refl.put (by omega)) (fun b _ => up_ne2 (by omega))
  obtain ⟨⟨⟨⟨a1, a2, a3⟩, a4, a5, a6, a7⟩, ⟨b1, b2, b3, b4, b5, b6, b7⟩, c⟩, -⟩ := h
  have e : ∀ a, a ≠ 3 → up I 3 s v a = I a := fun a ha => up_ne a ha
  have e2 : ∀ a, a ≠ 54 → up J 54 s v a = J a := fun a ha => up_ne a ha
  refine ⟨⟨?_, ?_, upd_like a5, ?_, ?_⟩, ⟨?_, ?_, ?_, ?_, upd_in b5 hv, ?_, ?_⟩, ?_⟩
  · rw [e2 52 (by omega), e 1 (by omega)]; exact ⟨a1, a2, a3⟩
  · rw [e2 53 (by omega), e (1 + 1) (by omega)]; exact a4
  · rw [e2 55 (by omega), e (1 + 3) (by omega)]; exact a6
  · intro t ht
    rw [e 1 (by omega)] at ht
    rw [e2 56 (by omega), e2 57 (by omega), e2 58 (by omega), e2 59 (by omega), e (1 + 5 + 2 * t) (by omega), e (1 + 5 + 2 * t + 1) (by omega)]; exact a7 t ht
  · rw [e 1 (by omega)]; exact b1
  · rw [e 1 (by omega)]; exact b2
  · rw [e 1 (by omega)]; exact b3
  · rw [e (1 + 1) (by omega)]; exact b4
  · rw [e (1 + 3) (by omega)]; exact b6
  · intro t ht
    rw [e (1 + 5 + 2 * t) (by omega), e (1 + 5 + 2 * t + 1) (by omega)]; exact b7 t ht
  · rw [e2 56 (by omega)]; exact c
theorem R.upS {I J : HI} (h : R I J) {s : Nat} {v : Int32} (hv0 : s = 0 → vp_in v 100) (hv1 : s = 1 → vp_in v 10) : R (up I 4 s v) (up J 55 s v) := by
  refine h.ra ?_ (Fr.refl.put (by omega)) (Fr.refl.put (by omega)) (fun b _ => up_ne2 (by omega))
  obtain ⟨⟨⟨⟨a1, a2, a3⟩, a4, a5, a6, a7⟩, ⟨b1, b2, b3, b4, b5, b6, b7⟩, c⟩, -⟩ := h
  have e : ∀ a, a ≠ 4 → up I 4 s v a = I a := fun a ha => up_ne a ha
  have e2 : ∀ a, a ≠ 55 → up J 55 s v a = J a := fun a ha => up_ne a ha
  refine ⟨⟨?_, ?_, ?_, upd_like a6, ?_⟩, ⟨?_, ?_, ?_, ?_, ?_, ?_, ?_⟩, ?_⟩
  · rw [e2 52 (by omega), e 1 (by omega)]; exact ⟨a1, a2, a3⟩
  · rw [e2 53 (by omega), e (1 + 1) (by omega)]; exact a4
  · rw [e2 54 (by omega), e (1 + 2) (by omega)]; exact a5
  · intro t ht
    rw [e 1 (by omega)] at ht
    rw [e2 56 (by omega), e2 57 (by omega), e2 58 (by omega), e2 59 (by omega), e (1 + 5 + 2 * t) (by omega), e (1 + 5 + 2 * t + 1) (by omega)]; exact a7 t ht
  · rw [e 1 (by omega)]; exact b1
  · rw [e 1 (by omega)]; exact b2
  · rw [e 1 (by omega)]; exact b3
  · rw [e (1 + 1) (by omega)]; exact b4
  · rw [e (1 + 2) (by omega)]; exact b5
  · refine ⟨?_, ?_⟩
    · by_cases q : 0 = s
      · subst q; rw [show 1 + 3 = 4 from rfl, up_v]; exact hv0 rfl
      · rw [show 1 + 3 = 4 from rfl, up_k q]; exact b6.1
    · by_cases q : 1 = s
      · subst q; rw [show 1 + 3 = 4 from rfl, up_v]; exact hv1 rfl
      · rw [show 1 + 3 = 4 from rfl, up_k q]; exact b6.2
  · intro t ht
    rw [e (1 + 5 + 2 * t) (by omega), e (1 + 5 + 2 * t + 1) (by omega)]; exact b7 t ht
  · rw [e2 56 (by omega)]; exact c
theorem R.upK {I J : HI} (h : R I J) {k f : Int32} (hk : vp_in k 7) (hf : vp_in f 10) : R (up (up I 1 3 k) 1 4 f) (up (up J 52 3 k) 52 4 f) := by
  refine h.ra ?_ ((Fr.refl.put (by omega)).put (by omega)) ((Fr.refl.put (by omega)).put (by omega)) (fun b hb => by rw [up_k (by omega), up_k (by omega)])
  obtain ⟨⟨⟨⟨a1, a2, a3⟩, a4, a5, a6, a7⟩, ⟨b1, b2, b3, b4, b5, b6, b7⟩, c⟩, -⟩ := h
  have e : ∀ a, a ≠ 1 → up (up I 1 3 k) 1 4 f a = I a := fun a ha => by rw [up_ne a ha, up_ne a ha]
  have e2 : ∀ a, a ≠ 52 → up (up J 52 3 k) 52 4 f a = J a := fun a ha => by rw [up_ne a ha, up_ne a ha]
  have d : up (up I 1 3 k) 1 4 f 1 6 = I 1 6 := by rw [up_k (by omega), up_k (by omega)]
  refine ⟨⟨⟨?_, ?_, ?_⟩, ?_, ?_, ?_, ?_⟩, ⟨?_, ?_, ?_, ?_, ?_, ?_, ?_⟩, ?_⟩
  · rw [up_k (by omega), up_v, up_k (by omega), up_v]
  · rw [up_v, up_v]
  · rw [d, up_k (by omega), up_k (by omega)]; exact a3
  · rw [e2 53 (by omega), e (1 + 1) (by omega)]; exact a4
  · rw [e2 54 (by omega), e (1 + 2) (by omega)]; exact a5
  · rw [e2 55 (by omega), e (1 + 3) (by omega)]; exact a6
  · intro t ht
    rw [d] at ht
    rw [e2 56 (by omega), e2 57 (by omega), e2 58 (by omega), e2 59 (by omega), e (1 + 5 + 2 * t) (by omega), e (1 + 5 + 2 * t + 1) (by omega)]; exact a7 t ht
  · rw [up_k (by omega), up_v]; exact hk
  · rw [up_v]; exact hf
  · rw [d]; exact b3
  · rw [e (1 + 1) (by omega)]; exact b4
  · rw [e (1 + 2) (by omega)]; exact b5
  · rw [e (1 + 3) (by omega)]; exact b6
  · intro t ht
    rw [e (1 + 5 + 2 * t) (by omega), e (1 + 5 + 2 * t + 1) (by omega)]; exact b7 t ht
  · rw [e2 56 (by omega)]; exact c
theorem R.upD {I J : HI} (h : R I J) : R (up I 1 6 0) (up J 52 5 0) := by
  refine h.ra ?_ (Fr.refl.put (by omega)) (Fr.refl.put (by omega)) (fun b hb => up_k (by omega))
  obtain ⟨⟨⟨⟨a1, a2, a3⟩, a4, a5, a6, a7⟩, ⟨b1, b2, b3, b4, b5, b6, b7⟩, c⟩, -⟩ := h
  have e : ∀ a, a ≠ 1 → up I 1 6 0 a = I a := fun a ha => up_ne a ha
  have e2 : ∀ a, a ≠ 52 → up J 52 5 0 a = J a := fun a ha => up_ne a ha
  refine ⟨⟨⟨?_, ?_, ?_⟩, ?_, ?_, ?_, ?_⟩, ⟨?_, ?_, ?_, ?_, ?_, ?_, ?_⟩, ?_⟩
  · rw [up_k (by omega), up_k (by omega)]; exact a1
  · rw [up_k (by omega), up_k (by omega)]; exact a2
  · rw [up_v, up_v]
  · rw [e2 53 (by omega), e (1 + 1) (by omega)]; exact a4
  · rw [e2 54 (by omega), e (1 + 2) (by omega)]; exact a5
  · rw [e2 55 (by omega), e (1 + 3) (by omega)]; exact a6
  · intro t ht
    rw [up_v] at ht
    exact absurd ht (Nat.not_lt_zero t)
  · rw [up_k (by omega)]; exact b1
  · rw [up_k (by omega)]; exact b2
  · rw [up_v]; exact vp_b rfl
  · rw [e (1 + 1) (by omega)]; exact b4
  · rw [e (1 + 2) (by omega)]; exact b5
  · rw [e (1 + 3) (by omega)]; exact b6
  · intro t ht
    rw [e (1 + 5 + 2 * t) (by omega), e (1 + 5 + 2 * t + 1) (by omega)]; exact b7 t ht
  · rw [e2 56 (by omega)]; exact c
