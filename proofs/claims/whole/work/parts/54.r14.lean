theorem cpy_at {I : HI} {a b m k : Nat} (h : k < m) : cpy I a b m b k = I a k := by
  unfold cpy
  rw [if_pos rfl]
  unfold va_cpy
  simp [h]
theorem cpy_ne {I : HI} {a b m i : Nat} (h : i ≠ b) : cpy I a b m i = I i := by
  funext k
  unfold cpy
  rw [if_neg h]
theorem copyT {S : HI} {j o : Nat} (h1 : o ≠ j) (h2 : o + 1 ≠ j) (h3 : j + 1 ≠ o) : (∀ a, a ≠ j → a ≠ j + 1 → fX4_copyFrom S j o a = S a) ∧ (∀ b, b < 3 → fX4_copyFrom S j o j b = S o b) ∧ ∀ h, h < 12 → fX4_copyFrom S j o (j + 1) h = S (o + 1) h := by
  unfold fX4_copyFrom fX4_begin
  refine ⟨fun a ha hb => ?_, fun b hb => ?_, fun h hh => ?_⟩
  · rw [cpy_ne hb, up_ne a ha, up_ne a ha, up_ne a ha]
  · rw [cpy_ne (by omega)]
    rcases (show b = 0 ∨ b = 1 ∨ b = 2 by omega) with rfl | rfl | rfl
    · rw [up_k (by omega), up_k (by omega), up_v]
    · rw [up_k (by omega), up_v]
    · rw [up_v]
  · rw [cpy_at hh, up_ne _ (by omega), up_ne _ (by omega), up_ne _ (by omega)]
def cpA (c d : Nat) (I : HI) : HI := cpy (cpy (cpy I (c + 1) (d + 1) 24) (c + 2) (d + 2) 24) (c + 3) (d + 3) 5
def cpU (c d : Nat) (I : HI) : HI := up (up (up (cpA c d I) d 3 (cpA c d I c 3)) d 4 ((up (cpA c d I) d 3 (cpA c d I c 3)) c 4)) d 6 ((up (up (cpA c d I) d 3 (cpA c d I c 3)) d 4 ((up (cpA c d I) d 3 (cpA c d I c 3)) c 4)) c 6)
noncomputable def cpF (c d : Nat) (I : HI) : HI := fo 6 0 (fun (i : Nat) (s : HI) => fX4_copyFrom s (d + 5 + 2 * i) (c + 5 + 2 * i)) (cpU c d I)
theorem copyK (I : HI) : fX3_copyFrom_k I = cpF 1 18 I := rfl
theorem copyN (I : HI) : fX3_copyFrom_n I = cpF 18 1 I := rfl
theorem cpU_facts {c d : Nat} {I : HI} (hcd : c + 17 ≤ d ∨ d + 17 ≤ c) : Fr (fun a => a < d ∨ d + 4 ≤ a) I (cpU c d I) ∧ (cpU c d I d 3 = I c 3 ∧ cpU c d I d 4 = I c 4 ∧ cpU c d I d 6 = I c 6) ∧ (∀ i, i < 24 → cpU c d I (d + 1) i = I (c + 1) i) ∧ (∀ i, i < 24 → cpU c d I (d + 2) i = I (c + 2) i) ∧ (∀ i, i < 5 → cpU c d I (d + 3) i = I (c + 3) i) := by
  have e1 : ∀ a, a ≠ d + 1 → a ≠ d + 2 → a ≠ d + 3 → cpA c d I a = I a := fun a h1 h2 h3 => by
    unfold cpA
    rw [cpy_ne h3, cpy_ne h2, cpy_ne h1]
  have e2 : ∀ a, a ≠ d → cpU c d I a = cpA c d I a := fun a h => by
    unfold cpU
    rw [up_ne a h, up_ne a h, up_ne a h]
  refine ⟨fun a ha => ?_, ⟨?_, ?_, ?_⟩, fun i hi => ?_, fun i hi => ?_, fun i hi => ?_⟩
  · rw [e2 a (by omega), e1 a (by omega) (by omega) (by omega)]
  · unfold cpU
    rw [up_k (by omega), up_k (by omega), up_v, e1 c (by omega) (by omega) (by omega)]
  · unfold cpU
    rw [up_k (by omega), up_v, up_ne c (by omega), e1 c (by omega) (by omega) (by omega)]
  · unfold cpU
    rw [up_v, up_ne c (by omega), up_ne c (by omega), e1 c (by omega) (by omega) (by omega)]
  · rw [e2 _ (by omega)]
    unfold cpA
    rw [cpy_ne (by omega), cpy_ne (by omega), cpy_at hi]
  · rw [e2 _ (by omega)]
    unfold cpA
    rw [cpy_ne (by omega), cpy_at hi, cpy_ne (by omega)]
  · rw [e2 _ (by omega)]
    unfold cpA
    rw [cpy_at hi, cpy_ne (by omega), cpy_ne (by omega)]
theorem cpF_facts {c d : Nat} {I : HI} (hcd : c + 17 ≤ d ∨ d + 17 ≤ c) : Fr (fun a => a < d ∨ d + 17 ≤ a) I (cpF c d I) ∧ (cpF c d I d 3 = I c 3 ∧ cpF c d I d 4 = I c 4 ∧ cpF c d I d 6 = I c 6) ∧ (∀ i, i < 24 → cpF c d I (d + 1) i = I (c + 1) i) ∧ (∀ i, i < 24 → cpF c d I (d + 2) i = I (c + 2) i) ∧ (∀ i, i < 5 → cpF c d I (d + 3) i = I (c + 3) i) ∧ ∀ t, t < 6 → (∀ b, b < 3 → cpF c d I (d + 5 + 2 * t) b = I (c + 5 + 2 * t) b) ∧ ∀ h, h < 12 → cpF c d I (d + 5 + 2 * t + 1) h = I (c + 5 + 2 * t + 1) h := by
  obtain ⟨u1, ⟨u2, u3, u4⟩, u5, u6, u7⟩ := cpU_facts (I := I) hcd
  have key := fo_inv (fun i (S : HI) => (∀ a, ¬ (d + 5 ≤ a ∧ a ≤ d + 16) → S a = cpU c d I a) ∧ ∀ t, t < i → (∀ b, b < 3 → S (d + 5 + 2 * t) b = I (c + 5 + 2 * t) b) ∧ ∀ h, h < 12 → S (d + 5 + 2 * t + 1) h = I (c + 5 + 2 * t + 1) h) (fun (i : Nat) (s : HI) => fX4_copyFrom s (d + 5 + 2 * i) (c + 5 + 2 * i)) 6 0 (cpU c d I) ⟨fun _ _ => rfl, fun t ht => absurd ht (Nat.not_lt_zero t)⟩ (fun i S _ hi hS => by
    obtain ⟨s1, s2⟩ := hS
    obtain ⟨t1, t2, t3⟩ := copyT (S := S) (j := d + 5 + 2 * i) (o := c + 5 + 2 * i) (by omega) (by omega) (by omega)
    refine ⟨fun a ha => ?_, fun t ht => ?_⟩
    · rw [t1 a (by omega) (by omega)]; exact s1 a ha
    · by_cases q : t = i
      · subst q
        refine ⟨fun b hb => ?_, fun h hh => ?_⟩
        · rw [t2 b hb, s1 _ (by omega), u1 _ (by omega)]
        · rw [t3 h hh, s1 _ (by omega), u1 _ (by omega)]
      · rw [t1 _ (by omega) (by omega), t1 _ (by omega) (by omega)]
        exact s2 t (by omega))
  obtain ⟨k1, k2⟩ := key
  show Fr _ I (fo 6 0 _ (cpU c d I)) ∧ _
  refine ⟨fun a ha => ?_, ⟨?_, ?_, ?_⟩, fun i hi => ?_, fun i hi => ?_, fun i hi => ?_, fun t ht => k2 t (by omega)⟩
  · rw [k1 a (by omega)]; exact u1 a (by omega)
  · show (fo 6 0 _ (cpU c d I)) d 3 = _
    rw [k1 d (by omega)]; exact u2
  · show (fo 6 0 _ (cpU c d I)) d 4 = _
    rw [k1 d (by omega)]; exact u3
  · show (fo 6 0 _ (cpU c d I)) d 6 = _
    rw [k1 d (by omega)]; exact u4
  · show (fo 6 0 _ (cpU c d I)) (d + 1) i = _
    rw [k1 _ (by omega)]; exact u5 i hi
  · show (fo 6 0 _ (cpU c d I)) (d + 2) i = _
    rw [k1 _ (by omega)]; exact u6 i hi
  · show (fo 6 0 _ (cpU c d I)) (d + 3) i = _
    rw [k1 _ (by omega)]; exact u7 i hi
theorem Al.cp {c d : Nat} {I m : HI} (hcd : c + 17 ≤ d ∨ d + 17 ≤ c) (hd : ix (I c 6) ≤ 6) (h : Al c I m) {I' : HI} (hI : ∀ a, d ≤ a → a ≤ d + 16 → I' a = cpF c d I a) : Al d I' m := by
  obtain ⟨f1, ⟨f2, f3, f4⟩, f5, f6, f7, f8⟩ := cpF_facts (I := I) hcd
  obtain ⟨⟨a1, a2, a3⟩, a4, a5, a6, a7⟩ := h
  have e := hI d (by omega) (by omega)
  refine ⟨⟨by rw [e, f2]; exact a1, by rw [e, f3]; exact a2, by rw [e, f4]; exact a3⟩, fun i hi => by rw [hI _ (by omega) (by omega), f5 i hi]; exact a4 i hi, fun i hi => by rw [hI _ (by omega) (by omega), f6 i hi]; exact a5 i hi, fun i hi => by rw [hI _ (by omega) (by omega), f7 i hi]; exact a6 i hi, fun t ht => ?_⟩
  rw [e, f4] at ht
  obtain ⟨g1, g2⟩ := f8 t (by omega)
  rw [hI _ (by omega) (by omega), hI (d + 5 + 2 * t + 1) (by omega) (by omega), g1 0 (by omega), g1 1 (by omega), g1 2 (by omega)]
  obtain ⟨b1, b2, b3, b4⟩ := a7 t ht
  exact ⟨b1, b2, b3, fun h hh => by rw [g2 h hh]; exact b4 h hh⟩
theorem Fi.cp {c d : Nat} {I : HI} (hcd : c + 17 ≤ d ∨ d + 17 ≤ c) (h : Fi c I) {I' : HI} (hI : ∀ a, d ≤ a → a ≤ d + 16 → I' a = cpF c d I a) : Fi d I' := by
  obtain ⟨f1, ⟨f2, f3, f4⟩, f5, f6, f7, f8⟩ := cpF_facts (I := I) hcd
  obtain ⟨b1, b2, b3, b4, b5, b6, b7⟩ := h
  have e := hI d (by omega) (by omega)
  refine ⟨by rw [e, f2]; exact b1, by rw [e, f3]; exact b2, by rw [e, f4]; exact b3, fun i hi => by rw [hI _ (by omega) (by omega), f5 i hi]; exact b4 i hi, fun i hi => by rw [hI _ (by omega) (by omega), f6 i hi]; exact b5 i hi, ⟨by rw [hI _ (by omega) (by omega), f7 0 (by omega)]; exact b6.1, by rw [hI _ (by omega) (by omega), f7 1 (by omega)]; exact b6.2⟩, fun t ht => ?_⟩
  obtain ⟨g1, g2⟩ := f8 t ht
  rw [hI _ (by omega) (by omega), hI (d + 5 + 2 * t + 1) (by omega) (by omega), g1 0 (by omega)]
  exact ⟨(b7 t ht).1, fun h hh => by rw [g2 h hh]; exact (b7 t ht).2 h hh⟩
theorem sm_image {I J : HI} (hR : R I J) : (fX5_image I).1 = (fX6_image J).1 ∧ R (fX5_image I).2 (fX6_image J).2 := by
  have h := hR.th (v := 0)
  unfold fX5_image fX6_image
  generalize up J 52 10 0 = K at h ⊢
  unfold fX6_image_c5
  rw [copyK]
  dsimp only
  obtain ⟨f1, ⟨f2, f3, f4⟩, -⟩ := cpF_facts (c := 1) (d := 18) (I := I) (by omega)
  obtain ⟨t1, t2⟩ := carryAll_takes_b (up K 52 22 1)
  have hI : ∀ a, 18 ≤ a → a ≤ 18 + 16 → up (cpF 1 18 I) 0 2 1 a = cpF 1 18 I a := fun a h1 h2 => up_ne a (by omega)
  have d6 := h.d6
  refine ⟨?_, (h.1.cI (fun a ha => by rw [up_ne a (by omega)]; exact f1 a (by omega))).cJ (fun b h1 h2 => ?_) (fun a ha => ?_) (fun t ht => ?_) (fun t ht => ?_), h.2.1.c ?_ ?_, h.2.2.1.c ?_ ?_ ?_ ?_, h.2.2.2.1.c ?_ ?_ ?_ ?_, ?_, fun _ => ⟨up K 52 22 1, ?_, h.1.2.1.cp (by omega) hI, fun t ht => ?_, t1⟩⟩
  · rw [up_ne2 (by omega), f4, t2 52 5 (by omega) (by omega), up_k (by omega)]; exact h.drawn.symm
  · rw [t2 52 b (by omega) (by omega), up_k (by omega)]
  · funext b
    rw [t2 a b (by omega) (by omega), up_ne2 (by omega)]
  · rw [t2 _ _ (by omega) (by omega), t2 _ _ (by omega) (by omega), t2 _ _ (by omega) (by omega), up_ne2 (by omega), up_ne2 (by omega), up_ne2 (by omega)]
    exact ⟨rfl, rfl, rfl, fun k hk => by rw [t2 _ _ (by omega) (by omega), up_ne2 (by omega)]⟩
  · rw [t2 _ _ (by omega) (by omega), up_ne2 (by omega)]; exact h.hF6 t ht
  · rw [up_ne 51 (by omega)]; exact f1 51 (by omega)
  · funext b
    rw [t2 _ _ (by omega) (by omega), up_ne2 (by omega)]
  · rw [up_ne2 (by omega), f1 47 (by omega)]
  · rw [up_ne 48 (by omega)]; exact f1 48 (by omega)
  · rw [t2 _ _ (by omega) (by omega), up_k (by omega)]
  · funext b
    rw [t2 _ _ (by omega) (by omega), up_ne2 (by omega)]
  · rw [up_k (by omega), f1 0 (by omega)]
  · rw [up_ne 50 (by omega)]; exact f1 50 (by omega)
  · rw [t2 _ _ (by omega) (by omega), up_k (by omega)]
  · funext b
    rw [t2 _ _ (by omega) (by omega), up_ne2 (by omega)]
  · rw [t2 _ _ (by omega) (by omega), up_v, up_v]
  · refine Al.cp (c := 1) (by omega) d6 ?_ hI
    obtain ⟨⟨a1, a2, a3⟩, a4, a5, a6, a7⟩ := h.1.1
    have e2 : ∀ a, a ≠ 52 → up K 52 22 1 a = K a := fun a ha => up_ne a ha
    rw [Al, e2 53 (by omega), e2 54 (by omega), e2 55 (by omega), e2 56 (by omega), e2 57 (by omega), e2 58 (by omega), e2 59 (by omega), up_k (by omega), up_k (by omega), up_k (by omega)]
    exact ⟨⟨a1, a2, a3⟩, a4, a5, a6, a7⟩
  · rw [up_ne2 (by omega)]; exact h.hF6 t (by omega)
theorem lo_image {I : HI} : Fr Pl I (fX5_image I).2 := by
  unfold fX5_image
  rw [copyK]
  exact fl (fun a ha => (cpF_facts (c := 1) (d := 18) (I := I) (by omega)).1 a (Or.inr (by have : 52 ≤ a := ha; omega))) (by omega)
theorem takes_hi {I : HI} : Fr Ph I (fX6_carryAll_b I 1) := fun a ha => by
  have ha2 : a < 52 := ha
  funext b
  exact (carryAll_takes_b I).2 a b (by omega) (by omega)
theorem gives_hi {I : HI} : Fr Ph I (fX6_carryAll_b I 0) := fun a ha => by
  have ha2 : a < 52 := ha
  funext b
  exact (carryAll_gives_b I).2 a b (fun q hq e => by have := (la_ok hq).2.1; omega) (by omega)
theorem hi_image {I : HI} : Fr Ph I (fX6_image I).2 := (fh th_hi (by omega)).trans takes_hi
theorem la56_lt : ∀ q, q < 146 → la q = 56 → lb q < 6 := by decide +kernel
theorem sm_restore {I J : HI} (hR : R I J) : (fX5_restore I).1 = (fX6_restore J).1 ∧ R (fX5_restore I).2 (fX6_restore J).2 := by
  have h := hR.th (v := 0)
  unfold fX5_restore fX6_restore
  generalize up J 52 10 0 = K at h ⊢
  unfold fX6_restore_c5
  rw [h.2.2.2.2.1]
  by_cases hz : I 0 2 = 0
  · rw [if_pos hz, if_pos hz]; exact h.refuse ref3
  rw [if_neg hz, if_neg hz, copyN]
  obtain ⟨m, hA, hFi, hft, hq⟩ := h.2.2.2.2.2 hz
  obtain ⟨f1, ⟨f2, f3, f4⟩, -⟩ := cpF_facts (c := 18) (d := 1) (I := I) (by omega)
  obtain ⟨g1, g2⟩ := carryAll_gives_b K
  have d6 : ix (I 18 6) ≤ 6 := by have := vb hFi.2.2.1; omega
  have gm : ∀ q, q < 146 → fX6_carryAll_b K 0 (la q) (lb q) = m (la q) (lb q) := fun q h1 => (g1 q h1).trans (hq q h1)
  have go : ∀ a b, (59 < a ∨ (a = 52 ∧ (b < 3 ∨ 5 < b) ∧ ¬ (23 ≤ b ∧ b ≤ 25))) → fX6_carryAll_b K 0 a b = K a b := fun a b hab => g2 a b (fun q h1 e => by have := la_ok h1; omega) (by omega)
  have hI : ∀ a, 1 ≤ a → a ≤ 1 + 16 → cpF 18 1 I a = cpF 18 1 I a := fun a _ _ => rfl
  have hA1 := Al.cp (c := 18) (d := 1) (by omega) d6 hA hI
  have hF1 := Fi.cp (c := 18) (d := 1) (by omega) hFi hI
  have hA2 : Al 1 (cpF 18 1 I) (fX6_carryAll_b K 0) := by
    obtain ⟨⟨a1, a2, a3⟩, a4, a5, a6, a7⟩ := hA1
    refine ⟨⟨(gm 0 (by omega)).trans a1, (gm 1 (by omega)).trans a2, (gm 2 (by omega)).trans a3⟩, fun i hi => ?_, fun i hi => ?_, fun i hi => ?_, fun t ht => ?_⟩
    · have e := gm (3 + 2 * i) (by omega)
      rw [la53 hi, lb53 hi] at e
      exact e.trans (a4 i hi)
    · have e := gm (3 + 2 * i + 1) (by omega)
      rw [la54 hi, lb54 hi] at e
      exact e.trans (a5 i hi)
    · have e := gm (51 + i) (by omega)
      rw [la55 hi, lb55 hi] at e
      exact e.trans (a6 i hi)
    · have ht6 : t < 6 := by have e := vb hF1.2.2.1; omega
      obtain ⟨c1, c2, c3, c4⟩ := a7 t ht
      have e1 := gm (56 + 3 * t) (by omega)
      have e2 := gm (56 + 3 * t + 1) (by omega)
      have e3 := gm (56 + 3 * t + 2) (by omega)
      rw [la56 ht6, lb56 ht6] at e1
      rw [la57 ht6, lb57 ht6] at e2
      rw [la58 ht6, lb58 ht6] at e3
      refine ⟨e1.trans c1, e2.trans c2, e3.trans c3, fun k hk => ?_⟩
      have e4 := gm (74 + (12 * t + k)) (by omega)
      rw [la59 (by omega), lb59 (by omega)] at e4
      exact e4.trans (c4 k hk)
  dsimp only
  refine ⟨hA2.1.2.2.symm, ⟨hA2, hF1, fun t ht => ?_⟩, h.2.1.c (f1 51 (by omega)) ?_, h.2.2.1.c (by rw [f1 47 (by omega)]) (f1 48 (by omega)) (go 52 13 (by omega)) ?_, h.2.2.2.1.c (by rw [f1 0 (by omega)]) (f1 50 (by omega)) (go 52 27 (by omega)) ?_, (h.2.2.2.2.cI (by rw [f1 0 (by omega)]) (fun a ha => f1 a (by omega))).cJ (go 52 22 (by omega)) ?_⟩
  · by_cases q : t < 6
    · have e1 := gm (56 + 3 * t) (by omega)
      rw [la56 q, lb56 q] at e1
      rw [e1]; exact hft t q
    · rw [g2 56 t (fun p hp e => by have := la56_lt p hp e.1.symm; omega) (by omega)]
      exact h.hF6 t ht
  · funext b; exact go 60 b (by omega)
  · funext b; exact go 61 b (by omega)
  · funext b; exact go 67 b (by omega)
  · funext b; exact go 66 b (by omega)
theorem lo_restore {I : HI} : Fr Pl I (fX5_restore I).2 := by
  unfold fX5_restore
  split
  · exact refuse5_lo
  · rw [copyN]
    exact fun a ha => (cpF_facts (c := 18) (d := 1) (I := I) (by omega)).1 a (Or.inr (by have : 52 ≤ a := ha; omega))
theorem hi_restore {I : HI} : Fr Ph I (fX6_restore I).2 := by
  refine th_hi.trans ?_
  unfold fX6_restore fX6_restore_c5
  split
  · exact refuse6_hi
  · exact gives_hi
