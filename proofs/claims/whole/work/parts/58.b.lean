theorem line_fr {I : HI} {o : Option Nat} {kind push lean : Int32} {foot : Nat} (hf : foot < 2) : Fr (fun a => a < 39 ∨ 47 ≤ a) I (fX1_lineBehind I o kind foot push lean).2 := by
  obtain ⟨m1, m2, m3, m4⟩ := Ml_ok (o := o) hf
  rw [line_eq]
  exact (begin_fr (P := fun a => a < 39 ∨ 47 ≤ a) (by omega)).trans (skate_fr (P := fun a => a < 39 ∨ 47 ≤ a) (by omega))
theorem fr39_lo {I J : HI} (h : Fr (fun a => a < 39 ∨ 47 ≤ a) I J) : Fr Pl I J := h.sub (fun a ha => by have : 52 ≤ a := ha; omega)
theorem next_lo {I : HI} {kind push lean : Int32} {foot : Nat} (hf : foot < 2) : Fr Pl I (fX1_nextBy I kind foot push lean).2 := fr39_lo (line_fr hf)
theorem nextOff_lo {I : HI} {kind push lean : Int32} {foot : Nat} (hf : foot < 2) : Fr Pl I (fX1_nextOff I kind foot push lean).2 := fr39_lo (line_fr hf)
theorem offBy_hi {J : HI} {kind push lean : Int32} {foot : Nat} : Fr Ph J (fX6_offBy J kind foot push lean).2 := by
  unfold fX6_offBy
  exact fh draw6_hi (by omega)
theorem within_m1 {x : Int32} (h : ¬ x = -1) : fX5_within x (-1) 11 = fX5_within x 0 11 := by
  unfold fX5_within
  have e : x < -1 ↔ x < 0 := by
    rw [Int32.lt_iff_toInt_lt, Int32.lt_iff_toInt_lt, show (-1 : Int32).toInt = -1 from rfl, show (0 : Int32).toInt = 0 from rfl]
    have h2 : ¬ x.toInt = -1 := fun q => h (Int32.toInt_inj.mp (q.trans (show (-1 : Int) = (-1 : Int32).toInt from rfl)))
    omega
  simp only [e]
/-- the next line: its radii are the model's -/
theorem R.next {I J : HI} (h : R I J) {foot k p l : Nat} (hf : foot < 2) (hk : k < 7) (hp : p ≤ 9) (hl : 0 < l) (hl9 : l ≤ 9) : (∀ g, g < 12 → (fX1_nextBy I (nI k) foot (nI p) (nI l)).2 ((fX1_nextBy I (nI k) foot (nI p) (nI l)).1 + 1) g = fX6_radiusBy J (nI k) foot (nI p) (nI l) g) ∧ R (fX1_nextBy I (nI k) foot (nI p) (nI l)).2 J ∧ Fr (fun a => a < 39 ∨ 47 ≤ a) I (fX1_nextBy I (nI k) foot (nI p) (nI l)).2 := by
  obtain ⟨hL, hC, -⟩ := h.la (foot := foot)
  have d6 := h.d6
  have hT : J 52 5 = nI (ix (I 1 6)) := by rw [h.drawn]; exact vx h.hd
  obtain ⟨m1, m2, -⟩ := mind h.ev hL hC hf hk hp hl hl9 hT (by omega)
  exact ⟨fun g hg => (m2 g hg).1, h.mi (m1.sub (fun a ha => by have : a < 36 ∨ 47 ≤ a := ha; omega)), m1⟩
theorem sm_next {I J : HI} (hR : R I J) (a b c d : Int32) : (fX5_next I a b c d).1 = (fX6_next J a b c d).1 ∧ R (fX5_next I a b c d).2 (fX6_next J a b c d).2 := by
  have h := hR.th (v := 0)
  unfold fX5_next fX6_next
  generalize up J 52 10 0 = K at h ⊢
  unfold fX6_next_c5
  rw [isFoot6_eq, wrongTwo_eq, show fX6_in d.toInt64 (-1) 11 = fX5_within d (-1) 11 from in6_eq d (-1) 11]
  by_cases h1 : fX5_isFoot a = 0
  · rw [if_pos h1, if_pos h1]; exact h.refuse ref1
  rw [if_neg h1, if_neg h1]
  have hf := isFoot_in h1
  obtain ⟨k, hk, ek⟩ := h.kin
  by_cases h2 : d = -1
  · rw [if_pos h2, if_neg (show ¬ fX5_within d (-1) 11 = 0 by rw [h2]; decide), if_neg (show ¬ 0 ≤ d by rw [h2]; decide)]
    by_cases h3 : fX5_strokeFault b c = 0
    · rw [if_pos h3, if_pos ((ge0_iff sf_neg).mpr h3), h.kind, ek]
      obtain ⟨p, l, rfl, p0, p9, rfl, l0, l9⟩ := stroke_in h3
      obtain ⟨q1, q2, -⟩ := h.nextOff (foot := ix a) (k := k) (vb hf) hk p9 l0 l9
      exact ⟨q1, q2⟩
    · rw [if_neg h3, if_neg (fun q => h3 ((ge0_iff sf_neg).mp q))]
      exact h.refuse (ref_of sf_neg h3)
  · rw [if_neg h2, within_m1 h2, show fX5_within d 0 11 = fX5_isHour d from rfl]
    by_cases h4 : fX5_isHour d = 0
    · rw [if_pos h4, if_pos h4]; exact h.refuse ref1
    rw [if_neg h4, if_neg h4]
    have hd := isHour_in h4
    have h0 : 0 ≤ d := by rw [vx hd]; exact nI_pos' (by have := vb hd; omega)
    rw [if_pos h0]
    by_cases h3 : fX5_strokeFault b c = 0
    · rw [if_pos h3, if_pos ((ge0_iff sf_neg).mpr h3), h.kind, ek]
      obtain ⟨p, l, rfl, p0, p9, rfl, l0, l9⟩ := stroke_in h3
      obtain ⟨q1, q2, -⟩ := h.next (foot := ix a) (k := k) (vb hf) hk p9 l0 l9
      exact ⟨q1 _ (vb hd), q2⟩
    · rw [if_neg h3, if_neg (fun q => h3 ((ge0_iff sf_neg).mp q))]
      exact h.refuse (ref_of sf_neg h3)
theorem lo_next {I : HI} (a b c d : Int32) : Fr Pl I (fX5_next I a b c d).2 := by
  unfold fX5_next
  split
  · exact refuse5_lo
  · rename_i h1
    have hf := vb (isFoot_in h1)
    split
    · split
      · exact next_lo hf
      · exact refuse5_lo
    · split
      · exact refuse5_lo
      · split
        · exact next_lo hf
        · exact refuse5_lo
theorem hi_next {I : HI} (a b c d : Int32) : Fr Ph I (fX6_next I a b c d).2 := by
  refine th_hi.trans ?_
  unfold fX6_next fX6_next_c5
  split
  · exact refuse6_hi
  · split
    · exact refuse6_hi
    · split
      · split
        · exact Fr.refl
        · exact offBy_hi
      · exact refuse6_hi
theorem sm_correct {I J : HI} (hR : R I J) (a b c : Int32) : (fX5_correct I a b c).1 = (fX6_correct J a b c).1 ∧ R (fX5_correct I a b c).2 (fX6_correct J a b c).2 := by
  have h := hR.th (v := 0)
  unfold fX5_correct fX6_correct
  generalize up J 52 10 0 = K at h ⊢
  unfold fX6_correct_c5
  rw [isFoot6_eq, wrongTwo_eq]
  by_cases h1 : fX5_isFoot a = 0
  · rw [fsf0 h1, if_neg (by decide), if_pos h1]; exact h.refuse ref1
  rw [fsf h1, if_neg h1]
  have hf := isFoot_in h1
  by_cases h3 : fX5_strokeFault b c = 0
  · rw [if_pos h3, if_pos ((ge0_iff sf_neg).mpr h3)]
    obtain ⟨p, l, rfl, p0, p9, rfl, l0, l9⟩ := stroke_in h3
    obtain ⟨q1, q2, -⟩ := h.nextOff (foot := ix a) (k := 2) (vb hf) (by omega) p9 l0 l9
    obtain ⟨q3, q4, -⟩ := q2.nextOff (foot := ix a) (k := 0) (vb hf) (by omega) p9 l0 l9
    rw [show (2 : Int32) = nI 2 from rfl, show (0 : Int32) = nI 0 from rfl, q1, q3]
    split
    · exact ⟨rfl, q4⟩
    · exact ⟨rfl, q4⟩
  · rw [if_neg h3, if_neg (fun q => h3 ((ge0_iff sf_neg).mp q))]
    exact h.refuse (ref_of sf_neg h3)
theorem lo_correct {I : HI} (a b c : Int32) : Fr Pl I (fX5_correct I a b c).2 := by
  unfold fX5_correct
  split
  · rename_i h1
    have hf := vb (footFault_in h1)
    split
    · exact (nextOff_lo hf).trans (nextOff_lo hf)
    · exact (nextOff_lo hf).trans (nextOff_lo hf)
  · exact refuse5_lo
theorem hi_correct {I : HI} (a b c : Int32) : Fr Ph I (fX6_correct I a b c).2 := by
  refine th_hi.trans ?_
  unfold fX6_correct fX6_correct_c5
  split
  · exact refuse6_hi
  · split
    · split
      · exact offBy_hi.trans offBy_hi
      · exact offBy_hi.trans offBy_hi
    · exact refuse6_hi
theorem sm_lot {I J : HI} (hR : R I J) (b c : Int32) : (fX5_lot I b c).1 = (fX6_lot J b c).1 ∧ R (fX5_lot I b c).2 (fX6_lot J b c).2 := by
  have h := hR.th (v := 0)
  unfold fX5_lot fX6_lot
  generalize up J 52 10 0 = K at h ⊢
  unfold fX6_lot_c5
  rw [wrongTwo_eq]
  by_cases h3 : fX5_strokeFault b c = 0
  · rw [if_pos h3, if_pos ((ge0_iff sf_neg).mpr h3)]
    obtain ⟨p, l, rfl, p0, p9, rfl, l0, l9⟩ := stroke_in h3
    obtain ⟨k, hk, ek⟩ := h.kin
    rw [h.kind, ek]
    obtain ⟨q1, q2, q5⟩ := h.nextOff (foot := 0) (k := k) (by omega) hk p9 l0 l9
    have e3 : (fX1_nextOff I (nI k) 0 (nI p) (nI l)).2 1 3 = nI k := by rw [q5 1 (by omega)]; exact ek
    rw [e3, q2.kind, e3]
    obtain ⟨q3, q4, -⟩ := q2.nextOff (foot := 1) (k := k) (by omega) hk p9 l0 l9
    rw [q1, q3]
    generalize (fX6_offBy K (nI k) 0 (nI p) (nI l)).1 = x
    generalize (fX6_offBy (fX6_offBy K (nI k) 0 (nI p) (nI l)).2 (nI k) 1 (nI p) (nI l)).1 = y
    by_cases z1 : x = y
    · subst z1
      rw [if_pos rfl, if_pos (Int32.le_refl x), if_pos (Int32.le_refl x)]
      exact ⟨rfl, q4⟩
    · rw [if_neg z1]
      by_cases z2 : y ≤ x
      · rw [if_pos z2, if_pos z2, if_neg (fun z => z1 (Int32.le_antisymm z z2))]
        exact ⟨rfl, q4⟩
      · rw [if_neg z2, if_neg z2]
        exact ⟨rfl, q4⟩
  · rw [if_neg h3, if_neg (fun q => h3 ((ge0_iff sf_neg).mp q))]
    exact h.refuse (ref_of sf_neg h3)
theorem lo_lot {I : HI} (b c : Int32) : Fr Pl I (fX5_lot I b c).2 := by
  unfold fX5_lot
  split
  · split
    · exact (nextOff_lo (by omega)).trans (nextOff_lo (by omega))
    · split
      · exact (nextOff_lo (by omega)).trans (nextOff_lo (by omega))
      · exact (nextOff_lo (by omega)).trans (nextOff_lo (by omega))
  · exact refuse5_lo
theorem hi_lot {I : HI} (b c : Int32) : Fr Ph I (fX6_lot I b c).2 := by
  refine th_hi.trans ?_
  unfold fX6_lot fX6_lot_c5
  split
  · split
    · split
      · exact offBy_hi.trans offBy_hi
      · exact offBy_hi.trans offBy_hi
    · exact offBy_hi.trans offBy_hi
  · exact refuse6_hi
