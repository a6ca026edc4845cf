theorem sm_lay {I J : HI} (hR : R I J) (a b c v : Int32) : (fX5_lay I a b c v).1 = (fX6_lay J a b c v).1 ∧ R (fX5_lay I a b c v).2 (fX6_lay J a b c v).2 := by
  have h := hR.th (v := 0)
  unfold fX5_lay fX6_lay
  generalize up J 52 10 0 = K at h ⊢
  unfold fX6_lay_c5
  rw [isFoot6_eq, isHour6_eq, show fX6_in c.toInt64 0 1 = fX5_within c 0 1 from in6_eq c 0 1, wrongNumber_eq, wrongNumber_eq]
  by_cases h1 : fX5_isFoot a = 0
  · rw [if_pos (spot0.mpr (Or.inl h1)), if_pos h1]; exact h.refuse ref1
  by_cases h2 : fX5_isHour b = 0
  · rw [if_pos (spot0.mpr (Or.inr h2)), if_neg h1, if_pos h2]; exact h.refuse ref1
  rw [if_neg (fun q => (spot0.mp q).elim h1 h2), if_neg h1, if_neg h2]
  by_cases h3 : fX5_within c 0 1 = 0
  · rw [if_pos h3, if_pos h3]; exact h.refuse ref2
  rw [if_neg h3, if_neg h3, spot_eq]
  have b1 := vb (isFoot_in h1)
  have b2 := vb (isHour_in h2)
  have b3 := within_in (b := 1) h3 (by omega)
  generalize hs : 12 * ix a + ix b = s
  have hs24 : s < 24 := by omega
  by_cases h4 : c = 0
  · rw [if_pos h4, if_pos h4]
    by_cases h5 : fX5_rangeFault v 0 3 = 0
    · rw [if_pos h5, if_pos ((ge0_iff rf_neg).mpr h5), if_neg (by rw [h4]; decide)]
      refine ⟨(h.hard hs24).symm, ?_⟩
      show R (up I 2 s v) (up (up K 53 s v) 54 s (K 54 s))
      rw [show K 54 s = up K 53 s v 54 s from (up_ne2 (by omega)).symm, up_id]
      exact h.upH (rangeFault_in (b := 3) h5 (by decide) (by omega))
    · rw [if_neg h5, if_neg (fun q => h5 ((ge0_iff rf_neg).mp q))]
      exact h.refuse (ref_of rf_neg h5)
  · rw [if_neg h4, if_neg h4]
    have hc1 : c = 1 := by
      have e := vx b3
      have := vb b3
      rcases (show ix c = 0 ∨ ix c = 1 by omega) with q | q
      · rw [q] at e; exact absurd e h4
      · rw [q] at e; exact e
    by_cases h5 : fX5_rangeFault v 0 99 = 0
    · rw [if_pos h5, if_pos ((ge0_iff rf_neg).mpr h5), if_pos hc1]
      refine ⟨(h.old hs24).symm, ?_⟩
      show R (up I 3 s v) (up (up K 53 s (K 53 s)) 54 s v)
      rw [up_id]
      exact h.upO (rangeFault_in (b := 99) h5 (by decide) (by omega))
    · rw [if_neg h5, if_neg (fun q => h5 ((ge0_iff rf_neg).mp q))]
      exact h.refuse (ref_of rf_neg h5)
theorem lo_lay {I : HI} (a b c v : Int32) : Fr Pl I (fX5_lay I a b c v).2 := by
  unfold fX5_lay
  repeat' split
  all_goals first | exact refuse5_lo | exact Fr.refl | exact fl Fr.refl (by omega)
theorem hi_lay {I : HI} (a b c v : Int32) : Fr Ph I (fX6_lay I a b c v).2 := by
  refine th_hi.trans ?_
  unfold fX6_lay fX6_lay_c5
  repeat' split
  all_goals first | exact refuse6_hi | exact Fr.refl | exact fh (fh Fr.refl (by omega)) (by omega)
theorem leastOf_eq {x : Int32} (h : vp_in x 5) : fX6_leastOf x = sLeast (ix x) ∧ fX6_mostOf x = sMost (ix x) := by
  have e := vx h
  have := vb h
  rcases (show ix x = 0 ∨ ix x = 1 ∨ ix x = 2 ∨ ix x = 3 ∨ ix x = 4 by omega) with q | q | q | q | q <;> rw [q] at e ⊢ <;> subst e <;> exact ⟨rfl, rfl⟩
theorem sMost_in {k : Nat} : (k = 0 → sMost k = nI 99) ∧ (k = 1 → sMost k = nI 9) := ⟨fun h => by subst h; rfl, fun h => by subst h; rfl⟩
theorem sLeast_ge {k : Nat} : 0 ≤ sLeast k := by unfold sLeast; split <;> decide
theorem set_ranges {k : Nat} {v : Int32} (h : fX5_rangeFault v (sLeast k) (sMost k) = 0) : (k = 0 → vp_in v 100) ∧ (k = 1 → vp_in v 10) := by
  refine ⟨fun q => ?_, fun q => ?_⟩
  · rw [sMost_in.1 q] at h
    exact rangeFault_in (b := 99) h sLeast_ge (by omega)
  · rw [sMost_in.2 q] at h
    exact rangeFault_in (b := 9) h sLeast_ge (by omega)
theorem sm_set {I J : HI} (hR : R I J) (a v : Int32) : (fX5_set I a v).1 = (fX6_set J a v).1 ∧ R (fX5_set I a v).2 (fX6_set J a v).2 := by
  have h := hR.th (v := 0)
  unfold fX5_set fX6_set
  generalize up J 52 10 0 = K at h ⊢
  unfold fX6_set_c5
  rw [show fX6_in a.toInt64 0 4 = fX5_within a 0 4 from in6_eq a 0 4]
  by_cases h1 : fX5_within a 0 4 = 0
  · rw [if_pos h1, if_pos h1]; exact h.refuse ref1
  rw [if_neg h1, if_neg h1]
  have ha := within_in (b := 4) h1 (by omega)
  rw [(leastOf_eq ha).1, (leastOf_eq ha).2, wrongNumber_eq]
  by_cases h5 : fX5_rangeFault v (sLeast (ix a)) (sMost (ix a)) = 0
  · rw [if_pos h5, if_pos ((ge0_iff rf_neg).mpr h5)]
    exact ⟨(h.set (vb ha)).symm, h.upS (set_ranges h5).1 (set_ranges h5).2⟩
  · rw [if_neg h5, if_neg (fun q => h5 ((ge0_iff rf_neg).mp q))]
    exact h.refuse (ref_of rf_neg h5)
theorem lo_set {I : HI} (a v : Int32) : Fr Pl I (fX5_set I a v).2 := by
  unfold fX5_set
  repeat' split
  all_goals first | exact refuse5_lo | exact Fr.refl | exact fl Fr.refl (by omega)
theorem hi_set {I : HI} (a v : Int32) : Fr Ph I (fX6_set I a v).2 := by
  refine th_hi.trans ?_
  unfold fX6_set fX6_set_c5
  repeat' split
  all_goals first | exact refuse6_hi | exact Fr.refl | exact fh Fr.refl (by omega)
theorem sm_skater {I J : HI} (hR : R I J) (a v : Int32) : (fX5_skater I a v).1 = (fX6_skater J a v).1 ∧ R (fX5_skater I a v).2 (fX6_skater J a v).2 := by
  have h := hR.th (v := 0)
  unfold fX5_skater fX6_skater
  generalize up J 52 10 0 = K at h ⊢
  unfold fX6_skater_c5
  rw [show fX6_in a.toInt64 0 6 = fX5_within a 0 6 from in6_eq a 0 6, wrongNumber_eq]
  by_cases h1 : fX5_within a 0 6 = 0
  · rw [if_pos h1, if_pos h1]; exact h.refuse ref2
  rw [if_neg h1, if_neg h1]
  by_cases h5 : fX5_rangeFault v 0 9 = 0
  · rw [if_pos h5, if_pos ((ge0_iff rf_neg).mpr h5), h.kind, h.fig]
    exact ⟨rfl, h.upK (within_in (b := 6) h1 (by omega)) (rangeFault_in (b := 9) h5 (by decide) (by omega))⟩
  · rw [if_neg h5, if_neg (fun q => h5 ((ge0_iff rf_neg).mp q))]
    exact h.refuse (ref_of rf_neg h5)
theorem lo_skater {I : HI} (a v : Int32) : Fr Pl I (fX5_skater I a v).2 := by
  unfold fX5_skater
  repeat' split
  all_goals first | exact refuse5_lo | exact Fr.refl | exact fl (fl Fr.refl (by omega)) (by omega)
theorem hi_skater {I : HI} (a v : Int32) : Fr Ph I (fX6_skater I a v).2 := by
  refine th_hi.trans ?_
  unfold fX6_skater fX6_skater_c5
  repeat' split
  all_goals first | exact refuse6_hi | exact Fr.refl | exact fh (fh Fr.refl (by omega)) (by omega)
theorem sm_sweep {I J : HI} (hR : R I J) : (fX5_sweep I).1 = (fX6_sweep J).1 ∧ R (fX5_sweep I).2 (fX6_sweep J).2 := by
  have h := hR.th (v := 0)
  exact ⟨h.drawn.symm, h.upD⟩
theorem lo_sweep {I : HI} : Fr Pl I (fX5_sweep I).2 := fl Fr.refl (by omega)
theorem hi_sweep {I : HI} : Fr Ph I (fX6_sweep I).2 := fh th_hi (by omega)
theorem sm_trace {I J : HI} (hR : R I J) (a v : Int32) : (fX5_trace I a v).1 = (fX6_trace J a v).1 ∧ R (fX5_trace I a v).2 (fX6_trace J a v).2 := by
  have h := hR.th (v := 0)
  unfold fX5_trace fX6_trace
  generalize up J 52 10 0 = K at h ⊢
  unfold fX6_trace_c5
  rw [isTrace6_eq h, isHour6_eq]
  by_cases h1 : fX3_hasTrace I a = 0
  · rw [if_pos h1, if_pos h1]; exact h.refuse ref1
  rw [if_neg h1, if_neg h1]
  by_cases h2 : fX5_isHour v = 0
  · rw [if_pos h2, if_pos h2]; exact h.refuse ref1
  rw [if_neg h2, if_neg h2]
  exact ⟨(h.rad (hasTrace_lt h.hd h1).2 (vb (isHour_in h2))).symm, h⟩
theorem lo_trace {I : HI} (a v : Int32) : Fr Pl I (fX5_trace I a v).2 := by
  unfold fX5_trace
  repeat' split
  all_goals first | exact refuse5_lo | exact Fr.refl
theorem hi_trace {I : HI} (a v : Int32) : Fr Ph I (fX6_trace I a v).2 := by
  refine th_hi.trans ?_
  unfold fX6_trace fX6_trace_c5
  repeat' split
  all_goals first | exact refuse6_hi | exact Fr.refl
