theorem iMax_9 {r : Int32} (h : vp_in r 1000) : iMax (-9) r = r := by
  unfold iMax
  rw [if_pos]
  rw [vx h]
  exact Int32.lt_of_lt_of_le (show (-9 : Int32) < 0 by decide) (nI_pos' (by have := vb h; omega))
theorem iMax_0 {r : Int32} (h : vp_in r 1000) : iMax 0 r = r := by rw [← iMax_if]; exact max0 h
theorem iMax_in {x r : Int32} (hx : vp_in x 1000) (h : vp_in r 1000) : vp_in (iMax x r) 1000 := by
  unfold iMax
  split
  · exact h
  · exact hx
theorem spread6_b {foot : Int32} {K : HI} {i t : Nat} {x y : Int32} : fX6_spread_b54 foot K i t x y = if K 56 t = foot then (iMin x (K 59 (12 * t + i)), iMax y (K 59 (12 * t + i))) else (x, y) := by
  unfold fX6_spread_b54 fX6_spread_102
  rw [← iMin_if, ← iMax_if]
  by_cases h : K 56 t = foot
  · rw [if_pos h, if_pos h, if_pos h]
    split <;> rfl
  · rw [if_neg h, if_neg h, if_neg h]
theorem R.spreadAt {I J : HI} (h : R I J) {foot : Int32} {k : Nat} (hk : k < 12) (hl : 0 < fX6_latestAhead J foot (ix (I 1 6))) (x : Int32) : fX6_spread_b37 foot J k x = x + fX3_spreadAt I foot k := by
  unfold fX6_spread_b37 fX3_spreadAt
  dsimp only
  rw [h.drawn]
  have d6 := h.d6
  have key := fo_sim (fun i (a b : Int32 × Int32) => a.1 = b.2 ∧ ((fX6_latestAhead J foot i = 0 ∧ a.2 = 0 ∧ b.1 = -9) ∨ (0 < fX6_latestAhead J foot i ∧ a.2 = b.1 ∧ vp_in b.1 1000))) (fun (i : Nat) (s : Int32 × Int32) => fX6_spread_b54 foot J k i s.1 s.2) (fun (i : Nat) (s : Int32 × Int32) => fX3_spreadAt_b11 I foot k i s.1 s.2) (ix (I 1 6)) 0 (999, 0) ((-9), 999) ⟨rfl, Or.inl ⟨la6_0, rfl, rfl⟩⟩ (fun i a b _ hi e => by
    have hi2 : i < ix (I 1 6) := by omega
    have hr := h.radin (t := i) (k := k) (by omega) hk
    obtain ⟨e1, e2⟩ := e
    rw [spread6_b]
    unfold fX3_spreadAt_b11
    rw [la6_s (by omega), h.foot hi2, h.rad hi2 hk]
    by_cases q : I (6 + 2 * i) 0 = foot
    · rw [if_pos q, if_pos q, if_pos q]
      refine ⟨by show iMin a.1 _ = iMin b.2 _; rw [e1], Or.inr ⟨by omega, ?_⟩⟩
      show iMax a.2 _ = iMax b.1 _ ∧ vp_in (iMax b.1 _) 1000
      rcases e2 with ⟨-, q2, q3⟩ | ⟨-, q2, q3⟩
      · rw [q2, q3, iMax_0 hr, iMax_9 hr]; exact ⟨rfl, hr⟩
      · rw [q2]; exact ⟨rfl, iMax_in q3 hr⟩
    · rw [if_neg q, if_neg q, if_neg q]
      exact ⟨e1, e2⟩)
  rw [Nat.zero_add] at key
  obtain ⟨e1, e2⟩ := key
  rcases e2 with ⟨q, -⟩ | ⟨-, q2, q3⟩
  · omega
  · unfold fX6_spread_x54 fX3_spreadAt_x11
    rw [e1, q2, if_neg]
    intro q
    rw [q] at q3
    exact absurd q3 (fun z => z (Or.inl (by decide)))
theorem sm_spread {I J : HI} (hR : R I J) (a : Int32) : (fX5_spread I a).1 = (fX6_spread J a).1 ∧ R (fX5_spread I a).2 (fX6_spread J a).2 := by
  have h := hR.th (v := 0)
  unfold fX5_spread fX6_spread
  generalize up J 52 10 0 = K at h ⊢
  unfold fX6_spread_c5
  rw [isFoot6_eq]
  by_cases h1 : fX5_isFoot a = 0
  · rw [if_pos h1, if_pos h1]; exact h.refuse ref1
  rw [if_neg h1, if_neg h1, h.drawn]
  obtain ⟨c, hc, e, hz⟩ := tracesOf_la (I := I) (J := K) (foot := a) (fun t ht => h.foot ht) h.d6
  rw [e]
  have hle := latestAhead6_le (I := K) (foot := a) (t := ix (I 1 6))
  have d6 := h.d6
  by_cases q : c = 0
  · subst q
    rw [if_pos (show nI 0 = 0 from rfl), hz.mp rfl, if_neg (by decide)]
    exact ⟨rfl, h⟩
  · have hp : 0 < fX6_latestAhead K a (ix (I 1 6)) := Nat.pos_of_ne_zero (fun z => q (hz.mpr z))
    rw [if_neg (nI_ne0 (by omega) (by omega)), if_pos (by
      obtain ⟨m, hm⟩ : ∃ m, fX6_latestAhead K a (ix (I 1 6)) = m + 1 := ⟨_, (Nat.succ_pred_eq_of_pos hp).symm⟩
      rw [hm]
      exact Int32.not_lt.mp (pred_nn (by omega)))]
    refine ⟨?_, h⟩
    unfold fX5_spread_x31 fX6_spread_x37
    dsimp only
    refine (fo_congr _ _ 12 0 0 (fun k s _ hk => ?_)).symm
    unfold fX5_spread_b31
    exact h.spreadAt (by omega) hp s
theorem lo_spread {I : HI} (a : Int32) : Fr Pl I (fX5_spread I a).2 := by
  unfold fX5_spread fX5_spread_x31
  repeat' split
  all_goals first | exact refuse5_lo | exact Fr.refl
theorem hi_spread {I : HI} (a : Int32) : Fr Ph I (fX6_spread I a).2 := by
  refine th_hi.trans ?_
  unfold fX6_spread fX6_spread_c5 fX6_spread_x37
  repeat' split
  all_goals first | exact refuse6_hi | exact Fr.refl
/-! count -/
theorem count6 {I K : HI} (h : R I K) : (fo 24 0 (fun (i : Nat) (s : Int32 × Int32) => fX6_count_b12 K i s.1 s.2) (0, 0)).1 = fX5_oldLines I ∧ (fo 24 0 (fun (i : Nat) (s : Int32 × Int32) => fX6_count_b12 K i s.1 s.2) (0, 0)).2 = fX5_allHard I := by
  refine ⟨?_, ?_⟩
  · unfold fX5_oldLines fX5_oldLines_x4
    refine fo_sim (fun _ (a : Int32 × Int32) (b : Int32) => a.1 = b) _ _ 24 0 (0, 0) 0 rfl (fun k a b _ hk e => ?_)
    unfold fX6_count_b12 fX5_oldLines_b4
    rw [h.old (by omega), e]
    split <;> rfl
  · unfold fX5_allHard fX5_allHard_x4
    refine fo_sim (fun _ (a : Int32 × Int32) (b : Int32) => a.2 = b) _ _ 24 0 (0, 0) 0 rfl (fun k a b _ hk e => ?_)
    unfold fX6_count_b12 fX5_allHard_b4
    rw [h.hard (by omega), e]
    split <;> rfl
theorem count6t {I K : HI} (h : R I K) : fo (ix (K 52 5)) 0 (fun (i : Nat) (s : Int32) => fX6_count_b59 K i s) 0 = fX3_tracesOf I 0 := by
  unfold fX3_tracesOf fX3_tracesOf_x4
  rw [h.drawn]
  refine fo_congr _ _ _ 0 0 (fun k s _ hk => ?_)
  unfold fX6_count_b59 fX3_tracesOf_b4
  rw [h.foot (by omega), Int32.add_zero]
theorem count_pair {K : HI} {w x y : Int32} : (fX6_count_x12 w K x y).2 = K := by
  unfold fX6_count_x12 fX6_count_x59
  repeat' split
  all_goals rfl
theorem sm_count {I J : HI} (hR : R I J) (a : Int32) : fX5_count I a = (fX6_count J a).1 ∧ R I (fX6_count J a).2 := by
  have h := hR.th (v := 0)
  unfold fX6_count
  generalize up J 52 10 0 = K at h ⊢
  unfold fX6_count_c5
  dsimp only
  rw [(count6 h).1, (count6 h).2, count_pair]
  refine ⟨?_, h⟩
  unfold fX6_count_x12
  rw [count6t h]
  unfold fX6_count_x59 fX5_count
  rw [show fX6_in a.toInt64 20 24 = fX5_within a 20 24 from in6_eq a 20 24, show fX6_in a.toInt64 11 16 = fX5_within a 11 16 from in6_eq a 11 16]
  by_cases q0 : a = 0
  · subst q0; exact h.drawn.symm
  by_cases q1 : a = 1
  · subst q1; rfl
  by_cases q2 : a = 2
  · subst q2; exact h.kind.symm
  by_cases q3 : a = 3
  · subst q3; exact h.fig.symm
  by_cases q4 : a = 4
  · subst q4; rfl
  by_cases q5 : a = 5
  · subst q5; rfl
  by_cases q6 : a = 6
  · subst q6; exact h.2.2.1.2.1.symm
  by_cases q7 : a = 7
  · subst q7; exact h.2.2.2.1.2.1.symm
  rw [if_neg q0, if_neg q1, if_neg q2, if_neg q3, if_neg q4, if_neg q5, if_neg q6, if_neg q7, if_neg q0, if_neg q1, if_neg q2, if_neg q3, if_neg q4, if_neg q5, if_neg q6, if_neg q7]
  by_cases c1 : fX5_within a 11 16 = 0
  · rw [if_pos c1]
    by_cases c2 : fX5_within a 20 24 = 0
    · rw [if_pos c2, if_pos c2, if_pos c1]
    · rw [if_neg c2, if_neg c2]
      have b1 := vb (within_in2 (a := 20) (b := 24) c2 (by omega) (by omega))
      exact (h.set (by omega)).symm
  · rw [if_neg c1]
    have b1 := within_in2 (a := 11) (b := 16) c1 (by omega) (by omega)
    have b2 := vb b1
    have c2 : fX5_within a 20 24 = 0 := by
      unfold fX5_within
      rw [if_pos]
      rw [vx b1]
      exact nI_lt (b := 20) (by omega) (by omega)
    rw [if_pos c2, if_neg c1]
    exact (h.2.1 _ (by omega)).symm
theorem hi_count {I : HI} (a : Int32) : Fr Ph I (fX6_count I a).2 := by
  refine th_hi.trans ?_
  unfold fX6_count fX6_count_c5
  dsimp only
  rw [count_pair]
  exact Fr.refl
