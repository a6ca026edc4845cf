theorem part_eq {x y p : Int32} (hx : vp_in x 100000) (hy : vp_in y 100000) (hp : vp_in p 2) : fX5_partOfFraction x y p = fX6_partOf x y p := by
  have bx := vb hx
  have by0 := vb hy
  have bp := vb hp
  have ep := vx hp
  rw [vx hx, vx hy]
  unfold fX5_partOfFraction fX6_partOf
  rw [(div_eq (a := ix x) (b := ix y) (by omega) (by omega)).1, (div_eq (a := ix x) (b := ix y) (by omega) (by omega)).2]
  rcases Nat.eq_zero_or_pos (ix x) with e | e
  · rw [e, Nat.gcd_zero_left, if_pos (show nI 0 = 0 from rfl)]
    rcases Nat.eq_zero_or_pos (ix y) with e2 | e2
    · rw [e2, if_pos (show nI 0 = 0 from rfl)]
      rcases (show ix p = 0 ∨ ix p = 1 by omega) with q | q <;> rw [q] at ep <;> subst ep <;> rfl
    · rw [if_neg (nI_ne0 e2 (by omega)), nv_idiv (a := 0) (b := ix y) rfl rfl (by omega) e2 (by omega), nv_idiv (a := ix y) (b := ix y) rfl rfl (by omega) e2 (by omega), Nat.zero_div, Nat.div_self e2]
      rcases (show ix p = 0 ∨ ix p = 1 by omega) with q | q <;> rw [q] at ep <;> subst ep <;> rfl
  · have hg := Nat.gcd_pos_of_pos_left (ix y) e
    have hg2 := Nat.gcd_le_left (ix y) e
    rw [if_neg (nI_ne0 hg (by omega)), if_neg (nI_ne0 e (by omega))]
theorem R.refuseL {I J : HI} (h : R I J) {n : Int32} (hn : isRef n) : (fX5_refuseLong I n).1 = 4000000000000000000 - ((fX6_refuse J n).1).toInt64 ∧ R (fX5_refuseLong I n).2 (fX6_refuse J n).2 := by
  have h2 := h.refuse hn
  unfold fX5_refuseLong
  dsimp only
  rw [h2.1]
  exact ⟨rfl, h2.2⟩
theorem refuseL_lo {I : HI} {n : Int32} : Fr Pl I (fX5_refuseLong I n).2 := refuse5_lo
theorem total_in {I : HI} {j : Nat} (h : ∀ k, k < 12 → vp_in (I (j + 1) k) 1000) : vp_in (fX4_total I j) 100000 := by
  have key := fo_inv (fun i (s : Int32) => ∃ c, c ≤ 999 * i ∧ s = nI c) (fun (i : Nat) (s : Int32) => fX4_total_b4 I j i s) 12 0 0 ⟨0, by omega, rfl⟩ (fun k s _ hk hs => by
    obtain ⟨c, hc, rfl⟩ := hs
    have h1 := h k (by omega)
    have := vb h1
    refine ⟨c + ix (I (j + 1) k), by omega, ?_⟩
    unfold fX4_total_b4
    exact nv_iadd rfl (vx h1))
  unfold fX4_total fX4_total_x4
  obtain ⟨c, hc, e⟩ := key
  rw [e]
  exact vp_nI (by omega) (by omega)
theorem sm_mean {I J : HI} (hR : R I J) (a b : Int32) : (fX5_mean I a b).1 = (fX6_mean J a b).1 ∧ R (fX5_mean I a b).2 (fX6_mean J a b).2 := by
  have h := hR.th (v := 0)
  unfold fX5_mean fX6_mean
  generalize up J 52 10 0 = K at h ⊢
  unfold fX6_mean_c5
  rw [isTrace6_eq h, show fX6_in b.toInt64 0 1 = fX5_within b 0 1 from in6_eq b 0 1]
  by_cases h1 : fX3_hasTrace I a = 0
  · rw [if_pos h1, if_pos h1]; exact h.refuseL ref1
  by_cases h2 : fX5_within b 0 1 = 0
  · rw [if_neg h1, if_neg h1, if_pos h2, if_pos h2]; exact h.refuseL ref2
  rw [if_neg h1, if_neg h1, if_neg h2, if_neg h2]
  have ht := (hasTrace_lt h.hd h1).2
  have h6 := vb (hasTrace_lt h.hd h1).1
  refine ⟨?_, h⟩
  unfold fX6_mean_x52
  dsimp only
  have e : fo 12 0 (fun (i : Nat) (s : Int32) => fX6_mean_b52 a K i s) 0 = fX4_total I (6 + 2 * ix a) := by
    unfold fX4_total fX4_total_x4
    refine fo_congr _ _ 12 0 0 (fun k s _ hk => ?_)
    unfold fX6_mean_b52 fX4_total_b4
    rw [h.rad ht (by omega)]
  rw [e]
  exact part_eq (total_in (fun k hk => h.radin h6 hk)) (vp_b rfl) (within_in (b := 1) h2 (by omega))
theorem lo_mean {I : HI} (a v : Int32) : Fr Pl I (fX5_mean I a v).2 := by
  unfold fX5_mean
  split
  · exact refuseL_lo
  · split
    · exact refuseL_lo
    · exact Fr.refl
theorem hi_mean {I : HI} (a v : Int32) : Fr Ph I (fX6_mean I a v).2 := by
  refine th_hi.trans ?_
  unfold fX6_mean fX6_mean_c5 fX6_mean_x52
  repeat' split
  all_goals first | exact refuse6_hi | exact Fr.refl
/-! how many of a foot -/
theorem tracesOf_la {I J : HI} {foot : Int32} (hf : ∀ t, t < ix (I 1 6) → J 56 t = I (6 + 2 * t) 0) (hd : ix (I 1 6) ≤ 6) : ∃ c, c ≤ 6 ∧ fX3_tracesOf I foot = nI c ∧ (c = 0 ↔ fX6_latestAhead J foot (ix (I 1 6)) = 0) := by
  have key := fo_inv (fun i (s : Int32) => ∃ c, c ≤ i ∧ s = nI c ∧ (c = 0 ↔ fX6_latestAhead J foot i = 0)) (fun (i : Nat) (s : Int32) => fX3_tracesOf_b4 I foot i s) (ix (I 1 6)) 0 0 ⟨0, by omega, rfl, by rw [la6_0]⟩ (fun k s _ hk hs => by
    obtain ⟨c, hc, rfl, h2⟩ := hs
    unfold fX3_tracesOf_b4
    rw [la6_s (by omega), hf k (by omega)]
    split
    · exact ⟨c + 1, by omega, nv_iadd (b := 1) rfl rfl, by omega⟩
    · exact ⟨c, by omega, rfl, h2⟩)
  rw [Nat.zero_add] at key
  obtain ⟨c, h1, h2, h3⟩ := key
  exact ⟨c, by omega, h2, h3⟩
theorem R.wobblers {I J : HI} (h : R I J) {foot : Int32} {k : Nat} (hk : k < 12) : fX6_wobbling J foot k = fX3_wobblersAt I foot k := by
  unfold fX6_wobbling fX6_wobbling_x5 fX3_wobblersAt fX3_wobblersAt_x5
  rw [h.drawn]
  refine fo_congr _ _ _ 0 0 (fun i s _ hi => ?_)
  have hi2 : i < ix (I 1 6) := by omega
  unfold fX6_wobbling_b5 fX3_wobblersAt_b5
  rw [h.foot hi2, bend_eq (h.li hi2) hk, Int32.add_zero]
theorem wobblers_in {I : HI} {foot : Int32} {k : Nat} (hd : ix (I 1 6) ≤ 6) : vp_in (fX3_wobblersAt I foot k) 7 := by
  have key := fo_inv (fun i (s : Int32) => ∃ c, c ≤ i ∧ s = nI c) (fun (i : Nat) (s : Int32) => fX3_wobblersAt_b5 I foot k i s) (ix (I 1 6)) 0 0 ⟨0, by omega, rfl⟩ (fun k s _ hk hs => by
    obtain ⟨c, hc, rfl⟩ := hs
    unfold fX3_wobblersAt_b5
    split
    · split
      · exact ⟨c, by omega, rfl⟩
      · exact ⟨c + 1, by omega, nv_iadd (b := 1) rfl rfl⟩
    · exact ⟨c, by omega, rfl⟩)
  unfold fX3_wobblersAt fX3_wobblersAt_x5
  obtain ⟨c, hc, e⟩ := key
  rw [e]
  exact vp_nI (by omega) (by omega)
theorem share_in {I J : HI} (h : R I J) {k : Nat} (hk : k < 12) : vp_in (fX3_shareOf I 0 k) 100 ∧ vp_in (fX3_shareOf I 1 k) 100 ∧ vp_in (fX3_shareOf I 2 k) 100 := by
  refine ⟨?_, ?_, ?_⟩
  · unfold fX3_shareOf
    rw [if_pos rfl]
    have w0 := wobblers_in (I := I) (foot := 0) (k := k) h.d6
    have w1 := wobblers_in (I := I) (foot := 1) (k := k) h.d6
    split
    · exact vp_b rfl
    · split
      · exact vp_b rfl
      · have := vb w0
        have := vb w1
        rw [nv_iadd (vx w0) (vx w1)]
        exact vp_nI (by omega) (by omega)
  · unfold fX3_shareOf
    rw [if_neg (by decide), if_pos rfl]
    have a0 : vp_in (I 2 (fX5_spot 0 k)) 4 := h.1.2.1.2.2.2.1 (fX5_spot 0 k) (by rw [spot_eq]; omega)
    have a1 : vp_in (I 2 (fX5_spot 1 k)) 4 := h.1.2.1.2.2.2.1 (fX5_spot 1 k) (by rw [spot_eq]; omega)
    have := vb a0
    have := vb a1
    rw [show (3 : Int32) * (I 2 (fX5_spot 0 k) + I 2 (fX5_spot 1 k)) = nI (3 * (ix (I 2 (fX5_spot 0 k)) + ix (I 2 (fX5_spot 1 k)))) from nv_imul (a := 3) rfl (nv_iadd (vx a0) (vx a1))]
    exact vp_nI (by omega) (by omega)
  · unfold fX3_shareOf fX3_shareOf_89 fX3_shareOf_104
    rw [if_neg (by decide), if_neg (by decide)]
    split <;> split <;> exact vp_b rfl
theorem sm_from {I J : HI} (hR : R I J) (a b c : Int32) : (fX5_from I a b c).1 = (fX6_from J a b c).1 ∧ R (fX5_from I a b c).2 (fX6_from J a b c).2 := by
  have h := hR.th (v := 0)
  unfold fX5_from fX6_from
  generalize up J 52 10 0 = K at h ⊢
  unfold fX6_from_c5
  rw [isHour6_eq, show fX6_in b.toInt64 0 2 = fX5_within b 0 2 from in6_eq b 0 2, show fX6_in c.toInt64 0 1 = fX5_within c 0 1 from in6_eq c 0 1]
  by_cases h1 : fX5_isHour a = 0
  · rw [if_pos h1, if_pos h1]; exact h.refuseL ref1
  by_cases h2 : fX5_within b 0 2 = 0
  · rw [if_neg h1, if_neg h1, if_pos h2, if_pos h2]; exact h.refuseL ref2
  by_cases h3 : fX5_within c 0 1 = 0
  · rw [if_neg h1, if_neg h1, if_neg h2, if_neg h2, if_pos h3, if_pos h3]; exact h.refuseL ref2
  rw [if_neg h1, if_neg h1, if_neg h2, if_neg h2, if_neg h3, if_neg h3]
  refine ⟨?_, h⟩
  have hk := vb (isHour_in h1)
  obtain ⟨s0, s1, s2⟩ := share_in h hk
  have hb := within_in (b := 2) h2 (by omega)
  have eb := vx hb
  have bb := vb hb
  unfold fX6_from_92 fX6_from_128 fX6_from_145 fX6_from_169
  dsimp only
  rw [h.wobblers hk, h.wobblers hk, h.hard (i := ix a) (by omega), h.hard (i := 12 + ix a) (by omega), h.old (i := ix a) (by omega), h.old (i := 12 + ix a) (by omega)]
  have e0 : (if fX3_wobblersAt I 0 (ix a) ≤ 0 then 0 else (if fX3_wobblersAt I 1 (ix a) ≤ 0 then 0 else (fX3_wobblersAt I 0 (ix a)) + (fX3_wobblersAt I 1 (ix a)))) = fX3_shareOf I 0 (ix a) := by
    unfold fX3_shareOf
    rw [if_pos rfl]
  have e1 : 3 * (I 2 (ix a) + I 2 (12 + ix a)) = fX3_shareOf I 1 (ix a) := by
    unfold fX3_shareOf
    rw [if_neg (by decide), if_pos rfl, spot_eq, spot_eq, Nat.mul_zero, Nat.zero_add]
  have e2 : (if I 3 (ix a) ≤ 0 then (0 : Int32) else 2) + (if I 3 (12 + ix a) ≤ 0 then 0 else 2) = fX3_shareOf I 2 (ix a) := by
    unfold fX3_shareOf fX3_shareOf_89 fX3_shareOf_104
    rw [if_neg (show ¬ (2 : Int32) = 0 by decide), if_neg (show ¬ (2 : Int32) = 1 by decide), spot_eq, spot_eq, Nat.mul_zero, Nat.zero_add]
  rw [e0, e1, e2]
  have e3 : (if b = 0 then fX3_shareOf I 0 (ix a) else (if b = 1 then fX3_shareOf I 1 (ix a) else fX3_shareOf I 2 (ix a))) = fX3_shareOf I b (ix a) := by
    rcases (show ix b = 0 ∨ ix b = 1 ∨ ix b = 2 by omega) with q | q | q <;> rw [q] at eb <;> subst eb
    · rw [if_pos (show nI 0 = 0 from rfl)]; rfl
    · rw [if_neg (by decide), if_pos (show nI 1 = 1 from rfl)]; rfl
    · rw [if_neg (by decide), if_neg (by decide)]; rfl
  rw [e3]
  have b0 := vb s0
  have b1 := vb s1
  have b2 := vb s2
  refine part_eq ?_ ?_ (within_in (b := 1) h3 (by omega))
  · rcases (show ix b = 0 ∨ ix b = 1 ∨ ix b = 2 by omega) with q | q | q <;> rw [q] at eb <;> subst eb
    · exact vp_mono s0 (by omega)
    · exact vp_mono s1 (by omega)
    · exact vp_mono s2 (by omega)
  · rw [nv_iadd (nv_iadd (vx s0) (vx s1)) (vx s2)]
    exact vp_nI (by omega) (by omega)
theorem lo_from {I : HI} (a v w : Int32) : Fr Pl I (fX5_from I a v w).2 := by
  unfold fX5_from
  split
  · exact refuseL_lo
  · split
    · exact refuseL_lo
    · split
      · exact refuseL_lo
      · exact Fr.refl
theorem hi_from {I : HI} (a v w : Int32) : Fr Ph I (fX6_from I a v w).2 := by
  refine th_hi.trans ?_
  unfold fX6_from fX6_from_c5 fX6_from_92 fX6_from_128 fX6_from_145 fX6_from_169
  repeat' split
  all_goals first | exact refuse6_hi | exact Fr.refl
