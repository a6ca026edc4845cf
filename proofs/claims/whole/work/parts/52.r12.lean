theorem held_id {x : Int32} (h : vp_in x 61) : fX6_held x 60 = x := by
  unfold fX6_held
  have b := vb h
  rw [vx h, if_pos (nI_pos' (by omega)), if_pos (show nI (ix x) ≤ 60 from nI_le (b := 60) (by omega) (by omega))]
theorem held_in {x : Int32} : vp_in (fX6_held x 60) 61 := by
  unfold fX6_held
  split
  · split
    · rename_i h1 h2
      exact vp_of (a := 60) h1 h2 (by omega) (by omega)
    · exact vp_b rfl
  · exact vp_b rfl
theorem lk_pos {k : Nat} (h : 0 < k) : lk k = some (6 + 2 * (k - 1)) := by unfold lk; rw [if_neg (by omega)]
theorem R.mark {I J : HI} (h : R I J) {k t : Nat} (hk : k < 5) (ht : t < ix (I 1 6)) : fX6_markBy J (nI k) t = fX2_markBy I (nI k) t := by
  have d6 := h.d6
  have hl := h.li ht
  have b0 := h.hF t (by omega)
  have hfl := flats_eq hl (fun i hi => h.hard hi) (h.foot ht) b0
  have hfi : vp_in (fX3_flatsOf I (6 + 2 * t)) 4096 := by rw [← hfl]; exact flats6_in
  have hle := latestAhead6_le (I := J) (foot := I (6 + 2 * t) 0) (t := t)
  unfold fX6_markBy fX2_markBy fX2_swept fX2_named
  rw [off_eq hl (h.set (by omega)), gap_eq hl, hfl, bc_ones hfi, h.set (i := 3) (by omega), h.set (i := 4) (by omega), h.foot ht]
  simp only [bounded_held (show (0 : Int32) ≤ 60 by decide)]
  rcases (show k = 0 ∨ k = 1 ∨ k = 2 ∨ k = 3 ∨ k = 4 by omega) with rfl | rfl | rfl | rfl | rfl
  · rw [if_pos (show nI 0 = 0 from rfl), if_neg (show ¬ nI 0 = 1 by decide), if_neg (show ¬ nI 0 = 2 by decide), if_neg (show ¬ nI 0 = 3 by decide), if_neg (show ¬ nI 0 = 4 by decide)]
  · rw [if_neg (show ¬ nI 1 = 0 by decide), if_pos (show nI 1 = 1 from rfl), if_pos (show nI 1 = 1 from rfl)]
  · rw [if_neg (show ¬ nI 2 = 0 by decide), if_neg (show ¬ nI 2 = 1 by decide), if_pos (show nI 2 = 2 from rfl), if_neg (show ¬ nI 2 = 1 by decide), if_pos (show nI 2 = 2 from rfl)]
  · rw [if_neg (show ¬ nI 3 = 0 by decide), if_neg (show ¬ nI 3 = 1 by decide), if_neg (show ¬ nI 3 = 2 by decide), if_pos (show nI 3 = 3 from rfl), if_neg (show ¬ nI 3 = 1 by decide), if_neg (show ¬ nI 3 = 2 by decide), if_pos (show nI 3 = 3 from rfl)]
  · rw [if_neg (show ¬ nI 4 = 0 by decide), if_neg (show ¬ nI 4 = 1 by decide), if_neg (show ¬ nI 4 = 2 by decide), if_neg (show ¬ nI 4 = 3 by decide), if_neg (show ¬ nI 4 = 1 by decide), if_neg (show ¬ nI 4 = 2 by decide), if_neg (show ¬ nI 4 = 3 by decide), if_pos (show nI 4 = 4 from rfl)]
    unfold fX2_farFromAhead
    rw [h.latest (Nat.le_of_lt ht)]
    rcases Nat.eq_zero_or_pos (fX6_latestAhead J (I (6 + 2 * t) 0) t) with e | e
    · rw [e, if_neg (show ¬ 0 ≤ nI 0 - 1 by decide), show lk 0 = none from rfl, if_pos rfl, show (0 : Int32) / 8 = 0 from rfl, Int32.sub_zero, held_id held_in]
    · have hp : 0 ≤ nI (fX6_latestAhead J (I (6 + 2 * t) 0) t) - 1 := by
        obtain ⟨m, hm⟩ : ∃ m, fX6_latestAhead J (I (6 + 2 * t) 0) t = m + 1 := ⟨_, (Nat.succ_pred_eq_of_pos e).symm⟩
        rw [hm]
        exact Int32.not_lt.mp (pred_nn (n := m) (by omega))
      rw [if_pos hp, far_eq hl (h.li (t := fX6_latestAhead J (I (6 + 2 * t) 0) t - 1) (by omega)), lk_pos e, if_neg (Option.some_ne_none _), Option.getD_some]
theorem sm_mark {I J : HI} (hR : R I J) (a b : Int32) : (fX5_mark I a b).1 = (fX6_mark J a b).1 ∧ R (fX5_mark I a b).2 (fX6_mark J a b).2 := by
  have h := hR.th (v := 0)
  unfold fX5_mark fX6_mark
  generalize up J 52 10 0 = K at h ⊢
  unfold fX6_mark_c5
  rw [isTrace6_eq h, show fX6_in a.toInt64 0 4 = fX5_within a 0 4 from in6_eq a 0 4]
  by_cases h2 : fX5_within a 0 4 = 0
  · rw [if_pos h2, if_pos h2]; exact h.refuse ref2
  rw [if_neg h2, if_neg h2]
  by_cases h1 : fX3_hasTrace I b = 0
  · rw [if_pos h1, if_pos h1]; exact h.refuse ref1
  rw [if_neg h1, if_neg h1]
  have ha := within_in (b := 4) h2 (by omega)
  refine ⟨?_, h⟩
  have e := h.mark (k := ix a) (t := ix b) (vb ha) (hasTrace_lt h.hd h1).2
  rw [← vx ha] at e
  exact e.symm
theorem lo_mark {I : HI} (a v : Int32) : Fr Pl I (fX5_mark I a v).2 := by
  unfold fX5_mark
  repeat' split
  all_goals first | exact refuse5_lo | exact Fr.refl
theorem hi_mark {I : HI} (a v : Int32) : Fr Ph I (fX6_mark I a v).2 := by
  refine th_hi.trans ?_
  unfold fX6_mark fX6_mark_c5
  repeat' split
  all_goals first | exact refuse6_hi | exact Fr.refl
/-! all and some -/
theorem fo_and {c : Nat → Prop} {f : Nat → Int32 → Int32} (h0 : ∀ i, f i 0 = 0) (h1 : ∀ i, c i → f i 1 = 1) (h2 : ∀ i, ¬ c i → f i 1 = 0) : ∀ n i, fo n i f 0 = 0 ∧ ((∀ k, i ≤ k → k < i + n → c k) → fo n i f 1 = 1) ∧ ((¬ ∀ k, i ≤ k → k < i + n → c k) → fo n i f 1 = 0)
  | 0, i => ⟨fo_0 _ _ _, fun _ => fo_0 _ _ _, fun q => absurd (fun k h1 h2 => by omega) q⟩
  | n + 1, i => by
    obtain ⟨a0, a1, a2⟩ := fo_and h0 h1 h2 n (i + 1)
    refine ⟨by rw [fo_s, h0]; exact a0, fun q => ?_, fun q => ?_⟩
    · rw [fo_s, h1 i (q i (Nat.le_refl _) (by omega))]
      exact a1 (fun k q1 q2 => q k (by omega) (by omega))
    · rw [fo_s]
      by_cases hc : c i
      · rw [h1 i hc]
        refine a2 (fun q2 => q (fun k q3 q4 => ?_))
        rcases Nat.lt_or_ge i k with q5 | q5
        · exact q2 k (by omega) (by omega)
        · rw [show k = i by omega]; exact hc
      · rw [h2 i hc]; exact a0
theorem fo_or {c : Nat → Prop} {f : Nat → Int32 → Int32} (h0 : ∀ i, f i 1 = 1) (h1 : ∀ i, c i → f i 0 = 1) (h2 : ∀ i, ¬ c i → f i 0 = 0) : ∀ n i, fo n i f 1 = 1 ∧ ((∃ k, i ≤ k ∧ k < i + n ∧ c k) → fo n i f 0 = 1) ∧ ((¬ ∃ k, i ≤ k ∧ k < i + n ∧ c k) → fo n i f 0 = 0)
  | 0, i => ⟨fo_0 _ _ _, fun ⟨k, h1, h2, _⟩ => by omega, fun _ => fo_0 _ _ _⟩
  | n + 1, i => by
    obtain ⟨a0, a1, a2⟩ := fo_or h0 h1 h2 n (i + 1)
    refine ⟨by rw [fo_s, h0]; exact a0, fun ⟨k, q1, q2, q3⟩ => ?_, fun q => ?_⟩
    · rw [fo_s]
      by_cases hc : c i
      · rw [h1 i hc]; exact a0
      · rw [h2 i hc]
        refine a1 ⟨k, ?_, by omega, q3⟩
        rcases Nat.lt_or_ge i k with q5 | q5
        · exact q5
        · exact absurd (by rw [show i = k by omega]; exact q3) hc
    · rw [fo_s, h2 i (fun hc => q ⟨i, Nat.le_refl _, by omega, hc⟩)]
      exact a2 (fun ⟨k, q1, q2, q3⟩ => q ⟨k, by omega, by omega, q3⟩)
theorem foE_all {ρ : Type} {c : Nat → Prop} {f : Nat → Unit → ρ ⊕ Unit} {r0 r1 : ρ} (h1 : ∀ i, c i → f i () = .inr ()) (h2 : ∀ i, ¬ c i → f i () = .inl r0) : ∀ n i, ((∀ k, i ≤ k → k < i + n → c k) → foE n i f (fun _ => r1) () = r1) ∧ ((¬ ∀ k, i ≤ k → k < i + n → c k) → foE n i f (fun _ => r1) () = r0)
  | 0, i => ⟨fun _ => foE_0 _ _ _ _, fun q => absurd (fun k h1 h2 => by omega) q⟩
  | n + 1, i => by
    obtain ⟨a1, a2⟩ := foE_all (r1 := r1) h1 h2 n (i + 1)
    refine ⟨fun q => ?_, fun q => ?_⟩
    · rw [foE_s, h1 i (q i (Nat.le_refl _) (by omega))]
      exact a1 (fun k q1 q2 => q k (by omega) (by omega))
    · rw [foE_s]
      by_cases hc : c i
      · rw [h1 i hc]
        refine a2 (fun q2 => q (fun k q3 q4 => ?_))
        rcases Nat.lt_or_ge i k with q5 | q5
        · exact q2 k (by omega) (by omega)
        · rw [show k = i by omega]; exact hc
      · rw [h2 i hc]; rfl
theorem sm_fits {I J : HI} (hR : R I J) : (fX5_fits I).1 = (fX6_fits J).1 ∧ R (fX5_fits I).2 (fX6_fits J).2 := by
  have h := hR.th (v := 0)
  unfold fX5_fits fX6_fits
  generalize up J 52 10 0 = K at h ⊢
  unfold fX6_fits_c5
  rw [h.drawn, h.2.2.2.1.2.1]
  by_cases q : I 0 7 = I 1 6
  · rw [if_pos q, if_pos q]
    refine ⟨?_, h⟩
    unfold fX5_fits_x25 fX6_fits_x27
    dsimp only
    refine fo_congr _ _ 5 0 0 (fun k s _ hk => ?_)
    unfold fX5_fits_b25 fX6_fits_b27 fX6_fits_x37 fX2_marksAre fX2_marksAre_x2
    rw [h.drawn, Int32.or_zero]
    obtain ⟨a1, a2⟩ := foE_all (ρ := Int32) (c := fun t => fX2_markBy I (nI k) t = I 50 t) (f := fun (i : Nat) (_ : Unit) => fX2_marksAre_b2 I (nI k) i) (r0 := 0) (r1 := 1) (fun i hi => by unfold fX2_marksAre_b2; rw [if_pos hi]) (fun i hi => by unfold fX2_marksAre_b2; rw [if_neg hi]) (ix (I 1 6)) 0
    obtain ⟨-, b1, b2⟩ := fo_and (c := fun t => fX6_markBy K (nI k) t = K 67 t) (f := fun (i : Nat) (s : Int32) => fX6_fits_b37 K k i s) (fun i => by unfold fX6_fits_b37; rw [if_pos rfl]) (fun i hi => by unfold fX6_fits_b37; rw [if_neg (by decide), if_pos hi]) (fun i hi => by unfold fX6_fits_b37; rw [if_neg (by decide), if_neg hi]) (ix (I 1 6)) 0
    have eq : (∀ t, 0 ≤ t → t < 0 + ix (I 1 6) → fX2_markBy I (nI k) t = I 50 t) ↔ (∀ t, 0 ≤ t → t < 0 + ix (I 1 6) → fX6_markBy K (nI k) t = K 67 t) := by
      have e : ∀ t, t < ix (I 1 6) → (fX2_markBy I (nI k) t = I 50 t ↔ fX6_markBy K (nI k) t = K 67 t) := fun t ht => by
        rw [h.mark (by omega) ht, h.2.2.2.1.2.2 t (by rw [q]; exact ht)]
      exact ⟨fun z t h1 h2 => (e t (by omega)).mp (z t h1 h2), fun z t h1 h2 => (e t (by omega)).mpr (z t h1 h2)⟩
    by_cases z : ∀ t, 0 ≤ t → t < 0 + ix (I 1 6) → fX2_markBy I (nI k) t = I 50 t
    · rw [a1 z, b1 (eq.mp z)]
    · rw [a2 z, b2 (fun y => z (eq.mpr y))]
  · rw [if_neg q, if_neg q]; exact h.refuse ref3
theorem lo_fits {I : HI} : Fr Pl I (fX5_fits I).2 := by
  unfold fX5_fits fX5_fits_x25
  repeat' split
  all_goals first | exact refuse5_lo | exact Fr.refl
theorem hi_fits {I : HI} : Fr Ph I (fX6_fits I).2 := by
  refine th_hi.trans ?_
  unfold fX6_fits fX6_fits_c5 fX6_fits_x27
  repeat' split
  all_goals first | exact refuse6_hi | exact Fr.refl
