theorem whE_sim {α β ρ τ : Type} (P : α → β → Prop) (Q : ρ → τ → Prop) (f : α → ρ ⊕ α) (g : β → τ ⊕ β) (d : ρ) (d' : τ) (hd : Q d d') (hk : ∀ s t, P s t → (∃ r u, f s = .inl r ∧ g t = .inl u ∧ Q r u) ∨ (∃ s' t', f s = .inr s' ∧ g t = .inr t' ∧ P s' t')) : ∀ n s t, P s t → Q (whE n f d s) (whE n g d' t)
  | 0, s, t, _ => by rw [whE_0, whE_0]; exact hd
  | n + 1, s, t, h => by
    rw [whE_s, whE_s]
    rcases hk s t h with ⟨r, u, e1, e2, q⟩ | ⟨s', t', e1, e2, q⟩
    · rw [e1, e2]; exact q
    · rw [e1, e2]; exact whE_sim P Q f g d d' hd hk n s' t' q
theorem R.rc {I J I' J' : HI} (h : R I J) (hc : Rc I' J') (h1 : Fr (fun a => a ≠ 47 ∧ a ≠ 48) I I') (h2 : Fr (fun a => a ≠ 52 ∧ a ≠ 61) J J') (h3 : ∀ b, b ≠ 13 → J' 52 b = J 52 b) : R I' J' :=
  ⟨(h.1.cI (h1.sub (fun a ha => by omega))).cJ (fun b _ _ => h3 b (by omega)) (h2.sub (fun a ha => by omega)) (fun t _ => ⟨by rw [h2 56 (by omega)], by rw [h2 57 (by omega)], by rw [h2 58 (by omega)], fun _ _ => by rw [h2 59 (by omega)]⟩) (fun t ht => by rw [h2 56 (by omega)]; exact h.hF6 t ht), h.2.1.c (h1 51 (by omega)) (h2 60 (by omega)), hc, h.2.2.2.1.c (by rw [h1 0 (by omega)]) (h1 50 (by omega)) (h3 27 (by omega)) (h2 67 (by omega)), (h.2.2.2.2.cI (by rw [h1 0 (by omega)]) (h1.sub (fun a ha => by omega))).cJ (h3 22 (by omega)) (h2 66 (by omega))⟩
theorem R.rw {I J I' J' : HI} (h : R I J) (hc : Rw I' J') (h0 : I' 0 2 = I 0 2) (h1 : Fr (fun a => a ≠ 0 ∧ a ≠ 50) I I') (h2 : Fr (fun a => a ≠ 52 ∧ a ≠ 67) J J') (h3 : ∀ b, b ≠ 27 → J' 52 b = J 52 b) : R I' J' :=
  ⟨(h.1.cI (h1.sub (fun a ha => by omega))).cJ (fun b _ _ => h3 b (by omega)) (h2.sub (fun a ha => by omega)) (fun t _ => ⟨by rw [h2 56 (by omega)], by rw [h2 57 (by omega)], by rw [h2 58 (by omega)], fun _ _ => by rw [h2 59 (by omega)]⟩) (fun t ht => by rw [h2 56 (by omega)]; exact h.hF6 t ht), h.2.1.c (h1 51 (by omega)) (h2 60 (by omega)), h.2.2.1.c (by rw [h1 47 (by omega)]) (h1 48 (by omega)) (h3 13 (by omega)) (h2 61 (by omega)), hc, (h.2.2.2.2.cI h0 (h1.sub (fun a ha => by omega))).cJ (h3 22 (by omega)) (h2 66 (by omega))⟩
theorem sm_feed {I J : HI} (hR : R I J) (a : Int32) : (fX5_feed I a).1 = (fX6_feed J a).1 ∧ R (fX5_feed I a).2 (fX6_feed J a).2 := by
  have h := hR.th (v := 0)
  unfold fX5_feed fX6_feed
  generalize up J 52 10 0 = K at h ⊢
  unfold fX6_feed_c5
  have hm := h.hm
  have b1 := vb hm
  have e13 := h.2.2.1.2.1
  by_cases h1 : 0 ≤ a
  · rw [if_pos h1]
    by_cases h2 : 255 < a
    · have e : fX5_rangeFault a 0 255 = -6 := by unfold fX5_rangeFault; rw [if_pos h1, if_neg (Int32.not_le.mpr h2)]
      rw [if_pos h2, e, if_neg (by decide)]
      exact h.refuse ref6
    · have e : fX5_rangeFault a 0 255 = 0 := by unfold fX5_rangeFault; rw [if_pos h1, if_pos (Int32.not_lt.mp h2)]
      rw [if_neg h2, e, if_pos rfl]
      by_cases h3 : I 47 1 < 96
      · have l1 : ix (I 47 1) < 96 := by
          rcases Nat.lt_or_ge (ix (I 47 1)) 96 with q | q
          · exact q
          · rw [vx hm] at h3
            exact absurd h3 (nI_nlt (b := 96) q (by omega))
        rw [if_pos h3, if_neg (fun q => by rw [e13] at q; rw [q] at h3; exact absurd h3 (by decide))]
        have ea : fX0_add I a = up (up I 48 (ix (I 47 1)) a) 47 1 (nI (ix (I 47 1) + 1)) := by
          unfold fX0_add
          rw [if_neg (Int32.not_le.mpr h3), up_ne2 (by omega)]
          rw [show I 47 1 + 1 = nI (ix (I 47 1) + 1) from nv_iadd (b := 1) (vx hm) rfl]
        rw [ea, e13]
        dsimp only
        refine ⟨up_v, h.rc ⟨?_, ?_, ?_⟩ ((Fr.refl.put (by omega)).put (by omega)) ((Fr.refl.put (by omega)).put (by omega)) (fun b hb => by rw [up_k hb, up_ne2 (by omega)])⟩
        · rw [up_v]; exact vp_nI (by omega) (by omega)
        · rw [up_v, up_v]
        · intro i hi
          rw [up_v, ix_nI (by omega)] at hi
          rw [up_ne2 (j := 52) (a := 61) (by omega), up_ne2 (j := 47) (a := 48) (by omega)]
          by_cases q : i = ix (I 47 1)
          · rw [q, up_v, up_v]
          · rw [up_k q, up_k q]
            exact h.2.2.1.2.2 i (by omega)
      · have q96 : I 47 1 = 96 := by
          have q := vx hm
          rcases Nat.lt_or_ge (ix (I 47 1)) 96 with q2 | q2
          · exact absurd (by rw [q]; exact nI_lt (b := 96) q2 (by omega)) h3
          · rw [show ix (I 47 1) = 96 by omega] at q
            exact q
        rw [if_neg h3, if_pos (e13.trans q96)]
        exact h.refuse ref6
  · have e : fX5_rangeFault a 0 255 = -4 := by unfold fX5_rangeFault; rw [if_neg h1]
    rw [if_neg h1, e, if_neg (by decide)]
    exact h.refuse ref4
theorem lo_feed {I : HI} (a : Int32) : Fr Pl I (fX5_feed I a).2 := by
  unfold fX5_feed fX0_add
  repeat' split
  all_goals first | exact refuse5_lo | exact Fr.refl | exact fl (fl Fr.refl (by omega)) (by omega)
theorem hi_feed {I : HI} (a : Int32) : Fr Ph I (fX6_feed I a).2 := by
  refine th_hi.trans ?_
  unfold fX6_feed fX6_feed_c5
  repeat' split
  all_goals first | exact refuse6_hi | exact Fr.refl | exact fh (fh Fr.refl (by omega)) (by omega)
theorem sm_row {I J : HI} (hR : R I J) (a : Int32) : (fX5_row I a).1 = (fX6_row J a).1 ∧ R (fX5_row I a).2 (fX6_row J a).2 := by
  have h := hR.th (v := 0)
  unfold fX5_row fX6_row
  generalize up J 52 10 0 = K at h ⊢
  unfold fX6_row_c5
  have hm := h.ht
  have b1 := vb hm
  have e13 := h.2.2.2.1.2.1
  by_cases h1 : 0 ≤ a
  · rw [if_pos h1]
    by_cases h2 : 99 < a
    · have e : fX5_rangeFault a 0 99 = -6 := by unfold fX5_rangeFault; rw [if_pos h1, if_neg (Int32.not_le.mpr h2)]
      rw [if_pos h2, e, if_neg (by decide)]
      exact h.refuse ref6
    · have e : fX5_rangeFault a 0 99 = 0 := by unfold fX5_rangeFault; rw [if_pos h1, if_pos (Int32.not_lt.mp h2)]
      rw [if_neg h2, e, if_pos rfl]
      by_cases h3 : I 0 7 < 12
      · have l1 : ix (I 0 7) < 12 := by
          rcases Nat.lt_or_ge (ix (I 0 7)) 12 with q | q
          · exact q
          · rw [vx hm] at h3
            exact absurd h3 (nI_nlt (b := 12) q (by omega))
        rw [if_pos h3, if_neg (fun q => by rw [e13] at q; rw [q] at h3; exact absurd h3 (by decide))]
        rw [show up I 50 (ix (I 0 7)) a 0 7 = I 0 7 from up_ne2 (by omega), show I 0 7 + 1 = nI (ix (I 0 7) + 1) from nv_iadd (b := 1) (vx hm) rfl, e13]
        dsimp only
        refine ⟨up_v, h.rw ⟨?_, ?_, ?_⟩ ?_ ((Fr.refl.put (by omega)).put (by omega)) ((Fr.refl.put (by omega)).put (by omega)) (fun b hb => by rw [up_k hb, up_ne2 (by omega)])⟩
        · rw [up_v]; exact vp_nI (by omega) (by omega)
        · rw [up_v, up_v]
        · intro i hi
          rw [up_v, ix_nI (by omega)] at hi
          rw [up_ne2 (j := 52) (a := 67) (by omega), up_ne2 (j := 0) (a := 50) (by omega)]
          by_cases q : i = ix (I 0 7)
          · rw [q, up_v, up_v]
          · rw [up_k q, up_k q]
            exact h.2.2.2.1.2.2 i (by omega)
        · rw [up_k (by omega), up_ne2 (by omega)]
      · have q96 : I 0 7 = 12 := by
          have q := vx hm
          rcases Nat.lt_or_ge (ix (I 0 7)) 12 with q2 | q2
          · exact absurd (by rw [q]; exact nI_lt (b := 12) q2 (by omega)) h3
          · rw [show ix (I 0 7) = 12 by omega] at q
            exact q
        rw [if_neg h3, if_pos (e13.trans q96)]
        exact h.refuse ref6
  · have e : fX5_rangeFault a 0 99 = -4 := by unfold fX5_rangeFault; rw [if_neg h1]
    rw [if_neg h1, e, if_neg (by decide)]
    exact h.refuse ref4
theorem lo_row {I : HI} (a : Int32) : Fr Pl I (fX5_row I a).2 := by
  unfold fX5_row
  repeat' split
  all_goals first | exact refuse5_lo | exact Fr.refl | exact fl (fl Fr.refl (by omega)) (by omega)
theorem hi_row {I : HI} (a : Int32) : Fr Ph I (fX6_row I a).2 := by
  refine th_hi.trans ?_
  unfold fX6_row fX6_row_c5
  repeat' split
  all_goals first | exact refuse6_hi | exact Fr.refl | exact fh (fh Fr.refl (by omega)) (by omega)
theorem R.upW {I J : HI} (h : R I J) : R (up I 0 7 0) (up J 52 27 0) := by
  refine h.rw ⟨?_, ?_, ?_⟩ (up_k (by omega)) (Fr.refl.put (by omega)) (Fr.refl.put (by omega)) (fun b hb => up_k hb)
  · rw [up_v]; exact vp_b rfl
  · rw [up_v, up_v]
  · intro i hi
    rw [up_v] at hi
    exact absurd hi (Nat.not_lt_zero i)
theorem sm_clear {I J : HI} (hR : R I J) : (fX5_clear I).1 = (fX6_clear J).1 ∧ R (fX5_clear I).2 (fX6_clear J).2 := by
  have h := hR.th (v := 0)
  exact ⟨h.2.2.2.1.2.1.symm, h.upW⟩
theorem lo_clear {I : HI} : Fr Pl I (fX5_clear I).2 := fl Fr.refl (by omega)
theorem hi_clear {I : HI} : Fr Ph I (fX6_clear I).2 := fh th_hi (by omega)
theorem sm_judge {I J : HI} (hR : R I J) (a : Int32) : (fX5_judge I a).1 = (fX6_judge J a).1 ∧ R (fX5_judge I a).2 (fX6_judge J a).2 := by
  have h := hR.th (v := 0)
  unfold fX5_judge fX6_judge
  generalize up J 52 10 0 = K at h ⊢
  unfold fX6_judge_c5
  rw [isTrace6_eq h]
  by_cases h1 : fX3_hasTrace I a = 0
  · rw [if_pos h1, if_pos h1]; exact h.refuse ref1
  rw [if_neg h1, if_neg h1]
  have ht := (hasTrace_lt h.hd h1).2
  have b1 := vb h.ht
  rw [h.2.2.2.1.2.1]
  have key := foE_sim (fun _ (_ _ : Unit) => True) (fun (r : Int32) (u : Int32 × HI) => u.1 = r ∧ u.2 = up K 52 27 0) (fun (i : Nat) (_ : Unit) => fX5_firstUnlike_b2 I (6 + 2 * ix a) i) (fun (i : Nat) (_ : Unit) => fX6_judge_b31 a K i) (fun (_ : Unit) => fX5_firstUnlike_x2) (fun (_ : Unit) => fX6_judge_x31 K) (ix (I 0 7)) 0 () () trivial (fun k _ _ _ hk _ => by
    unfold fX5_firstUnlike_b2 fX6_judge_b31
    rw [h.2.2.2.1.2.2 k (by omega), h.rad ht (by omega)]
    by_cases q : I 50 k = I (6 + 2 * ix a + 1) k
    · rw [if_pos q, if_pos q]; exact Or.inr ⟨(), (), rfl, rfl, trivial⟩
    · rw [if_neg q, if_neg q]; exact Or.inl ⟨_, _, rfl, rfl, rfl, rfl⟩) (fun _ _ _ => ⟨rfl, rfl⟩)
  refine ⟨key.1.symm, ?_⟩
  rw [key.2]
  exact h.upW
theorem lo_judge {I : HI} (a : Int32) : Fr Pl I (fX5_judge I a).2 := by
  unfold fX5_judge
  repeat' split
  all_goals first | exact refuse5_lo | exact Fr.refl | exact fl Fr.refl (by omega)
theorem hi_judge {I : HI} (a : Int32) : Fr Ph I (fX6_judge I a).2 := by
  refine th_hi.trans ?_
  unfold fX6_judge fX6_judge_c5
  split
  · exact refuse6_hi
  · refine foE_inv (fun _ => True) (fun r : Int32 × HI => Fr Ph (up I 52 10 0) r.2) _ _ (fun i s r _ hr => ?_) (fun _ _ _ _ _ => trivial) (fun _ _ => fh Fr.refl (by omega)) _ _ _ trivial
    unfold fX6_judge_b31 at hr
    split at hr
    · cases hr
    · cases hr; exact fh Fr.refl (by omega)
theorem best_eq (h : Nat) (w : Int32) : fX6_bestHours w h = fX5_bestForFigures h w := rfl
theorem marks_eq (a b c : Int32) : fX6_marksOf c a b = fX5_marksTogether a b c := rfl
theorem sm_hours {I J : HI} (hR : R I J) (a b : Int32) : (fX5_hours I a b).1 = (fX6_hours J a b).1 ∧ R (fX5_hours I a b).2 (fX6_hours J a b).2 := by
  have h := hR.th (v := 0)
  unfold fX5_hours fX6_hours
  generalize up J 52 10 0 = K at h ⊢
  unfold fX6_hours_c5
  rw [wrongNumber_eq, show fX6_in b.toInt64 0 1 = fX5_within b 0 1 from in6_eq b 0 1, h.set (i := 2) (by omega), best_eq, marks_eq]
  by_cases h1 : fX5_rangeFault a 0 40 = 0
  · rw [if_pos h1, if_pos h1]
    by_cases h2 : fX5_within b 0 1 = 0
    · rw [if_pos h2, if_pos h2]; exact h.refuse ref2
    · rw [if_neg h2, if_neg h2]
      split
      · exact ⟨rfl, h⟩
      · exact ⟨rfl, h⟩
  · rw [if_neg h1, if_neg h1]; exact h.refuse (ref_of rf_neg h1)
theorem lo_hours {I : HI} (a b : Int32) : Fr Pl I (fX5_hours I a b).2 := by
  unfold fX5_hours
  repeat' split
  all_goals first | exact refuse5_lo | exact Fr.refl
theorem hi_hours {I : HI} (a b : Int32) : Fr Ph I (fX6_hours I a b).2 := by
  refine th_hi.trans ?_
  unfold fX6_hours fX6_hours_c5
  repeat' split
  all_goals first | exact refuse6_hi | exact Fr.refl
theorem won_res {I : HI} {a : Int32} : (whE 120 (fun (s : Nat) => fX5_won_b20 I a s) ((-9), I) 0).2 = I := by
  refine whE_res (fun _ => True) (fun r : Int32 × HI => r.2 = I) _ _ rfl (fun s r _ hr => ?_) (fun _ _ _ _ => trivial) _ _ trivial
  unfold fX5_won_b20 at hr
  split at hr
  · cases hr; rfl
  · split at hr
    · cases hr
    · cases hr; rfl
theorem won_res6 {I : HI} {a : Int32} : (whE 120 (fun (s : Nat) => fX6_won_b29 a I s) ((-9), I) 0).2 = I := by
  refine whE_res (fun _ => True) (fun r : Int32 × HI => r.2 = I) _ _ rfl (fun s r _ hr => ?_) (fun _ _ _ _ => trivial) _ _ trivial
  unfold fX6_won_b29 at hr
  split at hr
  · cases hr; rfl
  · split at hr
    · cases hr
    · cases hr; rfl
theorem sm_won {I J : HI} (hR : R I J) (a : Int32) : (fX5_won I a).1 = (fX6_won J a).1 ∧ R (fX5_won I a).2 (fX6_won J a).2 := by
  have h := hR.th (v := 0)
  unfold fX5_won fX6_won
  generalize up J 52 10 0 = K at h ⊢
  unfold fX6_won_c5
  rw [wrongNumber_eq]
  by_cases h1 : fX5_rangeFault a 0 40 = 0
  · rw [if_pos h1, if_pos ((ge0_iff rf_neg).mpr h1), won_res, won_res6]
    refine ⟨?_, h⟩
    refine whE_sim (fun (s t : Nat) => s = t) (fun (r u : Int32 × HI) => r.1 = u.1) (fun (s : Nat) => fX5_won_b20 I a s) (fun (s : Nat) => fX6_won_b29 a K s) (-9, I) (-9, K) rfl (fun s t e => ?_) 120 0 0 rfl
    subst e
    unfold fX5_won_b20 fX6_won_b29
    rw [best_eq]
    split
    · exact Or.inl ⟨_, _, rfl, rfl, rfl⟩
    · split
      · exact Or.inr ⟨_, _, rfl, rfl, rfl⟩
      · exact Or.inl ⟨_, _, rfl, rfl, rfl⟩
  · rw [if_neg h1, if_neg (fun q => h1 ((ge0_iff rf_neg).mp q))]; exact h.refuse (ref_of rf_neg h1)
theorem lo_won {I : HI} (a : Int32) : Fr Pl I (fX5_won I a).2 := by
  unfold fX5_won
  split
  · rw [won_res]; exact Fr.refl
  · exact refuse5_lo
theorem hi_won {I : HI} (a : Int32) : Fr Ph I (fX6_won I a).2 := by
  refine th_hi.trans ?_
  unfold fX6_won fX6_won_c5
  split
  · rw [won_res6]; exact Fr.refl
  · exact refuse6_hi
