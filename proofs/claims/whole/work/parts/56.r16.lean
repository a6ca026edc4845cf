/-- the line that a new one of the foot looks at, in the class (o) and in the model -/
def La (I J : HI) (foot : Nat) (o : Option Nat) : Prop := (fX6_latestAhead J (nI foot) (ix (J 52 5)) = 0 ∧ o = none) ∨ ∃ t j, fX6_latestAhead J (nI foot) (ix (J 52 5)) = t + 1 ∧ t < 30 ∧ o = some j ∧ Li I j J t ∧ ∀ h, h < 12 → vp_in (I (j + 1) h) 1000
theorem looked_eq {I J : HI} {foot h : Nat} {o : Option Nat} {plain : Int32} (hL : La I J foot o) (hh : h < 12) (hp : vp_in plain 1000) : fX6_lookedAt J plain (nI foot) h = fX6_held (fX3_looked I plain o h) 999 ∧ vp_in (fX3_looked I plain o h) 1000 := by
  unfold fX6_lookedAt fX3_looked
  rcases hL with ⟨e1, e2⟩ | ⟨t, j, e1, ht, e2, e3, e4⟩
  · rw [e1, e2, if_neg (show ¬ 0 ≤ nI 0 - 1 by decide), if_pos rfl]
    exact ⟨(held9 hp).symm, hp⟩
  · have hr := e4 h hh
    rw [e1, e2, if_pos (Int32.not_lt.mp (pred_nn (n := t) (by omega))), if_neg (Option.some_ne_none _), Option.getD_some, show t + 1 - 1 = t from rfl, e3 h hh]
    refine ⟨rfl, ?_⟩
    have m := mid_in (a := ix plain) (r := ix (I (j + 1) h)) (q := 2) (k := 2) rfl (Or.inl rfl) (vb hp) (vb hr)
    rw [← vx hp, ← vx hr] at m
    exact m
theorem radius_eq {I J : HI} (hE : Ev I J) {foot h k p l : Nat} {o : Option Nat} (hL : La I J foot o) (hf : foot < 2) (hh : h < 12) (hk : k < 7) (hp : p ≤ 9) (hl : 0 < l) (hl9 : l ≤ 9) : fX6_radiusBy J (nI k) foot (nI p) (nI l) h = fX5_bounded (fX3_radiusBy I (nI k) foot h (fX6_paceAt J foot (nI p) h / nI l) o) 999 := by
  have hpc := pace_in hE hf hp h hh
  have bpc := vb hpc
  have hplain : vp_in (fX6_paceAt J foot (nI p) h / nI l) 1000 := by
    have := Nat.div_le_self (ix (fX6_paceAt J foot (nI p) h)) l
    rw [nv_idiv (vx hpc) rfl (by omega) hl (by omega)]
    exact vp_nI (by omega) (by omega)
  unfold fX6_radiusBy
  generalize fX6_paceAt J foot (nI p) h / nI l = plain at hplain ⊢
  rw [held9 hplain, bounded_held (show (0 : Int32) ≤ 999 by decide)]
  obtain ⟨⟨a1, a2, a3⟩, a4, a5, a6, a7, a8, a9, a10⟩ := hE
  obtain ⟨l1, l2⟩ := looked_eq hL hh hplain
  obtain ⟨l3, l4⟩ := looked_eq hL (show (h + 11) % 12 < 12 by omega) hplain
  have hcen : vp_in (fX3_centred I plain) 1000 := by
    unfold fX3_centred
    have b9 := vb a9
    have m := mid_in (a := ix plain) (r := ix (I 4 0)) (q := 4) (k := 4) rfl (Or.inr rfl) (vb hplain) (by omega)
    rw [← vx hplain, ← vx a9] at m
    exact m
  unfold fX3_radiusBy
  rcases (show k = 0 ∨ k = 1 ∨ k = 2 ∨ k = 3 ∨ k = 4 ∨ k = 5 ∨ k = 6 by omega) with rfl | rfl | rfl | rfl | rfl | rfl | rfl
  · rw [if_pos (show nI 0 = 0 from rfl), if_neg (show ¬ nI 0 = 1 by decide), if_neg (show ¬ nI 0 = 2 by decide), if_neg (show ¬ nI 0 = 3 by decide), if_neg (show ¬ nI 0 = 4 by decide), if_neg (show ¬ nI 0 = 5 by decide), if_neg (show ¬ nI 0 = 6 by decide), held9 hplain]
  · rw [if_neg (show ¬ nI 1 = 0 by decide), if_pos (show nI 1 = 1 from rfl), if_pos (show nI 1 = 1 from rfl)]
    exact l1
  · rw [if_neg (show ¬ nI 2 = 0 by decide), if_neg (show ¬ nI 2 = 1 by decide), if_pos (show nI 2 = 2 from rfl), if_neg (show ¬ nI 2 = 1 by decide), if_pos (show nI 2 = 2 from rfl), a2]
    rfl
  · rw [if_neg (show ¬ nI 3 = 0 by decide), if_neg (show ¬ nI 3 = 1 by decide), if_neg (show ¬ nI 3 = 2 by decide), if_pos (show nI 3 = 3 from rfl), if_neg (show ¬ nI 3 = 1 by decide), if_neg (show ¬ nI 3 = 2 by decide), if_pos (show nI 3 = 3 from rfl), ahead_eq hh]
    exact l3
  · rw [if_neg (show ¬ nI 4 = 0 by decide), if_neg (show ¬ nI 4 = 1 by decide), if_neg (show ¬ nI 4 = 2 by decide), if_neg (show ¬ nI 4 = 3 by decide), if_pos (show nI 4 = 4 from rfl), if_neg (show ¬ nI 4 = 1 by decide), if_neg (show ¬ nI 4 = 2 by decide), if_neg (show ¬ nI 4 = 3 by decide), if_pos (show nI 4 = 4 from rfl)]
  · rw [if_neg (show ¬ nI 5 = 0 by decide), if_neg (show ¬ nI 5 = 1 by decide), if_neg (show ¬ nI 5 = 2 by decide), if_neg (show ¬ nI 5 = 3 by decide), if_neg (show ¬ nI 5 = 4 by decide), if_pos (show nI 5 = 5 from rfl), if_neg (show ¬ nI 5 = 1 by decide), if_neg (show ¬ nI 5 = 2 by decide), if_neg (show ¬ nI 5 = 3 by decide), if_neg (show ¬ nI 5 = 4 by decide), if_pos (show nI 5 = 5 from rfl), a2]
    unfold fX6_wobbledBy fX3_wobbleOf
    rw [a1, show plain + (I 4 0 - plain) / 4 = fX3_centred I plain from rfl, held9 hcen]
  · rw [if_neg (show ¬ nI 6 = 0 by decide), if_neg (show ¬ nI 6 = 1 by decide), if_neg (show ¬ nI 6 = 2 by decide), if_neg (show ¬ nI 6 = 3 by decide), if_neg (show ¬ nI 6 = 4 by decide), if_neg (show ¬ nI 6 = 5 by decide), if_neg (show ¬ nI 6 = 1 by decide), if_neg (show ¬ nI 6 = 2 by decide), if_neg (show ¬ nI 6 = 3 by decide), if_neg (show ¬ nI 6 = 4 by decide), if_neg (show ¬ nI 6 = 5 by decide), if_pos (show nI 6 = 6 from rfl)]
    unfold fX6_strays fX3_ledAstray
    rw [l1, held9 l2, spot_eq, a5 _ (by omega), a1]
    split
    · exact (held9 l2).symm
    · rfl
theorem La.c {I J I' : HI} {foot : Nat} {o : Option Nat} (h : La I J foot o) (hI : ∀ j, o = some j → I' (j + 1) = I (j + 1)) : La I' J foot o := by
  rcases h with h | ⟨t, j, e1, ht, e2, e3, e4⟩
  · exact Or.inl h
  · refine Or.inr ⟨t, j, e1, ht, e2, fun k hk => ?_, fun k hk => ?_⟩
    · rw [hI j e2]; exact e3 k hk
    · rw [hI j e2]; exact e4 k hk
theorem skate_eq {I J : HI} (hE : Ev I J) {foot k p l j : Nat} {o : Option Nat} (hL : La I J foot o) (hf : foot < 2) (hk : k < 7) (hp : p ≤ 9) (hl : 0 < l) (hl9 : l ≤ 9) (hj : 6 ≤ j) (ho : ∀ i, o = some i → i ≠ j) (j0 : I j 0 = nI foot) (j1 : I j 1 = nI p) (j2 : I j 2 = nI l) : ∀ h, h < 12 → (fX3_skate I j (nI k) o) (j + 1) h = fX6_radiusBy J (nI k) foot (nI p) (nI l) h := by
  have key := fo_inv (fun i (s : Int32 × HI) => s.1 = fX6_paceAt J foot (nI p) (i - 1) ∧ Fr (fun a => a ≠ j + 1) I s.2 ∧ ∀ h, h < i → s.2 (j + 1) h = fX6_radiusBy J (nI k) foot (nI p) (nI l) h) (fun (i : Nat) (s : Int32 × HI) => fX3_skate_b12 j (nI k) o i s.1 s.2) 12 0 (60 * (I j 1), I) ⟨by rw [j1]; exact pace_0.symm, Fr.refl, fun h hh => absurd hh (Nat.not_lt_zero h)⟩ (fun i s _ hi hs => by
    obtain ⟨x, S⟩ := s
    obtain ⟨s1, s2, s3⟩ := hs
    dsimp only at s1 s2 s3 ⊢
    have ej : S j = I j := s2 j (by omega)
    have hES : Ev S J := hE.c (by rw [s2 1 (by omega)]) (s2.sub (fun a ha => by omega)) rfl Fr.refl
    have hLS : La S J foot o := hL.c (fun i hi => s2 _ (by have := ho i hi; omega))
    unfold fX3_skate_b12 fX3_skate_60 fX3_skate_78
    rw [ej, j0, j2, ix_nI (by omega), if_neg (show ¬ nI l ≤ 0 from nI_ge (a := 0) hl (by omega))]
    have hpace : (if nI i ≤ 0 then x else iMax 0 (x - 3 * (S 4 1 + S 2 (fX5_spot foot i)))) = fX6_paceAt J foot (nI p) i := by
      rcases Nat.eq_zero_or_pos i with q | q
      · subst q
        rw [if_pos (show nI 0 ≤ 0 by decide)]
        exact s1
      · obtain ⟨m, rfl⟩ : ∃ m, i = m + 1 := ⟨i - 1, by omega⟩
        rw [if_neg (show ¬ nI (m + 1) ≤ 0 from nI_ge (a := 0) q (by omega)), pace_s, s1, show m + 1 - 1 = m from rfl, iMax0]
        unfold fX6_paceAt_b9
        obtain ⟨⟨-, -, a3⟩, a4, -⟩ := hES
        rw [spot_eq, a3, a4 _ (by omega)]
    rw [hpace, ← radius_eq hES hLS hf (by omega) hk hp hl hl9]
    dsimp only
    refine ⟨rfl, s2.put (by omega), fun h hh => ?_⟩
    by_cases q : h = i
    · rw [q, up_v]
    · rw [up_k q]; exact s3 h (by omega))
  intro h hh
  exact key.2.2 h (by omega)
theorem radius_in {I J : HI} (hE : Ev I J) {foot h k p l : Nat} {o : Option Nat} (hL : La I J foot o) (hf : foot < 2) (hh : h < 12) (hk : k < 7) (hp : p ≤ 9) (hl : 0 < l) (hl9 : l ≤ 9) : vp_in (fX6_radiusBy J (nI k) foot (nI p) (nI l) h) 1000 := by
  rw [radius_eq hE hL hf hh hk hp hl hl9, bounded_held (show (0 : Int32) ≤ 999 by decide)]
  exact held9_in
theorem la6_congr {J J' : HI} {foot : Int32} : ∀ n, n < 1000 → (∀ t, t < n → J' 56 t = J 56 t) → fX6_latestAhead J' foot n = fX6_latestAhead J foot n
  | 0, _, _ => by rw [la6_0, la6_0]
  | n + 1, hn, h => by rw [la6_s (by omega), la6_s (by omega), h n (by omega), la6_congr n (by omega) (fun t ht => h t (by omega))]
theorem rad_congr {J J' : HI} {foot h : Nat} {kind push lean : Int32} (h1 : ∀ a, a ≠ 59 → J' a = J a) (h2 : ∀ b, b < 12 * ix (J 52 5) → J' 59 b = J 59 b) (hT : ix (J 52 5) < 1000) (hh : h < 12) : fX6_radiusBy J' kind foot push lean h = fX6_radiusBy J kind foot push lean h := by
  have e52 := h1 52 (by omega)
  have e53 := h1 53 (by omega)
  have e54 := h1 54 (by omega)
  have e55 := h1 55 (by omega)
  have e56 := h1 56 (by omega)
  have ep : fX6_paceAt J' foot push h = fX6_paceAt J foot push h := by
    unfold fX6_paceAt fX6_paceAt_x9
    refine fo_congr _ _ _ 1 _ (fun k s _ _ => ?_)
    unfold fX6_paceAt_b9
    rw [e53, e55]
  have el : ∀ plain g, g < 12 → fX6_lookedAt J' plain (nI foot) g = fX6_lookedAt J plain (nI foot) g := fun plain g hg => by
    unfold fX6_lookedAt
    have hle := latestAhead6_le (I := J) (foot := nI foot) (t := ix (J 52 5))
    rw [e52, la6_congr (J := J) (J' := J') _ hT (fun t _ => by rw [e56])]
    split
    · rename_i q
      have := pred_pos2 q
      rw [h2 _ (by omega)]
    · rfl
  unfold fX6_radiusBy fX6_wobbledBy fX6_strays
  rw [ep, el _ h hh, el _ ((h + 11) % 12) (by omega), e52, e54, e55]
theorem draw6 {J : HI} {foot : Nat} {kind push lean : Int32} (hT : ix (J 52 5) < 1000) : (fX6_drawBy J kind foot push lean).1 = ix (J 52 5) ∧ (∀ h, h < 12 → (fX6_drawBy J kind foot push lean).2 59 (12 * ix (J 52 5) + h) = fX6_radiusBy J kind foot push lean h) ∧ (∀ b, b < 12 * ix (J 52 5) → (fX6_drawBy J kind foot push lean).2 59 b = J 59 b) ∧ ((fX6_drawBy J kind foot push lean).2 56 (ix (J 52 5)) = nI foot ∧ (fX6_drawBy J kind foot push lean).2 57 (ix (J 52 5)) = push ∧ (fX6_drawBy J kind foot push lean).2 58 (ix (J 52 5)) = lean) ∧ (∀ b, b ≠ ix (J 52 5) → (fX6_drawBy J kind foot push lean).2 56 b = J 56 b ∧ (fX6_drawBy J kind foot push lean).2 57 b = J 57 b ∧ (fX6_drawBy J kind foot push lean).2 58 b = J 58 b) := by
  have key := fo_inv (fun i (S : HI) => (∀ a, a ≠ 59 → S a = J a) ∧ (∀ b, b < 12 * ix (J 52 5) → S 59 b = J 59 b) ∧ ∀ h, h < i → S 59 (12 * ix (J 52 5) + h) = fX6_radiusBy J kind foot push lean h) (fun (i : Nat) (s : HI) => fX6_drawBy_b9 J kind foot push lean i s) 12 0 J ⟨fun _ _ => rfl, fun _ _ => rfl, fun h hh => absurd hh (Nat.not_lt_zero h)⟩ (fun i S _ hi hS => by
    obtain ⟨s1, s2, s3⟩ := hS
    unfold fX6_drawBy_b9
    rw [rad_congr s1 s2 hT (by omega)]
    refine ⟨fun a ha => by rw [up_ne a ha]; exact s1 a ha, fun b hb => by rw [up_k (by omega)]; exact s2 b hb, fun h hh => ?_⟩
    by_cases q : h = i
    · rw [q, up_v]
    · rw [up_k (by omega)]; exact s3 h (by omega))
  obtain ⟨k1, k2, k3⟩ := key
  unfold fX6_drawBy fX6_drawBy_x9
  dsimp only
  generalize fo 12 0 (fun (i : Nat) (s : HI) => fX6_drawBy_b9 J kind foot push lean i s) J = S at k1 k2 k3 ⊢
  refine ⟨rfl, fun h hh => ?_, fun b hb => ?_, ⟨?_, ?_, ?_⟩, fun b hb => ⟨?_, ?_, ?_⟩⟩
  · rw [up_ne2 (by omega), up_ne2 (by omega), up_ne2 (by omega), up_ne2 (by omega)]; exact k3 h (by omega)
  · rw [up_ne2 (by omega), up_ne2 (by omega), up_ne2 (by omega), up_ne2 (by omega)]; exact k2 b hb
  · rw [up_ne2 (by omega), up_ne2 (by omega), up_ne2 (by omega), up_v]
  · rw [up_ne2 (by omega), up_ne2 (by omega), up_v]
  · rw [up_ne2 (by omega), up_v]
  · rw [up_ne2 (by omega), up_ne2 (by omega), up_ne2 (by omega), up_k hb, k1 56 (by omega)]
  · rw [up_ne2 (by omega), up_ne2 (by omega), up_k hb, up_ne2 (by omega), k1 57 (by omega)]
  · rw [up_ne2 (by omega), up_k hb, up_ne2 (by omega), up_ne2 (by omega), k1 58 (by omega)]
