def Gi (I J : HI) (foot i : Nat) (s : Nat × HI) (u : Int32 × HI) : Prop := Ev s.2 u.2 ∧ La s.2 u.2 foot (some s.1) ∧ Cl (some s.1) ∧ u.2 52 5 = nI (ix (I 1 6) + i) ∧ Mo (ix (I 1 6)) J u.2 ∧ Fr (fun a => a < 39 ∨ 47 ≤ a) I s.2 ∧ u.1 = fX3_offOf s.2 s.1
theorem grow_step {I J S K : HI} {foot k p l i : Nat} {o : Option Nat} (hE : Ev S K) (hL : La S K foot o) (hC : Cl o) (hf : foot < 2) (hk : k < 7) (hp : p ≤ 9) (hl : 0 < l) (hl9 : l ≤ 9) (h5 : K 52 5 = nI (ix (I 1 6) + i)) (hi : i < 20) (h6 : ix (I 1 6) ≤ 6) (hM : Mo (ix (I 1 6)) J K) (hF : Fr (fun a => a < 39 ∨ 47 ≤ a) I S) : Gi I J foot (i + 1) ((fX1_lineBehind S o (nI k) foot (nI p) (nI l)).1, (fX1_lineBehind S o (nI k) foot (nI p) (nI l)).2) (fX6_offOf (fX6_drawBy K (nI k) foot (nI p) (nI l)).2 (fX6_drawBy K (nI k) foot (nI p) (nI l)).1, (fX6_drawBy K (nI k) foot (nI p) (nI l)).2) := by
  obtain ⟨m1, m2, m3, m4, m5, m6, m7⟩ := mind hE hL hC hf hk hp hl hl9 h5 (by omega)
  have hi5 : ix (K 52 5) = ix (I 1 6) + i := by rw [h5, ix_nI (by omega)]
  obtain ⟨d1, d2, -⟩ := draw6 (J := K) (foot := foot) (kind := nI k) (push := nI p) (lean := nI l) (by omega)
  refine ⟨m3, m4, m5, ?_, hM.step hf (by omega) (by omega), hF.trans m1, ?_⟩
  · rw [m7, Nat.add_assoc]
  · dsimp only
    rw [d1]
    exact off_eq (off_line (fun h hh => (m2 h hh).1) d2) m3.1.2.1
theorem R.growth {I J : HI} (h : R I J) {foot k p l m : Nat} (hf : foot < 2) (hk : k < 7) (hp : p ≤ 9) (hl : 0 < l) (hl9 : l ≤ 9) (hm : 0 < m) (hm9 : m ≤ 9) : (fX1_growth I (nI k) foot (nI p) (nI l) m).1 = (fX6_growsBy J (nI k) foot (nI p) (nI l) m).1 ∧ R (fX1_growth I (nI k) foot (nI p) (nI l) m).2 (fX6_growsBy J (nI k) foot (nI p) (nI l) m).2 ∧ Fr (fun a => a < 39 ∨ 47 ≤ a) I (fX1_growth I (nI k) foot (nI p) (nI l) m).2 := by
  obtain ⟨hL, hC, -⟩ := h.la (foot := foot)
  have d6 := h.d6
  have hT : J 52 5 = nI (ix (I 1 6) + 0) := by rw [h.drawn]; exact vx h.hd
  have h0 := grow_step (I := I) (J := J) h.ev hL hC hf hk hp hl hl9 hT (by omega) d6 (h.mo0) Fr.refl
  have key := fo_sim (fun i s u => Gi I J foot i s u) (fun (i : Nat) (s : Nat × HI) => fX1_growth_b25 (nI k) foot (nI p) (nI l) i s.1 s.2) (fun (i : Nat) (s : Int32 × HI) => fX6_growsBy_b28 (nI k) foot (nI p) (nI l) i s.1 s.2) (m - 1) 1 _ _ h0 (fun i s u hi hi2 e => by
    obtain ⟨x, S⟩ := s
    obtain ⟨y, K⟩ := u
    obtain ⟨e1, e2, e3, e4, e5, e6, e7⟩ := e
    exact grow_step e1 e2 e3 hf hk hp hl hl9 e4 (by omega) d6 e5 e6)
  have hz := h0.2.2.2.2.2.2
  unfold fX1_growth fX6_growsBy
  dsimp only at hz ⊢
  unfold fX1_growth_x25 fX6_growsBy_x28
  have e1 : fX1_nextBy I (nI k) foot (nI p) (nI l) = ((fX1_lineBehind I (fX3_latestOf I (nI foot)) (nI k) foot (nI p) (nI l)).1, (fX1_lineBehind I (fX3_latestOf I (nI foot)) (nI k) foot (nI p) (nI l)).2) := rfl
  rw [e1, hz]
  dsimp only
  rw [hz] at key
  generalize fX3_offOf (fX1_lineBehind I (fX3_latestOf I (nI foot)) (nI k) foot (nI p) (nI l)).2 (fX1_lineBehind I (fX3_latestOf I (nI foot)) (nI k) foot (nI p) (nI l)).1 = first at key ⊢
  generalize fo (m - 1) 1 (fun (i : Nat) (s : Nat × HI) => fX1_growth_b25 (nI k) foot (nI p) (nI l) i s.1 s.2) ((fX1_lineBehind I (fX3_latestOf I (nI foot)) (nI k) foot (nI p) (nI l)).1, (fX1_lineBehind I (fX3_latestOf I (nI foot)) (nI k) foot (nI p) (nI l)).2) = A at key ⊢
  generalize fo (m - 1) 1 (fun (i : Nat) (s : Int32 × HI) => fX6_growsBy_b28 (nI k) foot (nI p) (nI l) i s.1 s.2) (first, (fX6_drawBy J (nI k) foot (nI p) (nI l)).2) = B at key ⊢
  obtain ⟨x, S⟩ := A
  obtain ⟨y, K⟩ := B
  obtain ⟨-, -, -, -, e5, e6, e7⟩ := key
  dsimp only at e5 e6 e7 ⊢
  subst e7
  have hR2 : R S (up K 52 5 (J 52 5)) := (h.mo (e5.up5 (Or.inl rfl)) up_v).mi (e6.sub (fun a ha => by have : a < 36 ∨ 47 ≤ a := ha; omega))
  generalize fX3_offOf S x = last
  unfold fJ6_compare_7cf53
  by_cases q1 : last ≤ first
  · rw [if_pos q1]
    by_cases q2 : first ≤ last
    · have e := Int32.le_antisymm q1 q2
      rw [if_pos q2, if_pos q2, if_pos e]
      exact ⟨rfl, hR2, e6⟩
    · rw [if_neg q2, if_neg q2]
      exact ⟨rfl, hR2, e6⟩
  · have q2 : first ≤ last := Int32.le_of_lt (Int32.not_le.mp q1)
    rw [if_neg q1, if_pos q2, if_neg (fun e => q1 (by rw [e]; exact Int32.le_refl _))]
    exact ⟨rfl, hR2, e6⟩
theorem growth_lo {I : HI} {kind push lean : Int32} {foot m : Nat} (hf : foot < 2) : Fr Pl I (fX1_growth I kind foot push lean m).2 := by
  unfold fX1_growth fX1_growth_x25
  refine fo_inv (fun _ (s : Nat × HI) => Fr Pl I s.2) (fun (i : Nat) (s : Nat × HI) => fX1_growth_b25 kind foot push lean i s.1 s.2) (m - 1) 1 _ (next_lo hf) (fun i s _ _ hs => ?_)
  exact hs.trans (fr39_lo (line_fr hf))
theorem growsBy_hi {I : HI} {kind push lean : Int32} {foot m : Nat} : Fr Ph I (fX6_growsBy I kind foot push lean m).2 := by
  unfold fX6_growsBy
  have key := fo_inv (fun _ (s : Int32 × HI) => Fr Ph I s.2) (fun (i : Nat) (s : Int32 × HI) => fX6_growsBy_b28 kind foot push lean i s.1 s.2) (m - 1) 1 (fX6_offOf ((fX6_drawBy I kind foot push lean).2) ((fX6_drawBy I kind foot push lean).1), ((fX6_drawBy I kind foot push lean).2)) draw6_hi (fun i s _ _ hs => hs.trans draw6_hi)
  dsimp only
  generalize fo (m - 1) 1 (fun (i : Nat) (s : Int32 × HI) => fX6_growsBy_b28 kind foot push lean i s.1 s.2) (fX6_offOf ((fX6_drawBy I kind foot push lean).2) ((fX6_drawBy I kind foot push lean).1), ((fX6_drawBy I kind foot push lean).2)) = A at key ⊢
  obtain ⟨x, K⟩ := A
  dsimp only at key ⊢
  have q : Fr Ph I (up K 52 5 (I 52 5)) := fh key (by omega)
  unfold fX6_growsBy_x28
  split
  · split
    · exact q
    · exact q
  · exact q
theorem grow_in {x y z : Int32} (h : fX5_growthFault x y z = 0) : fX5_strokeFault x y = 0 ∧ 0 < ix z := by
  unfold fX5_growthFault at h
  split at h
  · exact absurd h (by decide)
  · split at h
    · exact absurd h (by decide)
    · rename_i c2
      split at h
      · rename_i c3
        refine ⟨c3, ?_⟩
        have v := rangeFault_in (b := 9) (k := 2) h (by decide) (by omega)
        refine Nat.pos_of_ne_zero (fun q => ?_)
        have e := vx v
        rw [q] at e
        rw [e] at h
        exact absurd h (by decide)
      · rename_i c3
        exact absurd h c3
theorem sm_grows {I J : HI} (hR : R I J) (a b c d e : Int32) : (fX5_grows I a b c d e).1 = (fX6_grows J a b c d e).1 ∧ R (fX5_grows I a b c d e).2 (fX6_grows J a b c d e).2 := by
  have h := hR.th (v := 0)
  unfold fX5_grows fX6_grows
  generalize up J 52 10 0 = K at h ⊢
  unfold fX6_grows_c5
  rw [isFoot6_eq, wrongGrowth_eq, show fX6_in d.toInt64 0 6 = fX5_within d 0 6 from in6_eq d 0 6]
  have rf : ∀ {n : Int32}, isRef n → (1000000000 - (fX5_refuse I n).1, (fX5_refuse I n).2).1 = (1000000000 - (fX6_refuse K n).1, (fX6_refuse K n).2).1 ∧ R (1000000000 - (fX5_refuse I n).1, (fX5_refuse I n).2).2 (1000000000 - (fX6_refuse K n).1, (fX6_refuse K n).2).2 := fun hn => by
    have q := h.refuse hn
    refine ⟨?_, q.2⟩
    dsimp only
    rw [q.1]
  by_cases h1 : fX5_isFoot a = 0
  · rw [if_pos h1, if_pos h1]; exact rf ref1
  by_cases h2 : fX5_within d 0 6 = 0
  · rw [if_neg h1, if_neg h1, if_pos h2, if_pos h2]; exact rf ref2
  rw [if_neg h1, if_neg h1, if_neg h2, if_neg h2]
  by_cases h3 : fX5_growthFault b c e = 0
  · rw [if_pos h3, if_pos ((ge0_iff gf_neg).mpr h3)]
    obtain ⟨g1, g2⟩ := grow_in h3
    have g3 := vb (growthFault_in h3)
    obtain ⟨p, l, rfl, p0, p9, rfl, l0, l9⟩ := stroke_in g1
    have hd := within_in (b := 6) h2 (by omega)
    obtain ⟨q1, q2, -⟩ := h.growth (foot := ix a) (k := ix d) (m := ix e) (vb (isFoot_in h1)) (vb hd) p9 l0 l9 g2 (by omega)
    rw [← vx hd] at q1 q2
    exact ⟨q1, q2⟩
  · rw [if_neg h3, if_neg (fun q => h3 ((ge0_iff gf_neg).mp q))]
    exact rf (ref_of gf_neg h3)
theorem lo_grows {I : HI} (a b c d e : Int32) : Fr Pl I (fX5_grows I a b c d e).2 := by
  unfold fX5_grows
  split
  · (dsimp only; exact refuse5_lo)
  · rename_i h1
    have hf := vb (isFoot_in h1)
    split
    · (dsimp only; exact refuse5_lo)
    · split
      · exact growth_lo hf
      · (dsimp only; exact refuse5_lo)
theorem hi_grows {I : HI} (a b c d e : Int32) : Fr Ph I (fX6_grows I a b c d e).2 := by
  refine th_hi.trans ?_
  unfold fX6_grows fX6_grows_c5
  split
  · (dsimp only; exact refuse6_hi)
  · split
    · (dsimp only; exact refuse6_hi)
    · split
      · exact growsBy_hi
      · (dsimp only; exact refuse6_hi)
theorem sm_calm {I J : HI} (hR : R I J) (a b c e : Int32) : (fX5_calm I a b c e).1 = (fX6_calm J a b c e).1 ∧ R (fX5_calm I a b c e).2 (fX6_calm J a b c e).2 := by
  have h := hR.th (v := 0)
  unfold fX5_calm fX6_calm
  generalize up J 52 10 0 = K at h ⊢
  unfold fX6_calm_c5
  rw [isFoot6_eq, wrongGrowth_eq]
  by_cases h1 : fX5_isFoot a = 0
  · rw [if_pos h1, if_pos h1]; exact h.refuse ref1
  rw [if_neg h1, if_neg h1]
  by_cases h3 : fX5_growthFault b c e = 0
  · rw [if_pos h3, if_pos ((ge0_iff gf_neg).mpr h3)]
    obtain ⟨g1, g2⟩ := grow_in h3
    have g3 := vb (growthFault_in h3)
    obtain ⟨p, l, rfl, p0, p9, rfl, l0, l9⟩ := stroke_in g1
    have key := fo_sim (fun _ (s u : Int32 × HI) => s.1 = u.1 ∧ R s.2 u.2) (fun (i : Nat) (s : Int32 × HI) => fX5_calm_b38 a (nI p) (nI l) e i s.1 s.2) (fun (i : Nat) (s : Int32 × HI) => fX6_calm_b43 a (nI p) (nI l) e i s.1 s.2) 7 0 (0, I) (0, K) ⟨rfl, h⟩ (fun i s u _ hi q => by
      obtain ⟨x, S⟩ := s
      obtain ⟨y, K'⟩ := u
      obtain ⟨q1, q2⟩ := q
      dsimp only at q1 q2 ⊢
      subst q1
      obtain ⟨r1, r2, -⟩ := q2.growth (foot := ix a) (k := i) (m := ix e) (vb (isFoot_in h1)) (by omega) p9 l0 l9 g2 (by omega)
      unfold fX5_calm_b38 fX6_calm_b43
      rw [r1, Int32.or_zero]
      by_cases z : 0 < (fX6_growsBy K' (nI i) (ix a) (nI p) (nI l) (ix e)).1
      · rw [if_pos z, if_neg (Int32.not_le.mpr z)]
        exact ⟨rfl, r2⟩
      · rw [if_neg z, if_pos (Int32.not_lt.mp z)]
        exact ⟨rfl, r2⟩)
    exact key
  · rw [if_neg h3, if_neg (fun q => h3 ((ge0_iff gf_neg).mp q))]
    exact h.refuse (ref_of gf_neg h3)
theorem lo_calm {I : HI} (a b c e : Int32) : Fr Pl I (fX5_calm I a b c e).2 := by
  unfold fX5_calm
  split
  · exact refuse5_lo
  · rename_i h1
    have hf := vb (isFoot_in h1)
    split
    · refine fo_inv (fun _ (s : Int32 × HI) => Fr Pl I s.2) (fun (i : Nat) (s : Int32 × HI) => fX5_calm_b38 a b c e i s.1 s.2) 7 0 (0, I) Fr.refl (fun k s _ _ hs => ?_)
      unfold fX5_calm_b38
      split
      · exact hs.trans (growth_lo hf)
      · exact hs.trans (growth_lo hf)
    · exact refuse5_lo
theorem hi_calm {I : HI} (a b c e : Int32) : Fr Ph I (fX6_calm I a b c e).2 := by
  refine th_hi.trans ?_
  unfold fX6_calm fX6_calm_c5
  generalize up I 52 10 0 = K
  split
  · exact refuse6_hi
  · split
    · refine fo_inv (fun _ (s : Int32 × HI) => Fr Ph K s.2) (fun (i : Nat) (s : Int32 × HI) => fX6_calm_b43 a b c e i s.1 s.2) 7 0 (0, K) Fr.refl (fun k s _ _ hs => ?_)
      unfold fX6_calm_b43
      split
      · exact hs.trans growsBy_hi
      · exact hs.trans growsBy_hi
    · exact refuse6_hi
