def Cl (o : Option Nat) : Prop := ∀ i, o = some i → i < 18 ∨ (39 ≤ i ∧ i < 47 ∧ i % 2 = 1)
def Ml (o : Option Nat) (foot : Nat) : Nat := if o = some (39 + 2 * (2 * foot)) then 39 + 2 * ((2 * foot) + 1) else 39 + 2 * (2 * foot)
theorem Ml_ok {o : Option Nat} {foot : Nat} (hf : foot < 2) : 39 + 4 * foot ≤ Ml o foot ∧ Ml o foot ≤ 41 + 4 * foot ∧ Ml o foot % 2 = 1 ∧ ∀ i, o = some i → i ≠ Ml o foot := by
  unfold Ml
  by_cases h : o = some (39 + 2 * (2 * foot))
  · rw [if_pos h]
    refine ⟨by omega, by omega, by omega, fun i hi e => ?_⟩
    rw [h] at hi
    have := Option.some.inj hi
    omega
  · rw [if_neg h]
    refine ⟨by omega, by omega, by omega, fun i hi e => ?_⟩
    exact h (by rw [hi, e])
theorem line_eq {I : HI} {o : Option Nat} {kind push lean : Int32} {foot : Nat} : fX1_lineBehind I o kind foot push lean = (Ml o foot, fX3_skate (fX4_begin I (Ml o foot) (nI foot) push lean) (Ml o foot) kind o) := rfl
/-- one more line in mind, on both sides -/
theorem mind {I J : HI} (hE : Ev I J) {foot k p l : Nat} {o : Option Nat} (hL : La I J foot o) (hC : Cl o) (hf : foot < 2) (hk : k < 7) (hp : p ≤ 9) (hl : 0 < l) (hl9 : l ≤ 9) {T : Nat} (hT : J 52 5 = nI T) (hT9 : T < 29) : Fr (fun a => a < 39 ∨ 47 ≤ a) I (fX1_lineBehind I o (nI k) foot (nI p) (nI l)).2 ∧ (∀ h, h < 12 → (fX1_lineBehind I o (nI k) foot (nI p) (nI l)).2 ((fX1_lineBehind I o (nI k) foot (nI p) (nI l)).1 + 1) h = fX6_radiusBy J (nI k) foot (nI p) (nI l) h ∧ vp_in (fX6_radiusBy J (nI k) foot (nI p) (nI l) h) 1000) ∧ Ev (fX1_lineBehind I o (nI k) foot (nI p) (nI l)).2 (fX6_drawBy J (nI k) foot (nI p) (nI l)).2 ∧ La (fX1_lineBehind I o (nI k) foot (nI p) (nI l)).2 (fX6_drawBy J (nI k) foot (nI p) (nI l)).2 foot (some (fX1_lineBehind I o (nI k) foot (nI p) (nI l)).1) ∧ Cl (some (fX1_lineBehind I o (nI k) foot (nI p) (nI l)).1) ∧ (∀ g u, g < 2 → g ≠ foot → La I J g u → Cl u → (∀ i, u = some i → i < 18 ∨ i = 39 + 4 * g ∨ i = 41 + 4 * g) → La (fX1_lineBehind I o (nI k) foot (nI p) (nI l)).2 (fX6_drawBy J (nI k) foot (nI p) (nI l)).2 g u) ∧ (fX6_drawBy J (nI k) foot (nI p) (nI l)).2 52 5 = nI (T + 1) := by
  have hi5 : ix (J 52 5) = T := by rw [hT, ix_nI (by omega)]
  obtain ⟨m1, m2, m3, m4⟩ := Ml_ok (o := o) hf
  obtain ⟨d1, d2, d3, ⟨d4, d5, d6⟩, d7⟩ := draw6 (J := J) (foot := foot) (kind := nI k) (push := nI p) (lean := nI l) (by omega)
  rw [hi5] at d1 d2 d3 d4 d5 d6 d7
  have d8 : (fX6_drawBy J (nI k) foot (nI p) (nI l)).2 52 5 = nI (T + 1) := by rw [drawBy_tr, hT]; exact nv_iadd (b := 1) rfl rfl
  have hi6 : ix ((fX6_drawBy J (nI k) foot (nI p) (nI l)).2 52 5) = T + 1 := by rw [d8, ix_nI (by omega)]
  rw [line_eq]
  dsimp only
  generalize hj : Ml o foot = j at m1 m2 m3 m4
  have eb : ∀ a, a ≠ j → fX4_begin I j (nI foot) (nI p) (nI l) a = I a := fun a ha => by
    unfold fX4_begin
    rw [up_ne a ha, up_ne a ha, up_ne a ha]
  have hEb : Ev (fX4_begin I j (nI foot) (nI p) (nI l)) J := hE.c (by rw [eb 1 (by omega)]) (fun a ha => eb a (by omega)) rfl Fr.refl
  have hLb : La (fX4_begin I j (nI foot) (nI p) (nI l)) J foot o := hL.c (fun i hi => eb _ (by have := hC i hi; omega))
  have hsk := skate_eq hEb hLb hf hk hp hl hl9 (j := j) (by omega) m4 (by unfold fX4_begin; rw [up_k (by omega), up_k (by omega), up_v]) (by unfold fX4_begin; rw [up_k (by omega), up_v]) (by unfold fX4_begin; rw [up_v])
  have fr : ∀ a, a ≠ j → a ≠ j + 1 → fX3_skate (fX4_begin I j (nI foot) (nI p) (nI l)) j (nI k) o a = I a := fun a h1 h2 => by rw [skate_ne h2]; exact eb a h1
  have hfr : Fr (fun a => a < 39 ∨ 47 ≤ a) I (fX3_skate (fX4_begin I j (nI foot) (nI p) (nI l)) j (nI k) o) := fun a ha => fr a (by omega) (by omega)
  have hin : ∀ h, h < 12 → vp_in (fX6_radiusBy J (nI k) foot (nI p) (nI l) h) 1000 := fun h hh => radius_in hE hL hf hh hk hp hl hl9
  have hE2 : Ev (fX3_skate (fX4_begin I j (nI foot) (nI p) (nI l)) j (nI k) o) (fX6_drawBy J (nI k) foot (nI p) (nI l)).2 := hE.c (by rw [fr 1 (by omega) (by omega)]) (fun a ha => fr a (by omega) (by omega)) (drawBy_ne (by omega) (by omega)) (fun a ha => by funext b; exact drawBy_ne (by omega) (by omega))
  refine ⟨hfr, fun h hh => ⟨hsk h hh, hin h hh⟩, hE2, Or.inr ⟨T, j, ?_, by omega, rfl, fun h hh => ?_, fun h hh => ?_⟩, fun i hi => ?_, fun g u hg hne hu hcu hcu2 => ?_, d8⟩
  · rw [hi6, la6_s (by omega), if_pos d4]
  · rw [d2 h hh, hsk h hh]
  · rw [hsk h hh]; exact hin h hh
  · have := Option.some.inj hi
    omega
  · have hla : fX6_latestAhead (fX6_drawBy J (nI k) foot (nI p) (nI l)).2 (nI g) (T + 1) = fX6_latestAhead J (nI g) T := by
      rw [la6_s (by omega), if_neg (by rw [d4]; exact fun e => hne (nI_inj e (by omega) (by omega)).symm)]
      exact la6_congr T (by omega) (fun t ht => (d7 t (by omega)).1)
    unfold La at hu ⊢
    rw [hi5] at hu
    rw [hi6, hla]
    rcases hu with hu | ⟨t, i, e1, ht, e2, e3, e4⟩
    · exact Or.inl hu
    · have hle := latestAhead6_le (I := J) (foot := nI g) (t := T)
      have hc := hcu2 i e2
      refine Or.inr ⟨t, i, e1, ht, e2, fun h hh => ?_, fun h hh => ?_⟩
      · rw [fr _ (by omega) (by omega), d3 _ (by omega)]; exact e3 h hh
      · rw [fr _ (by omega) (by omega)]; exact e4 h hh
theorem R.la {I J : HI} (h : R I J) {foot : Nat} : La I J foot (fX3_latestOf I (nI foot)) ∧ Cl (fX3_latestOf I (nI foot)) ∧ ∀ i, fX3_latestOf I (nI foot) = some i → i < 18 := by
  have d6 := h.d6
  have hle := latestAhead6_le (I := J) (foot := nI foot) (t := ix (I 1 6))
  have e : fX3_latestOf I (nI foot) = lk (fX6_latestAhead J (nI foot) (ix (I 1 6))) := h.latest (Nat.le_refl _)
  have hi : ∀ i, fX3_latestOf I (nI foot) = some i → i < 18 := fun i hi => by
    rw [e] at hi
    unfold lk at hi
    split at hi
    · cases hi
    · have := Option.some.inj hi
      omega
  refine ⟨?_, fun i h2 => Or.inl (hi i h2), hi⟩
  unfold La
  rw [h.drawn, e]
  rcases Nat.eq_zero_or_pos (fX6_latestAhead J (nI foot) (ix (I 1 6))) with q | q
  · rw [q]; exact Or.inl ⟨rfl, rfl⟩
  · refine Or.inr ⟨fX6_latestAhead J (nI foot) (ix (I 1 6)) - 1, _, by omega, by omega, lk_pos q, h.li (by omega), fun k hk => h.radin (by omega) hk⟩
/-- what the model has kept of J, with T traces -/
def Mo (T : Nat) (J J' : HI) : Prop := (∀ a b, (a < 56 ∨ 59 < a) → ¬ (a = 52 ∧ (b = 5 ∨ b = 28)) → J' a b = J a b) ∧ (∀ b, b < 12 * T → J' 59 b = J 59 b) ∧ (∀ b, b < T → J' 56 b = J 56 b ∧ J' 57 b = J 57 b ∧ J' 58 b = J 58 b) ∧ ∀ t, t < 27 → vp_in (J' 56 t) 2
theorem R.mo0 {I J : HI} (h : R I J) {T : Nat} : Mo T J J := ⟨fun _ _ _ _ => rfl, fun _ _ => rfl, fun _ _ => ⟨rfl, rfl, rfl⟩, h.hF6⟩
theorem Mo.step {T : Nat} {J K : HI} (h : Mo T J K) {foot : Nat} {kind push lean : Int32} (hf : foot < 2) (hT : T ≤ ix (K 52 5)) (hT9 : ix (K 52 5) < 1000) : Mo T J (fX6_drawBy K kind foot push lean).2 := by
  obtain ⟨h1, h2, h3, h4⟩ := h
  obtain ⟨d1, d2, d3, ⟨d4, d5, d6⟩, d7⟩ := draw6 (J := K) (foot := foot) (kind := kind) (push := push) (lean := lean) hT9
  refine ⟨fun a b ha hb => ?_, fun b hb => ?_, fun b hb => ?_, fun t ht => ?_⟩
  · rw [drawBy_ne ha (by omega)]; exact h1 a b ha hb
  · rw [d3 b (by omega)]; exact h2 b hb
  · obtain ⟨e1, e2, e3⟩ := d7 b (by omega)
    rw [e1, e2, e3]; exact h3 b hb
  · by_cases q : t = ix (K 52 5)
    · rw [q, d4]; exact vp_nI hf (by omega)
    · rw [(d7 t q).1]; exact h4 t ht
theorem Mo.up5 {T : Nat} {J K : HI} (h : Mo T J K) {b : Nat} (hb : b = 5 ∨ b = 28) {x : Int32} : Mo T J (up K 52 b x) := by
  obtain ⟨h1, h2, h3, h4⟩ := h
  refine ⟨fun a c ha hc => ?_, fun c hc => ?_, fun c hc => ?_, fun t ht => ?_⟩
  · rw [up_o (by omega)]; exact h1 a c ha hc
  · rw [up_ne2 (by omega)]; exact h2 c hc
  · rw [up_ne2 (by omega), up_ne2 (by omega), up_ne2 (by omega)]; exact h3 c hc
  · rw [up_ne2 (by omega)]; exact h4 t ht
theorem R.mo {I J J' : HI} (h : R I J) (hm : Mo (ix (I 1 6)) J J') (h5 : J' 52 5 = J 52 5) : R I J' := by
  obtain ⟨h1, h2, h3, h4⟩ := hm
  refine h.m (fun a ha => by funext b; exact h1 a b (by omega) (by omega)) (fun b hb => ?_) (fun t ht => ?_) h4
  · by_cases q : b = 5
    · rw [q]; exact h5
    · exact h1 52 b (by omega) (by omega)
  · obtain ⟨e1, e2, e3⟩ := h3 t ht
    exact ⟨e1, e2, e3, fun k hk => h2 _ (by omega)⟩
theorem Mo.ev {I J J' : HI} {T : Nat} (hE : Ev I J) (h : Mo T J J') : Ev I J' := hE.c rfl Fr.refl (h.1 52 4 (by omega) (by omega)) (fun a ha => by funext b; exact h.1 a b (by omega) (by omega))
theorem off_line {I J : HI} {j T : Nat} {kind push lean : Int32} {foot : Nat} {J' : HI} (hr : ∀ h, h < 12 → I (j + 1) h = fX6_radiusBy J kind foot push lean h) (hd : ∀ h, h < 12 → J' 59 (12 * T + h) = fX6_radiusBy J kind foot push lean h) : Li I j J' T := fun h hh => (hd h hh).trans (hr h hh).symm
theorem stroke_in {x y : Int32} (h : fX5_strokeFault x y = 0) : ∃ p l, x = nI p ∧ 0 < p ∧ p ≤ 9 ∧ y = nI l ∧ 0 < l ∧ l ≤ 9 := by
  unfold fX5_strokeFault at h
  split at h
  · exact absurd h (by decide)
  · rename_i c1
    split at h
    · rename_i c2
      split at h
      · exact absurd h (by decide)
      · rename_i c3
        split at h
        · rename_i c4
          have c1' := Int32.not_lt.mp c1
          have c3' := Int32.not_lt.mp c3
          have v1 : vp_in x 10 := vp_of (a := 9) (Int32.le_trans (by decide) c1') c3' (by omega) (by omega)
          have v2 : vp_in y 10 := vp_of (a := 9) (Int32.le_trans (by decide) c2) c4 (by omega) (by omega)
          have b1 := vb v1
          have b2 := vb v2
          have e1 := vx v1
          have e2 := vx v2
          refine ⟨ix x, ix y, e1, ?_, by omega, e2, ?_, by omega⟩
          · refine Nat.pos_of_ne_zero (fun q => ?_)
            rw [q] at e1
            rw [e1] at c1
            exact c1 (by decide)
          · refine Nat.pos_of_ne_zero (fun q => ?_)
            rw [q] at e2
            rw [e2] at c2
            exact absurd c2 (by decide)
        · exact absurd h (by decide)
    · exact absurd h (by decide)
theorem R.kin {I J : HI} (h : R I J) : ∃ k, k < 7 ∧ I 1 3 = nI k := ⟨ix (I 1 3), vb h.1.2.1.1, vx h.1.2.1.1⟩
theorem R.nextOff {I J : HI} (h : R I J) {foot k p l : Nat} (hf : foot < 2) (hk : k < 7) (hp : p ≤ 9) (hl : 0 < l) (hl9 : l ≤ 9) : (fX1_nextOff I (nI k) foot (nI p) (nI l)).1 = (fX6_offBy J (nI k) foot (nI p) (nI l)).1 ∧ R (fX1_nextOff I (nI k) foot (nI p) (nI l)).2 (fX6_offBy J (nI k) foot (nI p) (nI l)).2 ∧ Fr (fun a => a < 39 ∨ 47 ≤ a) I (fX1_nextOff I (nI k) foot (nI p) (nI l)).2 := by
  obtain ⟨hL, hC, -⟩ := h.la (foot := foot)
  have d6 := h.d6
  have hT : J 52 5 = nI (ix (I 1 6)) := by rw [h.drawn]; exact vx h.hd
  obtain ⟨m1, m2, m3, m4, m5, m6, m7⟩ := mind h.ev hL hC hf hk hp hl hl9 hT (by omega)
  have hi5 : ix (J 52 5) = ix (I 1 6) := by rw [h.drawn]
  obtain ⟨d1, d2, -⟩ := draw6 (J := J) (foot := foot) (kind := nI k) (push := nI p) (lean := nI l) (by omega)
  unfold fX1_nextOff fX1_nextBy fX6_offBy
  dsimp only
  have h5 : (fX6_drawBy J (nI k) foot (nI p) (nI l)).2 52 5 - 1 = J 52 5 := by
    rw [m7, hT]; exact nv_isub (b := 1) rfl rfl (by omega)
  rw [h5, d1]
  have hmo := ((h.mo0 (T := ix (I 1 6))).step (kind := nI k) (push := nI p) (lean := nI l) hf (by omega) (by omega)).up5 (b := 5) (x := J 52 5) (Or.inl rfl)
  refine ⟨?_, (h.mo hmo up_v).mi (m1.sub (fun a ha => by have : a < 36 ∨ 47 ≤ a := ha; omega)), m1⟩
  refine (off_eq (off_line (fun h hh => (m2 h hh).1) (fun h hh => ?_)) ?_).symm
  · rw [up_ne2 (by omega)]; exact d2 h hh
  · rw [up_ne2 (by omega)]
    exact m3.1.2.1
