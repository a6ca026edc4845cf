theorem R.add {I J : HI} (h : R I J) {foot k p l d : Nat} (hf : foot < 2) (hk : I 1 3 = nI k) (hk7 : k < 7) (hp : p ≤ 9) (hl : 0 < l) (hl9 : l ≤ 9) (hd : I 1 6 = nI d) (hd6 : d < 6) : (fX3_addTrace I foot (nI p) (nI l)).1 = nI d ∧ R (fX3_addTrace I foot (nI p) (nI l)).2 (fX6_drawBy J (nI k) foot (nI p) (nI l)).2 := by
  have hid : ix (I 1 6) = d := by rw [hd, ix_nI (by omega)]
  have hJd : J 52 5 = nI d := by rw [h.drawn, hd]
  have hJi : ix (J 52 5) = d := by rw [hJd, ix_nI (by omega)]
  unfold fX3_addTrace
  rw [if_pos (by rw [hd]; exact nI_lt (b := 6) hd6 (by omega))]
  unfold fX3_addTrace_c31
  rw [hid]
  have eb : ∀ a, a ≠ 6 + 2 * d → fX4_begin I (6 + 2 * d) (nI foot) (nI p) (nI l) a = I a := fun a ha => by
    unfold fX4_begin
    rw [up_ne a ha, up_ne a ha, up_ne a ha]
  have b0 : fX4_begin I (6 + 2 * d) (nI foot) (nI p) (nI l) (6 + 2 * d) 0 = nI foot := by unfold fX4_begin; rw [up_k (by omega), up_k (by omega), up_v]
  have b1 : fX4_begin I (6 + 2 * d) (nI foot) (nI p) (nI l) (6 + 2 * d) 1 = nI p := by unfold fX4_begin; rw [up_k (by omega), up_v]
  have b2 : fX4_begin I (6 + 2 * d) (nI foot) (nI p) (nI l) (6 + 2 * d) 2 = nI l := by unfold fX4_begin; rw [up_v]
  generalize fX4_begin I (6 + 2 * d) (nI foot) (nI p) (nI l) = B at eb b0 b1 b2 ⊢
  have e1 : B 1 = I 1 := eb 1 (by omega)
  have hlo : fX3_latestOf B (nI foot) = lk (fX6_latestAhead J (nI foot) d) := by
    unfold fX3_latestOf
    rw [e1, hid, latest3 (by rw [e1, hid]; exact Nat.le_refl _)]
    exact lat_eq d (by omega) (fun t ht => by rw [eb _ (by omega)]; exact h.foot (by omega))
  have hle := latestAhead6_le (I := J) (foot := nI foot) (t := d)
  have hoi : ∀ i, lk (fX6_latestAhead J (nI foot) d) = some i → ∃ t, t < d ∧ i = 6 + 2 * t := fun i hi => by
    unfold lk at hi
    split at hi
    · cases hi
    · have := Option.some.inj hi
      exact ⟨fX6_latestAhead J (nI foot) d - 1, by omega, by omega⟩
  have hLI : La I J foot (lk (fX6_latestAhead J (nI foot) d)) := by
    have q := (h.la (foot := foot)).1
    rw [show fX3_latestOf I (nI foot) = lk (fX6_latestAhead J (nI foot) (ix (I 1 6))) from h.latest (Nat.le_refl _), hid] at q
    exact q
  rw [e1, hk, hlo]
  generalize lk (fX6_latestAhead J (nI foot) d) = o at hoi hLI ⊢
  have hEb : Ev B J := h.ev.c (by rw [e1]) (fun a ha => eb a (by omega)) rfl Fr.refl
  have hLb : La B J foot o := hLI.c (fun i hi => eb _ (by obtain ⟨t, ht, e⟩ := hoi i hi; omega))
  have hsk := skate_eq hEb hLb hf hk7 hp hl hl9 (j := 6 + 2 * d) (by omega) (fun i hi => by obtain ⟨t, ht, e⟩ := hoi i hi; omega) b0 b1 b2
  have hin : ∀ g, g < 12 → vp_in (fX6_radiusBy J (nI k) foot (nI p) (nI l) g) 1000 := fun g hg => radius_in hEb hLb hf hg hk7 hp hl hl9
  have hsn : ∀ a, a ≠ 6 + 2 * d + 1 → fX3_skate B (6 + 2 * d) (nI k) o a = B a := fun a ha => skate_ne ha
  generalize fX3_skate B (6 + 2 * d) (nI k) o = S at hsk hsn ⊢
  have s1 : S 1 = I 1 := by rw [hsn 1 (by omega), e1]
  rw [up_v, s1, hd, show nI d + 1 = nI (d + 1) from nv_iadd (b := 1) rfl rfl, show nI (d + 1) - 1 = nI d from nv_isub (b := 1) rfl rfl (by omega)]
  refine ⟨rfl, ?_⟩
  dsimp only
  obtain ⟨g1, g2, g3, ⟨g4, g5, g6⟩, g7⟩ := draw6 (J := J) (foot := foot) (kind := nI k) (push := nI p) (lean := nI l) (by omega)
  rw [hJi] at g1 g2 g3 g4 g5 g6 g7
  have hmo := (h.mo0 (T := d)).step (kind := nI k) (push := nI p) (lean := nI l) hf (by omega) (by omega)
  have hne : ∀ a b, (a < 56 ∨ 59 < a) → ¬ (a = 52 ∧ b = 5) → (fX6_drawBy J (nI k) foot (nI p) (nI l)).2 a b = J a b := fun a b h1 h2 => drawBy_ne h1 h2
  have h5 : (fX6_drawBy J (nI k) foot (nI p) (nI l)).2 52 5 = nI (d + 1) := by rw [drawBy_tr, hJd]; exact nv_iadd (b := 1) rfl rfl
  generalize (fX6_drawBy J (nI k) foot (nI p) (nI l)).2 = D at g2 g3 g4 g5 g6 g7 hmo hne h5 ⊢
  have es : ∀ a, a ≠ 6 + 2 * d → a ≠ 6 + 2 * d + 1 → a ≠ 1 → up S 1 6 (nI (d + 1)) a = I a := fun a h1 h2 h3 => by rw [up_ne a h3, hsn a h2, eb a h1]
  have ej : up S 1 6 (nI (d + 1)) (6 + 2 * d) = B (6 + 2 * d) := by rw [up_ne _ (by omega), hsn _ (by omega)]
  have ej1 : ∀ g, up S 1 6 (nI (d + 1)) (6 + 2 * d + 1) g = S (6 + 2 * d + 1) g := fun g => up_ne2 (by omega)
  have e6 : up S 1 6 (nI (d + 1)) 1 6 = nI (d + 1) := up_v
  have e16 : ∀ b, b ≠ 6 → up S 1 6 (nI (d + 1)) 1 b = I 1 b := fun b hb => by rw [up_k hb, s1]
  generalize up S 1 6 (nI (d + 1)) = U at es ej ej1 e6 e16 ⊢
  obtain ⟨⟨⟨a1, a2, a3⟩, a4, a5, a6, a7⟩, ⟨c1, c2, c3, c4, c5, c6, c7⟩, -⟩ := h.1
  refine h.ra ⟨⟨⟨?_, ?_, ?_⟩, ?_, ?_, ?_, ?_⟩, ⟨?_, ?_, ?_, ?_, ?_, ?_, ?_⟩, hmo.2.2.2⟩ (fun a ha => es a (by omega) (by omega) (by omega)) (fun a ha => by funext b; exact hne a b (by omega) (by omega)) (fun b hb => hne 52 b (by omega) (by omega))
  · rw [hne _ _ (by omega) (by omega), e16 3 (by omega)]; exact a1
  · rw [hne _ _ (by omega) (by omega), e16 4 (by omega)]; exact a2
  · rw [h5, e6]
  · intro i hi; rw [hne _ _ (by omega) (by omega), es _ (by omega) (by omega) (by omega)]; exact a4 i hi
  · intro i hi; rw [hne _ _ (by omega) (by omega), es _ (by omega) (by omega) (by omega)]; exact a5 i hi
  · intro i hi; rw [hne _ _ (by omega) (by omega), es _ (by omega) (by omega) (by omega)]; exact a6 i hi
  · intro t ht
    rw [e6, ix_nI (by omega)] at ht
    by_cases q : t = d
    · rw [q, show 1 + 5 + 2 * d = 6 + 2 * d from rfl, ej, b0, b1, b2]
      exact ⟨g4, g5, g6, fun g hg => by rw [g2 g hg, ej1, hsk g hg]⟩
    · obtain ⟨z1, z2, z3⟩ := g7 t q
      rw [z1, z2, z3, es _ (by omega) (by omega) (by omega), es (1 + 5 + 2 * t + 1) (by omega) (by omega) (by omega)]
      obtain ⟨y1, y2, y3, y4⟩ := a7 t (by omega)
      exact ⟨y1, y2, y3, fun g hg => by rw [g3 _ (by omega)]; exact y4 g hg⟩
  · rw [e16 3 (by omega)]; exact c1
  · rw [e16 4 (by omega)]; exact c2
  · rw [e6]; exact vp_nI (by omega) (by omega)
  · intro i hi; rw [es _ (by omega) (by omega) (by omega)]; exact c4 i hi
  · intro i hi; rw [es _ (by omega) (by omega) (by omega)]; exact c5 i hi
  · rw [es _ (by omega) (by omega) (by omega)]; exact c6
  · intro t ht
    by_cases q : t = d
    · rw [q, show 1 + 5 + 2 * d = 6 + 2 * d from rfl, ej, b0]
      exact ⟨vp_nI hf (by omega), fun g hg => by rw [ej1, hsk g hg]; exact hin g hg⟩
    · rw [es _ (by omega) (by omega) (by omega), es (1 + 5 + 2 * t + 1) (by omega) (by omega) (by omega)]
      exact c7 t ht
theorem fsf {a b c : Int32} (h1 : ¬ fX5_isFoot a = 0) : fX5_footAndStrokeFault a b c = fX5_strokeFault b c := by unfold fX5_footAndStrokeFault; rw [if_neg h1]
theorem fsf0 {a b c : Int32} (h1 : fX5_isFoot a = 0) : fX5_footAndStrokeFault a b c = -1 := by unfold fX5_footAndStrokeFault; rw [if_pos h1]
theorem sm_draw {I J : HI} (hR : R I J) (a b c : Int32) : (fX5_draw I a b c).1 = (fX6_draw J a b c).1 ∧ R (fX5_draw I a b c).2 (fX6_draw J a b c).2 := by
  have h := hR.th (v := 0)
  unfold fX5_draw fX6_draw
  generalize up J 52 10 0 = K at h ⊢
  unfold fX6_draw_c5
  rw [isFoot6_eq, wrongTwo_eq]
  by_cases h1 : fX5_isFoot a = 0
  · rw [fsf0 h1, if_neg (by decide), if_pos h1]; exact h.refuse ref1
  rw [fsf h1, if_neg h1]
  by_cases h2 : fX5_strokeFault b c = 0
  · rw [if_pos h2, if_pos h2]
    obtain ⟨p, l, rfl, p0, p9, rfl, l0, l9⟩ := stroke_in h2
    obtain ⟨k, hk, ek⟩ := h.kin
    have hf := isFoot_in h1
    by_cases h3 : I 1 6 < 6
    · have hd := h.hd
      have l1 : ix (I 1 6) < 6 := by
        rcases Nat.lt_or_ge (ix (I 1 6)) 6 with q | q
        · exact q
        · rw [vx hd] at h3
          exact absurd h3 (nI_nlt (b := 6) q (by have := vb hd; omega))
      rw [if_pos h3, if_neg (fun q => by rw [h.drawn] at q; rw [q] at h3; exact absurd h3 (by decide)), h.kind, ek]
      obtain ⟨r1, r2⟩ := h.add (foot := ix a) (p := p) (l := l) (vb hf) ek hk p9 l0 l9 (vx hd) l1
      refine ⟨?_, r2⟩
      dsimp only
      rw [r1, (draw6 (J := K) (by rw [h.drawn]; omega)).1, h.drawn]
    · have q6 : I 1 6 = 6 := by
        have q := vx h.hd
        have q3 := vb h.hd
        rcases Nat.lt_or_ge (ix (I 1 6)) 6 with q2 | q2
        · exact absurd (by rw [q]; exact nI_lt (b := 6) q2 (by omega)) h3
        · rw [show ix (I 1 6) = 6 by omega] at q
          exact q
      rw [if_neg h3, if_pos (h.drawn.trans q6)]
      exact h.refuse ref6
  · rw [if_neg h2, if_neg h2]
    exact h.refuse (ref_of sf_neg h2)
theorem skate_fr {P : Nat → Prop} {I : HI} {j : Nat} {kind : Int32} {o : Option Nat} (h : ¬ P (j + 1)) : Fr P I (fX3_skate I j kind o) := fun a ha => skate_ne (fun e => h (by rw [← e]; exact ha))
theorem begin_fr {P : Nat → Prop} {I : HI} {j : Nat} {a b c : Int32} (h : ¬ P j) : Fr P I (fX4_begin I j a b c) := ((Fr.refl.put h).put h).put h
theorem add_lo {I : HI} {foot : Nat} {push lean : Int32} (hd : vp_in (I 1 6) 7) : Fr Pl I (fX3_addTrace I foot push lean).2 := by
  have b := vb hd
  unfold fX3_addTrace
  split
  · unfold fX3_addTrace_c31
    exact fl ((begin_fr (P := Pl) (by show ¬ 52 ≤ _; omega)).trans (skate_fr (P := Pl) (by show ¬ 52 ≤ _; omega))) (by omega)
  · exact Fr.refl
theorem draw6_hi {J : HI} {kind push lean : Int32} {foot : Nat} : Fr Ph J (fX6_drawBy J kind foot push lean).2 := fun a ha => by
  have : a < 52 := ha
  funext b
  exact drawBy_ne (by omega) (by omega)
theorem hi_draw {I : HI} (a b c : Int32) : Fr Ph I (fX6_draw I a b c).2 := by
  refine th_hi.trans ?_
  unfold fX6_draw fX6_draw_c5
  split
  · exact refuse6_hi
  · split
    · split
      · exact refuse6_hi
      · exact draw6_hi
    · exact refuse6_hi
theorem lo_draw' {I : HI} (hd : vp_in (I 1 6) 7) (a b c : Int32) : Fr Pl I (fX5_draw I a b c).2 := by
  unfold fX5_draw
  split
  · split
    · exact add_lo hd
    · exact refuse5_lo
  · exact refuse5_lo
