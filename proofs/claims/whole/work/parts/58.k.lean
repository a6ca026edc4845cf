theorem up_comm {I : HI} {j k j' k' : Nat} {x y : Int32} (h : j ≠ j') : up (up I j k x) j' k' y = up (up I j' k' y) j k x := by
  funext a b
  unfold up
  by_cases h1 : a = j
  · subst h1; simp [h]
  · by_cases h2 : a = j'
    · subst h2; simp [h1]
    · simp [h1, h2]
theorem up_comm2 {I : HI} {j k k' : Nat} {x y : Int32} (h : k ≠ k') : up (up I j k x) j k' y = up (up I j k' y) j k x := by
  funext a b
  unfold up
  by_cases h1 : a = j
  · subst h1
    by_cases h2 : b = k
    · subst h2; simp [h]
    · simp [h2]
  · simp [h1]
theorem rad_congr2 {J J' : HI} {foot h : Nat} {kind push lean : Int32} (h4 : J' 52 4 = J 52 4) (h5 : J' 52 5 = J 52 5) (h1 : ∀ a, 53 ≤ a → a ≤ 56 → J' a = J a) (h2 : ∀ b, b < 12 * ix (J 52 5) → J' 59 b = J 59 b) (hT : ix (J 52 5) < 1000) (hh : h < 12) : fX6_radiusBy J' kind foot push lean h = fX6_radiusBy J kind foot push lean h := by
  have e53 := h1 53 (by omega) (by omega)
  have e54 := h1 54 (by omega) (by omega)
  have e55 := h1 55 (by omega) (by omega)
  have e56 := h1 56 (by omega) (by omega)
  have ep : fX6_paceAt J' foot push h = fX6_paceAt J foot push h := by
    unfold fX6_paceAt fX6_paceAt_x9
    refine fo_congr _ _ _ 1 _ (fun k s _ _ => ?_)
    unfold fX6_paceAt_b9
    rw [e53, e55]
  have el : ∀ plain g, g < 12 → fX6_lookedAt J' plain (nI foot) g = fX6_lookedAt J plain (nI foot) g := fun plain g hg => by
    unfold fX6_lookedAt
    have hle := latestAhead6_le (I := J) (foot := nI foot) (t := ix (J 52 5))
    rw [h5, la6_congr (J := J) (J' := J') _ hT (fun t _ => by rw [e56])]
    split
    · rename_i q
      have := pred_pos2 q
      rw [h2 _ (by omega)]
    · rfl
  unfold fX6_radiusBy fX6_wobbledBy fX6_strays
  rw [ep, el _ h hh, el _ ((h + 11) % 12) (by omega), h4, e54, e55]
theorem R.drawUp {I' K : HI} {x kind push lean : Int32} {foot d : Nat} (hd : ix (K 52 5) = d) (hd9 : d < 900) (h6 : ix (I' 1 6) = d + 1) (h : R I' (fX6_drawBy (up K 52 13 x) kind foot push lean).2) : R I' (up (fX6_drawBy K kind foot push lean).2 52 13 x) := by
  have hu5 : up K 52 13 x 52 5 = K 52 5 := up_k (by omega)
  obtain ⟨a1, a2, a3, ⟨a4, a5, a6⟩, a7⟩ := draw6 (J := K) (foot := foot) (kind := kind) (push := push) (lean := lean) (by omega)
  obtain ⟨b1, b2, b3, ⟨b4, b5, b6⟩, b7⟩ := draw6 (J := up K 52 13 x) (foot := foot) (kind := kind) (push := push) (lean := lean) (by rw [hu5]; omega)
  rw [hu5, hd] at b1 b2 b3 b4 b5 b6 b7
  rw [hd] at a1 a2 a3 a4 a5 a6 a7
  have e56 : ∀ t, up (fX6_drawBy K kind foot push lean).2 52 13 x 56 t = (fX6_drawBy (up K 52 13 x) kind foot push lean).2 56 t := fun t => by
    rw [up_ne2 (by omega)]
    by_cases q : t = d
    · rw [q, a4, b4]
    · rw [(a7 t q).1, (b7 t q).1, up_ne2 (by omega)]
  refine h.m (fun a ha => ?_) (fun b hb => ?_) (fun t ht => ?_) (fun t ht => by rw [e56]; exact h.hF6 t ht)
  · funext b
    rw [up_ne2 (by omega), drawBy_ne (by omega) (by omega), drawBy_ne (by omega) (by omega), up_ne2 (by omega)]
  · by_cases q : b = 13
    · rw [q, up_v, drawBy_ne (by omega) (by omega), up_v]
    · rw [up_k q]
      by_cases q5 : b = 5
      · rw [q5, drawBy_tr, drawBy_tr, hu5]
      · rw [drawBy_ne (by omega) (by omega), drawBy_ne (by omega) (by omega), up_k q]
  · refine ⟨e56 t, ?_, ?_, fun g hg => ?_⟩
    · rw [up_ne2 (by omega)]
      by_cases q : t = d
      · rw [q, a5, b5]
      · rw [(a7 t q).2.1, (b7 t q).2.1, up_ne2 (by omega)]
    · rw [up_ne2 (by omega)]
      by_cases q : t = d
      · rw [q, a6, b6]
      · rw [(a7 t q).2.2, (b7 t q).2.2, up_ne2 (by omega)]
    · rw [up_ne2 (by omega)]
      by_cases q : t = d
      · rw [q, a2 g hg, b2 g hg]
        exact (rad_congr2 (up_k (by omega)) hu5 (fun a h1 h2 => up_ne a (by omega)) (fun b _ => up_ne2 (by omega)) (by omega) hg).symm
      · rw [a3 _ (by omega), b3 _ (by omega), up_ne2 (by omega)]
/-! what a digit is -/
theorem dig_in {I : HI} {q : Nat} (h : ¬ fX5_within (cs I q) 48 57 = 0) : vp_in (cs I q - 48) 10 := by
  have v := within_in2 (a := 48) (b := 57) h (by omega) (by omega)
  have b := vb v
  have hge : 48 ≤ ix (cs I q) := by
    unfold fX5_within at h
    rcases Nat.lt_or_ge (ix (cs I q)) 48 with z | z
    · exfalso
      apply h
      rw [if_pos]
      rw [vx v]
      exact nI_lt (b := 48) z (by omega)
    · exact z
  rw [show cs I q - 48 = nI (ix (cs I q) - 48) from nv_isub (b := 48) (vx v) rfl hge]
  exact vp_nI (by omega) (by omega)
theorem nm2_in {I : HI} {q : Nat} (h1 : ¬ fX5_within (cs I q) 48 57 = 0) (h2 : ¬ fX5_within (cs I (q + 1)) 48 57 = 0) : vp_in (nm I q 2) 100 := by
  have a := dig_in h1
  have b := dig_in h2
  have ba := vb a
  have bb := vb b
  rw [nm2, show (10 : Int32) * (cs I q - 48) + (cs I (q + 1) - 48) = nI (10 * ix (cs I q - 48) + ix (cs I (q + 1) - 48)) from nv_iadd (nv_imul (a := 10) rfl (vx a)) (vx b)]
  exact vp_nI (by omega) (by omega)
theorem pln_dn {I : HI} {d p : Nat} (h : ¬ (pln I d p).1 = 0) : dn I d (p + 1) = d := by
  have hl := dn_le (S := I) d (p + 1)
  unfold pln at h
  by_cases z : dn I d (p + 1) < d
  · rw [if_pos z] at h; exact absurd rfl h
  · omega
theorem set_num {I : HI} {q : Nat} (hq : q < 300) (h : ¬ (stS I q).1 = 0) : fX0_settingNumber I (nI q) = nm I (q + 3) (dn I 3 (q + 3)) ∧ ¬ fX5_within (cs I (q + 1)) 48 57 = 0 := by
  unfold stS at h
  have hl := dn_le (S := I) 3 (q + 3)
  have hl1 := dn_le (S := I) 1 (q + 1)
  by_cases q1 : dn I 1 (q + 1) < 1
  · rw [if_pos q1] at h; exact absurd rfl h
  rw [if_neg q1] at h
  by_cases q2 : cs I (q + 2) = 61
  · rw [if_pos q2] at h
    by_cases q3 : dn I 3 (q + 3) < 1
    · rw [if_pos q3] at h; exact absurd rfl h
    rw [if_neg q3] at h
    by_cases q4 : cs I (q + 3 + dn I 3 (q + 3)) = 59
    · refine ⟨?_, dn_dig 1 (q + 1) (by omega) 0 (by omega)⟩
      have key : ∀ n x, x + n = 3 → 1 ≤ x → x ≤ dn I 3 (q + 3) → wh (n + 1) (fun (s : Nat) => fX0_settingNumber_b2 I (nI q) s) x = dn I 3 (q + 3) := by
        intro n
        induction n with
        | zero =>
          intro x hx h1 h2
          rw [wh_s]
          have e : fX0_settingNumber_b2 I (nI q) x = .inl x := by
            unfold fX0_settingNumber_b2
            rw [if_pos (show (3 : Int32) ≤ nI x from nI_le (a := 3) (by omega) (by omega))]
          rw [e]
          show x = _
          omega
        | succ n ih =>
          intro x hx h1 h2
          rw [wh_s]
          have e : fX0_settingNumber_b2 I (nI q) x = if cs I (q + 3 + x) = 59 then .inl x else .inr (x + 1) := by
            unfold fX0_settingNumber_b2
            rw [if_neg (show ¬ (3 : Int32) ≤ nI x from nI_ge (b := 3) (by omega) (by omega)), show nI q + 3 + nI x = nI (q + 3 + x) from nv_iadd (nv_iadd (b := 3) rfl rfl) rfl]
            rfl
          rw [e]
          rcases Nat.lt_or_ge x (dn I 3 (q + 3)) with y | y
          · have hne : ¬ cs I (q + 3 + x) = 59 := fun z => by
              have w : ¬ fX5_within (cs I (q + 3 + x)) 48 57 = 0 := by
                have hd : dn I (dn I 3 (q + 3)) (q + 3) = dn I 3 (q + 3) := by
                  have g2 : ∀ m, dn I m (q + 3) = m → ∀ k, k ≤ m → dn I k (q + 3) = k := fun m => by
                    induction m with
                    | zero => intro _ k hk; have : k = 0 := by omega
                              subst this; rfl
                    | succ m ih => intro hm k hk
                                   rcases Nat.lt_or_ge k (m + 1) with a | a
                                   · exact ih (dn_dec hm) k (by omega)
                                   · rw [show k = m + 1 by omega]; exact hm
                  have s2 := dn_s (S := I) 2 (q + 3)
                  have s1 := dn_s (S := I) 1 (q + 3)
                  have s0 := dn_s (S := I) 0 (q + 3)
                  have e3 : dn I (2 + 1) (q + 3) = dn I 3 (q + 3) := rfl
                  have e2 : dn I (1 + 1) (q + 3) = dn I 2 (q + 3) := rfl
                  have e1 : dn I (0 + 1) (q + 3) = dn I 1 (q + 3) := rfl
                  have e0 : dn I 0 (q + 3) = 0 := rfl
                  by_cases z3 : dn I 2 (q + 3) = 2 ∧ ¬ fX5_within (cs I (q + 3 + 2)) 48 57 = 0
                  · rw [if_pos z3] at s2
                    rw [← e3, s2]; exact s2
                  · rw [if_neg z3] at s2
                    by_cases z2 : dn I 1 (q + 3) = 1 ∧ ¬ fX5_within (cs I (q + 3 + 1)) 48 57 = 0
                    · rw [if_pos z2] at s1
                      rw [← e3, s2, ← e2, s1]; exact s1
                    · rw [if_neg z2] at s1
                      by_cases z1 : dn I 0 (q + 3) = 0 ∧ ¬ fX5_within (cs I (q + 3 + 0)) 48 57 = 0
                      · rw [if_pos z1] at s0
                        rw [← e3, s2, ← e2, s1, ← e1, s0]; exact s0
                      · rw [if_neg z1] at s0
                        omega
                exact dn_dig _ _ hd x y
              rw [z] at w
              exact absurd (show fX5_within 59 48 57 = 0 by decide) w
            rw [if_neg hne]
            exact ih (x + 1) (by omega) (by omega) (by omega)
          · rw [show x = dn I 3 (q + 3) by omega, if_pos q4]
            rfl
      unfold fX0_settingNumber fX0_settingNumber_x2
      rw [show (3 : Nat) = 2 + 1 from rfl, key 2 1 (by omega) (by omega) (by omega), show nI q + 3 = nI (q + 3) from nv_iadd (b := 3) rfl rfl]
      exact numberAt_nm _
    · rw [if_neg q4] at h; exact absurd rfl h
  · rw [if_neg q2] at h; exact absurd rfl h
