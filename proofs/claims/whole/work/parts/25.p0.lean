theorem foE_inv2 {σ ρ : Type} (P : Nat → σ → Prop) (Q : ρ → Prop) (f : Nat → σ → ρ ⊕ σ) (k : σ → ρ) (m : Nat) (h1 : ∀ i s r, i < m → P i s → f i s = .inl r → Q r) (h2 : ∀ i s t, i < m → P i s → f i s = .inr t → P (i + 1) t) (h3 : ∀ s, P m s → Q (k s)) : ∀ n i s, i + n = m → P i s → Q (foE n i f k s)
  | 0, i, s, e, h => by rw [foE_0]; exact h3 s (by rw [← e]; exact h)
  | n + 1, i, s, e, h => by
    rw [foE_s]
    cases hf : f i s with
    | inl r => exact h1 i s r (by omega) h hf
    | inr t => exact foE_inv2 P Q f k m h1 h2 h3 n (i + 1) t (by omega) (h2 i s t (by omega) h hf)
theorem signAt_in {I : HI} {p : Int32} (hm : vp_in (I 47 1) 97) (h : ¬ fX0_signAt I p = -9) : vp_in p 96 ∧ ix p < ix (I 47 1) := by
  unfold fX0_signAt at h
  split at h
  · exact absurd rfl h
  · rename_i c1
    split at h
    · exact absurd rfl h
    · rename_i c2
      have ha : vp_in p 96 := in_lt c1 c2 hm (by omega)
      refine ⟨ha, ?_⟩
      have b1 := vb ha
      have b2 := vb hm
      rw [vx hm, vx ha] at c2
      exact lt_of_nnle c2 (by omega)
theorem ne_m9 {x y : Int32} (h : x = y) (hy : ¬ y = -9) : ¬ x = -9 := by rw [h]; exact hy
theorem within_ne {x : Int32} (h : ¬ fX5_within x 48 57 = 0) : ¬ x = -9 := fun e => by
  rw [e] at h
  exact h (by unfold fX5_within; exact if_pos (by decide))
def plS (I : HI) : Prop := vp_in (I 47 4) 97 ∧ ix (I 47 4) ≤ ix (I 47 1)
theorem plS_step {I : HI} (hm : vp_in (I 47 1) 97) (h : ¬ fX0_signAt I (I 47 4) = -9) : plS (up I 47 4 ((I 47 4) + 1)) := by
  have h2 := signAt_in hm h
  have b1 := vb h2.1
  have e : (I 47 4) + 1 = nI (ix (I 47 4) + 1) := nv_iadd (b := 1) (vx h2.1) rfl
  refine ⟨?_, ?_⟩
  · rw [up_v, e]; exact vp_nI (by omega) (by omega)
  · rw [up_v, e, ix_nI (by omega), up_k (by omega)]; exact h2.2
theorem plS_sign {I : HI} {sign : Int32} (hm : vp_in (I 47 1) 97) (hs : ¬ sign = -9) (h : plS I) : plS (fX0_passSign I sign).2 := by
  unfold fX0_passSign
  split
  · rename_i c; exact plS_step hm (ne_m9 c hs)
  · exact h
theorem up4_hm {I : HI} {v : Int32} (hm : vp_in (I 47 1) 97) : vp_in ((up I 47 4 v) 47 1) 97 := by rw [up_k (by omega)]; exact hm
theorem plS_digits {I : HI} {least : Int32} {most : Nat} (hm : vp_in (I 47 1) 97) (h : plS I) : plS (fX0_passDigits I least most).2 := by
  have h2 := wh_inv (fun s : Nat × HI => vp_in (s.2 47 1) 97 ∧ plS s.2) (fun (s : Nat × HI) => fX0_passDigits_b2 most s.1 s.2) (fun s t hs ht => by
    try dsimp only at ht
    unfold fX0_passDigits_b2 at ht
    split at ht
    · cases ht; exact hs
    · split at ht
      · cases ht; exact hs
      · cases ht) (fun s t hs ht => by
    try dsimp only at ht
    unfold fX0_passDigits_b2 at ht
    split at ht
    · cases ht
    · split at ht
      · cases ht
      · rename_i c
        cases ht
        exact ⟨up4_hm (I := s.2) (v := s.2 47 4 + 1) hs.1, plS_step hs.1 (within_ne c)⟩) (most + 1) (0, I) ⟨hm, h⟩
  unfold fX0_passDigits
  dsimp only
  unfold fX0_passDigits_x2
  split <;> exact h2.2
theorem plS_plain {I : HI} {digits : Nat} (h9 : digits ≤ 9) (hm : vp_in (I 47 1) 97) (h : ¬ fX0_signAt I (I 47 4) = -9) : plS (fX0_passPlain I digits).2 := by
  have h1 := plS_step hm h
  have h2 := plS_digits (least := nI digits) (most := digits) (up4_hm hm) h1
  have h3 := passDigits_hm (least := nI digits) h9 (up4_hm (v := (I 47 4) + 1) hm)
  unfold fX0_passPlain
  split
  · exact h2
  · split
    · exact plS_sign h3 (by decide) h2
    · exact plS_sign h3 (by decide) h2
theorem plS_statement {I : HI} (hm : vp_in (I 47 1) 97) (h : plS I) : plS (fX0_passStatement I).2 := by
  unfold fX0_passStatement
  split
  · rename_i c; exact plS_plain (by omega) hm (ne_m9 c (by decide))
  · split
    · rename_i c; exact plS_plain (by omega) hm (ne_m9 c (by decide))
    · split
      · rename_i c; exact plS_plain (by omega) hm (ne_m9 c (by decide))
      · split
        · rename_i c
          have h1 := plS_step hm (ne_m9 c (by decide))
          have m1 := up4_hm (v := (I 47 4) + 1) hm
          have h2 := plS_digits (least := 1) (most := 1) m1 h1
          have m2 := passDigits_hm (least := 1) (most := 1) (by omega) m1
          have h3 := plS_sign (sign := 61) m2 (by decide) h2
          have m3 := passSign_hm (sign := 61) m2
          have h4 := plS_digits (least := 1) (most := 3) m3 h3
          have m4 := passDigits_hm (least := 1) (most := 3) (by omega) m3
          have h5 := plS_sign (sign := 59) m4 (by decide) h4
          split
          · exact h2
          · split
            · exact h3
            · split
              · exact h4
              · split
                · exact h5
                · exact h5
        · split
          · rename_i c; exact plS_plain (by omega) hm (ne_m9 c (by decide))
          · split
            · rename_i c; exact plS_plain (by omega) hm (ne_m9 c (by decide))
            · exact h
theorem passAll_facts {I : HI} (hm : vp_in (I 47 1) 97) : (∀ a, a ≠ 47 → a ≠ 49 → (fX0_passAll I).2 a = I a) ∧ ((fX0_passAll I).2 47 1 = I 47 1) ∧ vp_in ((fX0_passAll I).2 47 3) 97 ∧ vp_in ((fX0_passAll I).2 47 4) 97 ∧ (∀ j, j < ix ((fX0_passAll I).2 47 3) → vp_in ((fX0_passAll I).2 49 j) 97) := by
  unfold fX0_passAll fX0_passAll_c10
  refine foE_inv2 (fun i (s : HI) => (∀ a, a ≠ 47 → a ≠ 49 → s a = I a) ∧ (s 47 1 = I 47 1) ∧ s 47 3 = nI i ∧ plS s ∧ ∀ j, j < i → vp_in (s 49 j) 97) (fun (r : Int32 × HI) => (∀ a, a ≠ 47 → a ≠ 49 → r.2 a = I a) ∧ (r.2 47 1 = I 47 1) ∧ vp_in (r.2 47 3) 97 ∧ vp_in (r.2 47 4) 97 ∧ (∀ j, j < ix (r.2 47 3) → vp_in (r.2 49 j) 97)) _ _ 96 ?_ ?_ ?_ 96 0 _ (by omega) ?_
  · intro i s r hi hP hr
    obtain ⟨p1, p2, p3, p4, p5⟩ := hP
    try dsimp only at hr
    have hmu : vp_in ((up s 49 i (s 47 4)) 47 1) 97 := by rw [up_ne2 (by omega), p2]; exact hm
    have hpu : plS (up s 49 i (s 47 4)) := by unfold plS; rw [up_ne2 (by omega), up_ne2 (by omega)]; exact p4
    have q4 := plS_statement hmu hpu
    have q1 : ∀ a, a ≠ 47 → a ≠ 49 → (fX0_passStatement (up s 49 i (s 47 4))).2 a = I a := fun a h1 h2 => by
      funext b; rw [passStatement_eq (by omega), up_ne2 h2, p1 a h1 h2]
    have q2 : (fX0_passStatement (up s 49 i (s 47 4))).2 47 1 = I 47 1 := by rw [passStatement_eq (by omega), up_ne2 (by omega), p2]
    have q3 : (fX0_passStatement (up s 49 i (s 47 4))).2 47 3 = nI i := by rw [passStatement_eq (by omega), up_ne2 (by omega), p3]
    have q5 : ∀ j, j < i + 1 → vp_in ((fX0_passStatement (up s 49 i (s 47 4))).2 49 j) 97 := fun j hj => by
      rw [passStatement_eq (by omega)]
      rcases Nat.lt_or_ge j i with e | e
      · rw [up_k (by omega)]; exact p5 j e
      · have e2 : j = i := by omega
        rw [e2, up_v]; exact p4.1
    generalize hK : (fX0_passStatement (up s 49 i (s 47 4))) = K at *
    unfold fX0_passAll_b12 at hr
    rw [hK] at hr
    split at hr
    · cases hr
      exact ⟨q1, q2, by rw [q3]; exact vp_nI (by omega) (by omega), q4.1, fun j hj => q5 j (by rw [q3, ix_nI (by omega)] at hj; omega)⟩
    · split at hr
      · unfold fX0_passAll_c60 at hr; cases hr
      · cases hr
        refine ⟨fun a h1 h2 => ?_, ?_, ?_, ?_, fun j hj => ?_⟩
        · dsimp only; rw [up_ne a h1]; exact q1 a h1 h2
        · dsimp only; rw [up_k (by omega)]; exact q2
        · dsimp only; rw [up_v, q3, nv_iadd (x := nI i) (y := 1) (a := i) (b := 1) rfl rfl]; exact vp_nI (by omega) (by omega)
        · dsimp only; rw [up_k (by omega)]; exact q4.1
        · dsimp only at hj ⊢; rw [up_v, q3, nv_iadd (x := nI i) (y := 1) (a := i) (b := 1) rfl rfl, ix_nI (by omega)] at hj; rw [up_ne2 (by omega)]; exact q5 j hj
  · intro i s r hi hP hr
    obtain ⟨p1, p2, p3, p4, p5⟩ := hP
    try dsimp only at hr
    have hmu : vp_in ((up s 49 i (s 47 4)) 47 1) 97 := by rw [up_ne2 (by omega), p2]; exact hm
    have hpu : plS (up s 49 i (s 47 4)) := by unfold plS; rw [up_ne2 (by omega), up_ne2 (by omega)]; exact p4
    have q4 := plS_statement hmu hpu
    have q1 : ∀ a, a ≠ 47 → a ≠ 49 → (fX0_passStatement (up s 49 i (s 47 4))).2 a = I a := fun a h1 h2 => by
      funext b; rw [passStatement_eq (by omega), up_ne2 h2, p1 a h1 h2]
    have q2 : (fX0_passStatement (up s 49 i (s 47 4))).2 47 1 = I 47 1 := by rw [passStatement_eq (by omega), up_ne2 (by omega), p2]
    have q3 : (fX0_passStatement (up s 49 i (s 47 4))).2 47 3 = nI i := by rw [passStatement_eq (by omega), up_ne2 (by omega), p3]
    have q5 : ∀ j, j < i + 1 → vp_in ((fX0_passStatement (up s 49 i (s 47 4))).2 49 j) 97 := fun j hj => by
      rw [passStatement_eq (by omega)]
      rcases Nat.lt_or_ge j i with e | e
      · rw [up_k (by omega)]; exact p5 j e
      · have e2 : j = i := by omega
        rw [e2, up_v]; exact p4.1
    generalize hK : (fX0_passStatement (up s 49 i (s 47 4))) = K at *
    unfold fX0_passAll_b12 at hr
    rw [hK] at hr
    split at hr
    · cases hr
    · split at hr
      · unfold fX0_passAll_c60 at hr; cases hr
        refine ⟨fun a h1 h2 => ?_, ?_, ?_, ?_, fun j hj => ?_⟩
        · rw [up_ne a h1]; exact q1 a h1 h2
        · rw [up_k (by omega)]; exact q2
        · rw [up_v, q3]; exact nv_iadd (x := nI i) (y := 1) (a := i) (b := 1) rfl rfl
        · unfold plS; rw [up_k (by omega), up_k (by omega)]; exact q4
        · rw [up_ne2 (by omega)]; exact q5 j hj
      · cases hr
  · intro s hP
    obtain ⟨p1, p2, p3, p4, p5⟩ := hP
    unfold fX0_passAll_x12
    exact ⟨p1, p2, by dsimp only; rw [p3]; exact vp_nI (by omega) (by omega), p4.1, fun j hj => p5 j (by dsimp only at hj; rw [p3, ix_nI (by omega)] at hj; exact hj)⟩
  · refine ⟨fun a h1 h2 => ?_, ?_, ?_, ⟨?_, ?_⟩, fun j hj => absurd hj (Nat.not_lt_zero j)⟩
    · rw [up_ne a h1, up_ne a h1]
    · rw [up_k (by omega), up_k (by omega)]
    · rw [up_v]; rfl
    · rw [up_k (by omega), up_v]; exact vp_nI (n := 0) (by omega) (by omega)
    · rw [up_k (by omega), up_v, show ix (0 : Int32) = 0 from ix_nI (n := 0) (by omega)]; exact Nat.zero_le _
theorem must_okS {I : HI} {start room : Int32} (h : ¬ fX0_isAsItMust I start room = 0) : okS I start := by
  unfold fX0_isAsItMust at h
  unfold okS
  refine ⟨fun c => ?_, fun c => ?_, fun c => ?_, fun c => ?_⟩
  · rw [c, if_neg (by decide), if_neg (by decide), if_neg (by decide), if_pos rfl] at h
    split at h
    · exact absurd rfl h
    · rename_i d; exact within_in (b := 4) d (by omega)
  · rw [c, if_pos rfl] at h
    split at h
    · exact absurd rfl h
    · rename_i d; exact ⟨isSpot_in1 d, isSpot_in2 d⟩
  · rw [c, if_neg (by decide), if_neg (by decide), if_pos rfl] at h
    exact ⟨isSpot_in1 h, isSpot_in2 h⟩
  · rw [c, if_neg (by decide), if_neg (by decide), if_neg (by decide), if_neg (by decide), if_pos rfl] at h
    split at h
    · exact absurd rfl h
    · rename_i d; exact isFoot_in d
theorem m2000 {x : Int32} (h : vp_in x 97) : ¬ (-2000 : Int32) - x = 0 := by
  have b := vb h
  rw [vx h]
  have h2 : ∀ n : Fin 97, ¬ (-2000 : Int32) - nI n.1 = 0 := by decide +kernel
  exact h2 ⟨ix x, b⟩
theorem m1000 {x : Int32} (h : vp_in x 97) : ¬ (-1000 : Int32) - x = 0 := by
  have b := vb h
  rw [vx h]
  have h2 : ∀ n : Fin 97, ¬ (-1000 : Int32) - nI n.1 = 0 := by decide +kernel
  exact h2 ⟨ix x, b⟩
theorem faulty_okS {I : HI} {drawn : Int32} (ho : ∀ j, j < ix (I 47 3) → vp_in (I 49 j) 97) (h : fX0_faultyOne I drawn = 0) : ∀ i, i < ix (I 47 3) → okS I (I 49 i) := by
  have h1 := foE_inv2 (fun i (_ : Int32) => ∀ j, j < i → okS I (I 49 j)) (fun (r : Int32) => r = 0 → ∀ j, j < ix (I 47 3) → okS I (I 49 j)) (fun (i : Nat) (s : Int32) => fX0_faultyOne_b7 I i s) (fun (s : Int32) => fX0_faultyOne_x7 s) (ix (I 47 3)) (by
    intro i s r hi hP hr
    try dsimp only at hr
    unfold fX0_faultyOne_b7 at hr
    split at hr
    · have hr2 := Sum.inl.inj hr
      intro e
      rw [← hr2] at e
      exact absurd e (m2000 (ho i hi))
    · split at hr
      · cases hr
      · split at hr <;> cases hr) (by
    intro i s t hi hP hr j hj
    try dsimp only at hr
    rcases Nat.lt_or_ge j i with e | e
    · exact hP j e
    · have e2 : j = i := by omega
      subst e2
      unfold fX0_faultyOne_b7 at hr
      split at hr
      · cases hr
      · rename_i c; exact must_okS c) (fun s hP _ => hP) (ix (I 47 3)) 0 (6 - drawn) (by omega) (fun j hj => absurd hj (Nat.not_lt_zero j))
  exact h1 h
theorem signAt_congr {I J : HI} (h7 : J 47 1 = I 47 1) (h8 : J 48 = I 48) (p : Int32) : fX0_signAt J p = fX0_signAt I p := by unfold fX0_signAt; rw [h7, h8]
theorem digitAt_congr {I J : HI} (h7 : J 47 1 = I 47 1) (h8 : J 48 = I 48) (p : Int32) : fX0_digitAt J p = fX0_digitAt I p := by unfold fX0_digitAt; rw [signAt_congr h7 h8]
theorem numberAt_congr {I J : HI} (h7 : J 47 1 = I 47 1) (h8 : J 48 = I 48) (p : Int32) (n : Nat) : fX0_numberAt J p n = fX0_numberAt I p n := by
  unfold fX0_numberAt fX0_numberAt_b5
  simp only [signAt_congr h7 h8]
theorem okS_congr {I J : HI} {start : Int32} (h7 : J 47 1 = I 47 1) (h8 : J 48 = I 48) (h : okS I start) : okS J start := by
  unfold okS at h ⊢
  simp only [signAt_congr h7 h8, digitAt_congr h7 h8, numberAt_congr h7 h8]
  exact h
theorem addTrace_d {I : HI} {foot : Nat} {push lean : Int32} (h : vp_in (I 1 6) 7) : vp_in ((fX3_addTrace I foot push lean).2 1 6) 7 := by
  unfold fX3_addTrace
  split
  · rename_i c
    have b := ixlt (n := 6) h c (by omega) (by omega)
    unfold fX3_addTrace_c31
    dsimp only
    rw [up_v, skate_ne (by omega), begin_ne (by omega), nv_iadd (y := 1) (a := ix (I 1 6)) (b := 1) (vx h) rfl]
    exact vp_nI (by omega) (by omega)
  · exact h
theorem addTrace_k {I : HI} {foot : Nat} {push lean : Int32} {a : Nat} (h : vp_in (I 1 6) 7) (h1 : 18 ≤ a) : (fX3_addTrace I foot push lean).2 a = I a := by
  unfold fX3_addTrace
  split
  · rename_i c
    have b := ixlt (n := 6) h c (by omega) (by omega)
    unfold fX3_addTrace_c31
    dsimp only
    rw [up_ne a (by omega), skate_ne (by omega), begin_ne (by omega)]
  · rfl
