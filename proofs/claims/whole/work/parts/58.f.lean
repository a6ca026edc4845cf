theorem La.cJ {I J J' : HI} {foot : Nat} {o : Option Nat} (h : La I J foot o) (h5 : ix (J 52 5) < 1000) (h1 : J' 52 5 = J 52 5) (h2 : J' 56 = J 56) (h3 : J' 59 = J 59) : La I J' foot o := by
  unfold La Li
  rw [h1, h3, la6_congr (J := J) (J' := J') _ h5 (fun t _ => by rw [h2])]
  exact h
def nx (s : Int32) : Int32 := s * 1103515245 + 12345
def dw (s : Int32) (b : Nat) : Int32 := ((nx s &&& 2147483647) / 65536) - ((nx s &&& 2147483647) / 65536) / (nI b) * (nI b)
theorem dw5 {S : HI} {b : Nat} : fX1_drawBelow S b = (dw (S 37 2) b, up S 37 2 (nx (S 37 2))) := by
  unfold fX1_drawBelow dw nx
  rw [up_v]
theorem dw6 {K : HI} {b : Nat} : fX6_drawn K b = (dw (K 52 28) b, up K 52 28 (nx (K 52 28))) := rfl
theorem dw_in {s : Int32} {b : Nat} (h0 : 0 < b) (hb : b < 100) : vp_in (dw s b) b := by
  have h := drawn6_in (I := fun _ _ => s) h0 hb
  rw [dw6] at h
  exact h
def Si (I J : HI) (k i : Nat) (s : Int32 × Int32 × Option Nat × Option Nat × HI) (u : Int32 × Int32 × HI) : Prop := (s.1 = u.1 ∧ s.2.1 = u.2.1) ∧ Ev s.2.2.2.2 u.2.2 ∧ (La s.2.2.2.2 u.2.2 0 s.2.2.2.1 ∧ La s.2.2.2.2 u.2.2 1 s.2.2.1) ∧ ((∀ i, s.2.2.2.1 = some i → i < 18 ∨ i = 39 ∨ i = 41) ∧ ∀ i, s.2.2.1 = some i → i < 18 ∨ i = 43 ∨ i = 45) ∧ s.2.2.2.2 37 2 = u.2.2 52 28 ∧ u.2.2 52 5 = nI (ix (I 1 6) + i) ∧ Mo (ix (I 1 6)) J u.2.2 ∧ Fr Pm I s.2.2.2.2 ∧ s.2.2.2.2 1 3 = nI k ∧ u.2.2 52 3 = nI k
theorem seed_step {I J : HI} {k i : Nat} {s : Int32 × Int32 × Option Nat × Option Nat × HI} {u : Int32 × Int32 × HI} (h6 : ix (I 1 6) ≤ 6) (hk : k < 7) (hi : i < 20) (h : Si I J k i s u) : Si I J k (i + 1) (fX1_practice_b34 i s.1 s.2.1 s.2.2.1 s.2.2.2.1 s.2.2.2.2) (fX6_seeds_b70 i u.1 u.2.1 u.2.2) := by
  obtain ⟨near, tog, right, left, S⟩ := s
  obtain ⟨few, sum, K⟩ := u
  obtain ⟨⟨e1, e2⟩, hE, ⟨hL0, hL1⟩, ⟨hC0, hC1⟩, hs, h5, hM, hF, hk1, hk2⟩ := h
  dsimp only at e1 e2 hE hL0 hL1 hC0 hC1 hs h5 hM hF hk1 hk2 ⊢
  subst e1
  subst e2
  unfold fX1_practice_b34 fX6_seeds_b70
  simp only [dw5, dw6, up_v]
  rw [hs]
  generalize hS3 : up (up (up S 37 2 (nx (K 52 28))) 37 2 (nx (nx (K 52 28)))) 37 2 (nx (nx (nx (K 52 28)))) = S3
  generalize hK3 : up (up (up K 52 28 (nx (K 52 28))) 52 28 (nx (nx (K 52 28)))) 52 28 (nx (nx (nx (K 52 28)))) = K3
  have v1 := dw_in (s := K 52 28) (b := 2) (by omega) (by omega)
  have v2 := dw_in (s := nx (K 52 28)) (b := 9) (by omega) (by omega)
  have v3 := dw_in (s := nx (nx (K 52 28))) (b := 9) (by omega) (by omega)
  have b1 := vb v1
  have b2 := vb v2
  have b3 := vb v3
  have kk : (up (up K 52 28 (nx (K 52 28))) 52 28 (nx (nx (K 52 28)))) 52 3 = nI k := by rw [up_k (by omega), up_k (by omega)]; exact hk2
  rw [kk]
  generalize ix (dw (K 52 28) 2) = foot at b1 ⊢
  generalize ix (dw (nx (K 52 28)) 9) = p at b2 ⊢
  generalize ix (dw (nx (nx (K 52 28))) 9) = l at b3 ⊢
  have eS : ∀ a, a ≠ 37 → S3 a = S a := fun a ha => by rw [← hS3, up_ne a ha, up_ne a ha, up_ne a ha]
  have eK : ∀ a, a ≠ 52 → K3 a = K a := fun a ha => by rw [← hK3, up_ne a ha, up_ne a ha, up_ne a ha]
  have eK2 : ∀ b, b ≠ 28 → K3 52 b = K 52 b := fun b hb => by rw [← hK3, up_k hb, up_k hb, up_k hb]
  have hs3 : S3 37 2 = K3 52 28 := by rw [← hS3, ← hK3, up_v, up_v]
  have hM3 : Mo (ix (I 1 6)) J K3 := by rw [← hK3]; exact ((hM.up5 (Or.inr rfl)).up5 (Or.inr rfl)).up5 (Or.inr rfl)
  have hE3 : Ev S3 K3 := hE.c (by rw [eS 1 (by omega)]) (fun a ha => eS a (by omega)) (eK2 4 (by omega)) (fun a ha => eK a (by omega))
  have hk3 : S3 1 3 = nI k := by rw [eS 1 (by omega)]; exact hk1
  have h53 : K3 52 5 = nI (ix (I 1 6) + i) := by rw [eK2 5 (by omega)]; exact h5
  have h5i : ix (K 52 5) < 1000 := by rw [h5, ix_nI (by omega)]; omega
  have hc : ∀ {o : Option Nat} {f : Nat}, La S K f o → (∀ i, o = some i → i < 18 ∨ 39 ≤ i) → La S3 K3 f o := fun hL hc => (hL.c (fun i hi => eS _ (by have := hc i hi; omega))).cJ h5i (eK2 5 (by omega)) (eK 56 (by omega)) (eK 59 (by omega))
  have hL03 := hc hL0 (fun i hi => by have := hC0 i hi; omega)
  have hL13 := hc hL1 (fun i hi => by have := hC1 i hi; omega)
  have hF3 : Fr Pm I S3 := hF.trans (fun a ha => eS a (by have : a < 36 ∨ 47 ≤ a := ha; omega))
  clear hS3 hK3 eS eK eK2 hc
  unfold fX1_practice_c67 fX1_practice_80 fX1_practice_c98 fX1_practice_114
  rw [hk3]
  have hC0' : Cl left := fun i hi => by have := hC0 i hi; omega
  have hC1' : Cl right := fun i hi => by have := hC1 i hi; omega
  have h5n : ix (K3 52 5) = ix (I 1 6) + i := by rw [h53, ix_nI (by omega)]
  have fin : ∀ {o : Option Nat}, La S3 K3 foot o → Cl o → (o = if nI foot = 0 then left else right) → Si I J k (i + 1) (if 60 ≤ fX3_offOf (fX1_lineBehind S3 o (nI k) foot (nI (p + 1)) (nI (l + 1))).2 (fX1_lineBehind S3 o (nI k) foot (nI (p + 1)) (nI (l + 1))).1 then (near + 0, tog + fX3_offOf (fX1_lineBehind S3 o (nI k) foot (nI (p + 1)) (nI (l + 1))).2 (fX1_lineBehind S3 o (nI k) foot (nI (p + 1)) (nI (l + 1))).1, (if nI foot = 0 then right else some (fX1_lineBehind S3 o (nI k) foot (nI (p + 1)) (nI (l + 1))).1), (if nI foot = 0 then some (fX1_lineBehind S3 o (nI k) foot (nI (p + 1)) (nI (l + 1))).1 else left), (fX1_lineBehind S3 o (nI k) foot (nI (p + 1)) (nI (l + 1))).2) else (near + 1, tog + fX3_offOf (fX1_lineBehind S3 o (nI k) foot (nI (p + 1)) (nI (l + 1))).2 (fX1_lineBehind S3 o (nI k) foot (nI (p + 1)) (nI (l + 1))).1, (if nI foot = 0 then right else some (fX1_lineBehind S3 o (nI k) foot (nI (p + 1)) (nI (l + 1))).1), (if nI foot = 0 then some (fX1_lineBehind S3 o (nI k) foot (nI (p + 1)) (nI (l + 1))).1 else left), (fX1_lineBehind S3 o (nI k) foot (nI (p + 1)) (nI (l + 1))).2)) (if 60 ≤ fX6_offOf (fX6_drawBy K3 (nI k) foot (nI (p + 1)) (nI (l + 1))).2 (fX6_drawBy K3 (nI k) foot (nI (p + 1)) (nI (l + 1))).1 then (near + 0, tog + fX6_offOf (fX6_drawBy K3 (nI k) foot (nI (p + 1)) (nI (l + 1))).2 (fX6_drawBy K3 (nI k) foot (nI (p + 1)) (nI (l + 1))).1, (fX6_drawBy K3 (nI k) foot (nI (p + 1)) (nI (l + 1))).2) else (near + 1, tog + fX6_offOf (fX6_drawBy K3 (nI k) foot (nI (p + 1)) (nI (l + 1))).2 (fX6_drawBy K3 (nI k) foot (nI (p + 1)) (nI (l + 1))).1, (fX6_drawBy K3 (nI k) foot (nI (p + 1)) (nI (l + 1))).2)) := by
    intro o hLo hCo ho
    obtain ⟨m1, m2, m3, m4, m5, m6, m7⟩ := mind hE3 hLo hCo b1 hk (p := p + 1) (l := l + 1) (by omega) (by omega) (by omega) h53 (by omega)
    obtain ⟨d1, d2, -⟩ := draw6 (J := K3) (foot := foot) (kind := nI k) (push := nI (p + 1)) (lean := nI (l + 1)) (by omega)
    have hM4 := hM3.step (kind := nI k) (push := nI (p + 1)) (lean := nI (l + 1)) (foot := foot) b1 (by omega) (by omega)
    have hoff : fX6_offOf (fX6_drawBy K3 (nI k) foot (nI (p + 1)) (nI (l + 1))).2 (fX6_drawBy K3 (nI k) foot (nI (p + 1)) (nI (l + 1))).1 = fX3_offOf (fX1_lineBehind S3 o (nI k) foot (nI (p + 1)) (nI (l + 1))).2 (fX1_lineBehind S3 o (nI k) foot (nI (p + 1)) (nI (l + 1))).1 := by
      rw [d1]
      exact off_eq (off_line (fun h hh => (m2 h hh).1) d2) m3.1.2.1
    have hln : (fX1_lineBehind S3 o (nI k) foot (nI (p + 1)) (nI (l + 1))).1 = Ml o foot := rfl
    obtain ⟨n1, n2, n3, -⟩ := Ml_ok (o := o) b1
    rw [hoff]
    have hd28 : (fX6_drawBy K3 (nI k) foot (nI (p + 1)) (nI (l + 1))).2 52 28 = K3 52 28 := drawBy_ne (by omega) (by omega)
    have hd3 : (fX6_drawBy K3 (nI k) foot (nI (p + 1)) (nI (l + 1))).2 52 3 = nI k := by rw [drawBy_ne (by omega) (by omega)]; rw [← hk2]; exact (hM3.1 52 3 (by omega) (by omega)).trans (hM.1 52 3 (by omega) (by omega)).symm
    have hsd : (fX1_lineBehind S3 o (nI k) foot (nI (p + 1)) (nI (l + 1))).2 37 2 = (fX6_drawBy K3 (nI k) foot (nI (p + 1)) (nI (l + 1))).2 52 28 := by rw [hd28, m1 37 (by omega)]; exact hs3
    have hFn : Fr Pm I (fX1_lineBehind S3 o (nI k) foot (nI (p + 1)) (nI (l + 1))).2 := hF3.trans (m1.sub (fun a ha => by have : a < 36 ∨ 47 ≤ a := ha; omega))
    have hkn : (fX1_lineBehind S3 o (nI k) foot (nI (p + 1)) (nI (l + 1))).2 1 3 = nI k := by rw [m1 1 (by omega)]; exact hk3
    have h5m : (fX6_drawBy K3 (nI k) foot (nI (p + 1)) (nI (l + 1))).2 52 5 = nI (ix (I 1 6) + (i + 1)) := by rw [m7, Nat.add_assoc]
    generalize (fX1_lineBehind S3 o (nI k) foot (nI (p + 1)) (nI (l + 1))).2 = S4 at *
    generalize (fX1_lineBehind S3 o (nI k) foot (nI (p + 1)) (nI (l + 1))).1 = ln at *
    generalize (fX6_drawBy K3 (nI k) foot (nI (p + 1)) (nI (l + 1))).2 = K4 at *
    have hLL : La S4 K4 0 (if nI foot = 0 then some ln else left) ∧ La S4 K4 1 (if nI foot = 0 then right else some ln) := by
      rcases (show foot = 0 ∨ foot = 1 by omega) with rfl | rfl
      · rw [if_pos (show nI 0 = 0 from rfl), if_pos (show nI 0 = 0 from rfl)]
        exact ⟨m4, m6 1 right (by omega) (by omega) hL13 hC1' (fun i hi => by have := hC1 i hi; omega)⟩
      · rw [if_neg (show ¬ nI 1 = 0 by decide), if_neg (show ¬ nI 1 = 0 by decide)]
        exact ⟨m6 0 left (by omega) (by omega) hL03 hC0' (fun i hi => by have := hC0 i hi; omega), m4⟩
    have hCC : (∀ i, (if nI foot = 0 then some ln else left) = some i → i < 18 ∨ i = 39 ∨ i = 41) ∧ ∀ i, (if nI foot = 0 then right else some ln) = some i → i < 18 ∨ i = 43 ∨ i = 45 := by
      rcases (show foot = 0 ∨ foot = 1 by omega) with rfl | rfl
      · rw [if_pos (show nI 0 = 0 from rfl), if_pos (show nI 0 = 0 from rfl)]
        exact ⟨fun i hi => by have := Option.some.inj hi; omega, hC1⟩
      · rw [if_neg (show ¬ nI 1 = 0 by decide), if_neg (show ¬ nI 1 = 0 by decide)]
        exact ⟨hC0, fun i hi => by have := Option.some.inj hi; omega⟩
    split
    · exact ⟨⟨rfl, rfl⟩, m3, hLL, hCC, hsd, h5m, hM4, hFn, hkn, hd3⟩
    · exact ⟨⟨rfl, rfl⟩, m3, hLL, hCC, hsd, h5m, hM4, hFn, hkn, hd3⟩
  refine fin ?_ ?_ rfl
  · rcases (show foot = 0 ∨ foot = 1 by omega) with rfl | rfl
    · rw [if_pos (show nI 0 = 0 from rfl)]; exact hL03
    · rw [if_neg (show ¬ nI 1 = 0 by decide)]; exact hL13
  · rcases (show foot = 0 ∨ foot = 1 by omega) with rfl | rfl
    · rw [if_pos (show nI 0 = 0 from rfl)]; exact hC0'
    · rw [if_neg (show ¬ nI 1 = 0 by decide)]; exact hC1'
theorem sm_seeds {I J : HI} (hR : R I J) (a z c : Int32) : (fX5_seeds I a z c).1 = (fX6_seeds J a z c).1 ∧ R (fX5_seeds I a z c).2 (fX6_seeds J a z c).2 := by
  have h := hR.th (v := 0)
  unfold fX5_seeds fX6_seeds
  generalize up J 52 10 0 = K at h ⊢
  unfold fX6_seeds_c5
  rw [wrongNumber_eq, show fX6_in c.toInt64 0 1 = fX5_within c 0 1 from in6_eq c 0 1]
  by_cases h1 : fX5_rangeFault a 1 20 = 0
  · rw [if_pos h1, if_pos h1]
    by_cases h2 : fX5_within c 0 1 = 0
    · rw [if_pos h2, if_pos h2]; exact h.refuse ref2
    rw [if_neg h2, if_neg h2]
    have hn := vb (rangeFault_in (b := 20) h1 (by decide) (by omega))
    unfold fX1_practice fX1_practice_c5
    have hmz : Mo (ix (I 1 6)) K (up K 52 28 z) := h.mo0.up5 (Or.inr rfl)
    have h0 : R (up I 37 2 z) (up K 52 28 z) := (h.mo hmz (up_k (by omega))).mi (fm Fr.refl (by omega))
    have hI0 : Fr Pm I (up I 37 2 z) := fm Fr.refl (by omega)
    have e6 : up I 37 2 z 1 6 = I 1 6 := up_ne2 (by omega)
    obtain ⟨k, hk, ek⟩ := h0.kin
    obtain ⟨l0, -, c0⟩ := h0.la (foot := 0)
    obtain ⟨l1, -, c1⟩ := h0.la (foot := 1)
    have key := fo_sim (fun i s u => Si (up I 37 2 z) (up K 52 28 z) k i s u) (fun (i : Nat) (s : Int32 × Int32 × Option Nat × Option Nat × HI) => fX1_practice_b34 i s.1 s.2.1 s.2.2.1 s.2.2.2.1 s.2.2.2.2) (fun (i : Nat) (s : Int32 × Int32 × HI) => fX6_seeds_b70 i s.1 s.2.1 s.2.2) (ix a) 0 (0, 0, fX3_latestOf (up I 37 2 z) 1, fX3_latestOf (up I 37 2 z) 0, up I 37 2 z) (0, 0, up K 52 28 z) ⟨⟨rfl, rfl⟩, h0.ev, ⟨l0, l1⟩, ⟨fun i hi => Or.inl (c0 i hi), fun i hi => Or.inl (c1 i hi)⟩, by dsimp only; rw [up_v, up_v], by dsimp only; rw [h0.drawn]; exact vx h0.hd, h0.mo0, Fr.refl, ek, by dsimp only; rw [h0.kind]; exact ek⟩ (fun i s u _ hi e => seed_step h0.d6 hk (by omega) e)
    generalize fo (ix a) 0 (fun (i : Nat) (s : Int32 × Int32 × Option Nat × Option Nat × HI) => fX1_practice_b34 i s.1 s.2.1 s.2.2.1 s.2.2.2.1 s.2.2.2.2) (0, 0, fX3_latestOf (up I 37 2 z) 1, fX3_latestOf (up I 37 2 z) 0, up I 37 2 z) = A at key ⊢
    generalize fo (ix a) 0 (fun (i : Nat) (s : Int32 × Int32 × HI) => fX6_seeds_b70 i s.1 s.2.1 s.2.2) (0, 0, up K 52 28 z) = B at key ⊢
    obtain ⟨near, tog, right, left, S⟩ := A
    obtain ⟨few, sum, K2⟩ := B
    obtain ⟨⟨e1, e2⟩, -, -, -, -, -, hM, hF, -, -⟩ := key
    dsimp only at e1 e2 hM hF ⊢
    subst e1
    subst e2
    have hR2 : R S (up K2 52 5 (K 52 5)) := (h0.mo (hM.up5 (Or.inl rfl)) (by rw [up_v, up_k (by omega)])).mi hF
    unfold fX1_practice_x34 fX6_seeds_x70
    split
    · exact ⟨rfl, hR2⟩
    · exact ⟨rfl, hR2⟩
  · rw [if_neg h1, if_neg h1]; exact h.refuse (ref_of rf_neg h1)
theorem pract_t {near tog : Int32} {right left : Option Nat} {S : HI} {v8 v9 : Int32} {v10 : Nat} (hf : v10 < 2) : Fr Pl S (fX1_practice_c67 near tog right left v8 v9 v10 S).2.2.2.2 := by
  unfold fX1_practice_c67 fX1_practice_80 fX1_practice_c98 fX1_practice_114
  generalize (if nI v10 = 0 then left else right) = o
  split
  · exact fr39_lo (line_fr hf)
  · exact fr39_lo (line_fr hf)
theorem lo_seeds {I : HI} (a z c : Int32) : Fr Pl I (fX5_seeds I a z c).2 := by
  unfold fX5_seeds
  split
  · split
    · exact refuse5_lo
    · show Fr Pl I (fX1_practice I (ix a) z c).2
      unfold fX1_practice fX1_practice_c5
      have key := fo_inv (fun _ (s : Int32 × Int32 × Option Nat × Option Nat × HI) => Fr Pl I s.2.2.2.2) (fun (i : Nat) (s : Int32 × Int32 × Option Nat × Option Nat × HI) => fX1_practice_b34 i s.1 s.2.1 s.2.2.1 s.2.2.2.1 s.2.2.2.2) (ix a) 0 (0, 0, fX3_latestOf (up I 37 2 z) 1, fX3_latestOf (up I 37 2 z) 0, up I 37 2 z) (fl Fr.refl (by omega)) (fun i s _ _ hs => by
        unfold fX1_practice_b34
        have v1 := vb (drawBelow_in (I := s.2.2.2.2) (b := 2) (by omega) (by omega))
        refine Fr.trans ?_ (pract_t v1)
        simp only [dw5]
        exact fl (fl (fl hs (by omega)) (by omega)) (by omega))
      dsimp only
      generalize fo (ix a) 0 (fun (i : Nat) (s : Int32 × Int32 × Option Nat × Option Nat × HI) => fX1_practice_b34 i s.1 s.2.1 s.2.2.1 s.2.2.2.1 s.2.2.2.2) (0, 0, fX3_latestOf (up I 37 2 z) 1, fX3_latestOf (up I 37 2 z) 0, up I 37 2 z) = A at key ⊢
      unfold fX1_practice_x34
      split
      · exact key
      · exact key
  · exact refuse5_lo
theorem hi_seeds {I : HI} (a z c : Int32) : Fr Ph I (fX6_seeds I a z c).2 := by
  refine th_hi.trans ?_
  unfold fX6_seeds fX6_seeds_c5
  generalize up I 52 10 0 = K
  split
  · split
    · exact refuse6_hi
    · have key := fo_inv (fun _ (s : Int32 × Int32 × HI) => Fr Ph K s.2.2) (fun (i : Nat) (s : Int32 × Int32 × HI) => fX6_seeds_b70 i s.1 s.2.1 s.2.2) (ix a) 0 (0, 0, up K 52 28 z) (fh Fr.refl (by omega)) (fun i s _ _ hs => by
        have q : Fr Ph K (fX6_drawBy ((fX6_drawn ((fX6_drawn ((fX6_drawn s.2.2 2).2) 9).2) 9).2) (((fX6_drawn ((fX6_drawn s.2.2 2).2) 9).2) 52 3) (ix ((fX6_drawn s.2.2 2).1)) (nI ((ix ((fX6_drawn ((fX6_drawn s.2.2 2).2) 9).1)) + 1)) (nI ((ix ((fX6_drawn ((fX6_drawn ((fX6_drawn s.2.2 2).2) 9).2) 9).1)) + 1))).2 := by
          refine Fr.trans ?_ draw6_hi
          simp only [dw6]
          exact fh (fh (fh hs (by omega)) (by omega)) (by omega)
        unfold fX6_seeds_b70
        split
        · exact q
        · exact q)
      dsimp only
      generalize fo (ix a) 0 (fun (i : Nat) (s : Int32 × Int32 × HI) => fX6_seeds_b70 i s.1 s.2.1 s.2.2) (0, 0, up K 52 28 z) = A at key ⊢
      unfold fX6_seeds_x70
      split
      · exact fh key (by omega)
      · exact fh key (by omega)
  · exact refuse6_hi
