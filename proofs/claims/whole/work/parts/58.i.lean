theorem two_step {S K0 K : HI} {p j : Nat} (hc : Rc S K0) (h : ST S K0 K p j) (hp : p + j + 1 < 500) : ST S K0 (fX6_readTwo K).2 p (j + 2) ∧ (fX6_readTwo K).2 64 = K 64 ∧ (dn S (j + 2) p = j + 2 → (fX6_readTwo K).1 = nm S (p + j) 2) := by
  obtain ⟨s1, f1, v1⟩ := rd_step hc h (by omega)
  obtain ⟨s2, f2, v2⟩ := rd_step hc s1 (by omega)
  unfold fX6_readTwo
  dsimp only
  refine ⟨s2, f2.trans f1, fun q => ?_⟩
  rw [v1 (dn_dec q), v2 q, nm2]
  rfl
/-- what a well-formed statement tells -/
def Val (S : HI) (p : Nat) (a b c : Int32) : Prop := (cs S p = 104 → a = cs S (p + 1) - 48 ∧ b = nm S (p + 2) 2 ∧ c = cs S (p + 4) - 48) ∧ (cs S p = 107 → a = cs S (p + 1) - 48 ∧ b = cs S (p + 2) - 48) ∧ (cs S p = 111 → a = cs S (p + 1) - 48 ∧ b = nm S (p + 2) 2 ∧ c = nm S (p + 4) 2) ∧ (cs S p = 115 → a = cs S (p + 1) - 48 ∧ b = nm S (p + 3) (dn S 3 (p + 3))) ∧ (cs S p = 116 → a = cs S (p + 1) - 48 ∧ b = cs S (p + 2) - 48 ∧ c = cs S (p + 3) - 48)
def Rs (S K K' : HI) (p k : Nat) : Prop := K' 52 14 = nI (stm S p).2 ∧ ((stm S p).1 = 0 → K' 52 15 = 1) ∧ (¬ (stm S p).1 = 0 → K' 52 15 = 0) ∧ K' 52 16 = nI (k + 1) ∧ (K' 62 k = nI p ∧ K' 63 k = fX6_here K) ∧ (∀ t, t ≠ k → K' 62 t = K 62 t ∧ K' 63 t = K 63 t) ∧ (∀ b, b < 3 * k → K' 64 b = K 64 b) ∧ (¬ (stm S p).1 = 0 → Val S p (K' 64 (3 * k)) (K' 64 (3 * k + 1)) (K' 64 (3 * k + 2)))
theorem rs_fin {S K K1 JB : HI} {p k : Nat} {r : Int32 × Nat} (hr : stm S p = r) (h16 : K1 52 16 = nI k) (h62 : K1 62 k = nI p ∧ K1 63 k = fX6_here K) (hne : ∀ t, t ≠ k → K1 62 t = K 62 t ∧ K1 63 t = K 63 t) (hSE : SE (fX6_take JB 59) K1 r) (h64 : (fX6_take JB 59) 64 = JB 64) (hlow : ∀ b, b < 3 * k → JB 64 b = K 64 b) (hv : ¬ r.1 = 0 → Val S p (JB 64 (3 * k)) (JB 64 (3 * k + 1)) (JB 64 (3 * k + 2))) : Rs S K (up (fX6_take JB 59) 52 16 ((fX6_take JB 59) 52 16 + 1)) p k := by
  unfold Rs
  rw [hr, up_ne 62 (by omega), up_ne 63 (by omega), up_ne 64 (by omega), up_k (by omega), up_k (by omega), up_v, h64]
  generalize fX6_take JB 59 = T at hSE
  have fr : ∀ a c, a ≠ 64 → ¬ (a = 52 ∧ (c = 14 ∨ c = 15)) → T a c = K1 a c := by
    by_cases q : r.1 = 0
    · exact (hSE.1 q).1
    · exact (hSE.2 q).1
  refine ⟨?_, fun q => (hSE.1 q).2.2, fun q => (hSE.2 q).2.2, ?_, ?_, fun t ht => ?_, hlow, hv⟩
  · by_cases q : r.1 = 0
    · exact (hSE.1 q).2.1
    · exact (hSE.2 q).2.1
  · rw [fr 52 16 (by omega) (by omega), h16]; exact nv_iadd (b := 1) rfl rfl
  · rw [fr 62 k (by omega) (by omega), fr 63 k (by omega) (by omega)]; exact h62
  · rw [fr 62 t (by omega) (by omega), fr 63 t (by omega) (by omega)]; exact hne t ht
theorem rs_eq {S K : HI} {p k : Nat} (hc : Rc S K) (h14 : K 52 14 = nI p) (h15 : K 52 15 = 0) (h16 : K 52 16 = nI k) (hp : p < 200) (hk : k < 60) : Rs S K (fX6_readStatement K) p k := by
  have hik : ix (K 52 16) = k := by rw [h16, ix_nI (by omega)]
  have e : ∀ x : Int32, ¬ x = -1 → ¬ x = -9 → (fX6_here K = x ↔ cs S p = x) := fun x h1 h9 => hr_eq hc (b := 0) ⟨fun _ _ _ _ => rfl, h14, h15⟩ (by omega) h1 h9
  unfold fX6_readStatement
  rw [hik, h14]
  generalize hK1 : up (up K 62 k (nI p)) 63 k (fX6_here K) = K1
  have fr1 : ∀ a, a ≠ 62 → a ≠ 63 → K1 a = K a := fun a h1 h2 => by rw [← hK1, up_ne a h2, up_ne a h1]
  have hc1 : Rc S K1 := hc.c rfl rfl (by rw [fr1 52 (by omega) (by omega)]) (fr1 61 (by omega) (by omega))
  have m1 : MS K1 K1 p 0 := ⟨fun _ _ _ _ => rfl, by rw [fr1 52 (by omega) (by omega)]; exact h14, by rw [fr1 52 (by omega) (by omega)]; exact h15⟩
  have g16 : K1 52 16 = nI k := by rw [fr1 52 (by omega) (by omega)]; exact h16
  have g62 : K1 62 k = nI p ∧ K1 63 k = fX6_here K := by rw [← hK1, up_v, up_ne2 (by omega), up_v]; exact ⟨rfl, rfl⟩
  have gne : ∀ t, t ≠ k → K1 62 t = K 62 t ∧ K1 63 t = K 63 t := fun t ht => by rw [← hK1, up_ne2 (j := 63) (a := 62) (by omega), up_k ht, up_k ht, up_ne2 (by omega)]; exact ⟨rfl, rfl⟩
  have g64 : K1 64 = K 64 := fr1 64 (by omega) (by omega)
  clear hK1
  unfold fX6_readStatement_c31
  rw [if_pos m1.2.2]
  have m2 := m1.inc
  have m2f : (up (up K1 52 15 0) 52 14 (K1 52 14 + 1)) 64 = K 64 := by rw [up_ne 64 (by omega), up_ne 64 (by omega), g64]
  have s0 : ST S K1 (up (up K1 52 15 0) 52 14 (K1 52 14 + 1)) (p + 1) 0 := Or.inl ⟨rfl, m2⟩
  obtain ⟨s1, f1, v1⟩ := rd_step hc1 s0 (by omega)
  have n3 : ∀ {J : HI} {v : Int32}, up J 64 (3 * k) v 64 (3 * k) = v := up_v
  have s1p := s1.put (i := 3 * k) (v := (fX6_readDigit (up (up K1 52 15 0) 52 14 (K1 52 14 + 1))).1)
  have lowJ : ∀ b, b ≠ 3 * k → (up (fX6_readDigit (up (up K1 52 15 0) 52 14 (K1 52 14 + 1))).2 64 (3 * k) (fX6_readDigit (up (up K1 52 15 0) 52 14 (K1 52 14 + 1))).1) 64 b = K 64 b := fun b hb => by rw [up_k hb, f1, m2f]
  have valJ : dn S 1 (p + 1) = 1 → (up (fX6_readDigit (up (up K1 52 15 0) 52 14 (K1 52 14 + 1))).2 64 (3 * k) (fX6_readDigit (up (up K1 52 15 0) 52 14 (K1 52 14 + 1))).1) 64 (3 * k) = cs S (p + 1) - 48 := fun q => by rw [up_v]; exact v1 q
  by_cases c104 : cs S p = 104
  · have hL : fX6_here K = 104 := (e 104 (by decide) (by decide)).mpr c104
    rw [if_neg (show ¬ fX6_here K = 115 by rw [hL]; decide), if_neg (show ¬ fX6_here K = 107 by rw [hL]; decide), if_pos hL]
    unfold fX6_readStatement_80 fX6_readStatement_100
    rw [if_pos (show (0 : Int32) = 0 from rfl)]
    unfold fX6_readStatement_c104
    rw [if_neg (show ¬ fX6_here K = 119 by rw [hL]; decide)]
    unfold fX6_readStatement_120
    rw [if_pos hL]
    unfold fX6_readStatement_305
    rw [hik]
    have hst : stm S p = pln S 4 p := by unfold stm; rw [if_pos c104]
    generalize (up (fX6_readDigit (up (up K1 52 15 0) 52 14 (K1 52 14 + 1))).2 64 (3 * k) (fX6_readDigit (up (up K1 52 15 0) 52 14 (K1 52 14 + 1))).1) = JA at s1p lowJ valJ ⊢
    obtain ⟨s2, f2, v2⟩ := two_step hc1 s1p (by omega)
    have s2p := s2.put (i := 3 * k + 1) (v := (fX6_readTwo JA).1)
    obtain ⟨s3, f3, v3⟩ := rd_step hc1 s2p (by omega)
    obtain ⟨z1, z2⟩ := pln_end hc1 (s3.put (i := 3 * k + 2) (v := (fX6_readDigit (up (fX6_readTwo JA).2 64 (3 * k + 1) (fX6_readTwo JA).1)).1)) (by omega)
    refine rs_fin hst g16 g62 gne z1 z2 (fun b hb => by rw [up_k (by omega), f3, up_k (by omega), f2]; exact lowJ b (by omega)) (fun q => ?_)
    have hd : dn S 4 (p + 1) = 4 := by
      have hl := dn_le (S := S) 4 (p + 1)
      unfold pln at q
      by_cases z : dn S 4 (p + 1) < 4
      · rw [if_pos z] at q; exact absurd rfl q
      · omega
    have hd3 : dn S 3 (p + 1) = 3 := dn_dec hd
    have hd2 : dn S 2 (p + 1) = 2 := dn_dec hd3
    have hd1 : dn S 1 (p + 1) = 1 := dn_dec hd2
    rw [up_v, up_k (by omega), up_k (by omega), f3, up_k (by omega), up_v, f2]
    exact ⟨(fun _ => ⟨valJ hd1, v2 hd3, v3 hd⟩), (fun z => absurd (c104.symm.trans z) (by decide)), (fun z => absurd (c104.symm.trans z) (by decide)), (fun z => absurd (c104.symm.trans z) (by decide)), (fun z => absurd (c104.symm.trans z) (by decide))⟩
  by_cases c107 : cs S p = 107
  · have hL : fX6_here K = 107 := (e 107 (by decide) (by decide)).mpr c107
    rw [if_neg (show ¬ fX6_here K = 115 by rw [hL]; decide), if_pos hL]
    unfold fX6_readStatement_80 fX6_readStatement_100
    rw [if_pos (show (0 : Int32) = 0 from rfl)]
    unfold fX6_readStatement_c104
    rw [if_neg (show ¬ fX6_here K = 119 by rw [hL]; decide)]
    unfold fX6_readStatement_120
    rw [if_neg (show ¬ fX6_here K = 104 by rw [hL]; decide), if_pos hL]
    unfold fX6_readStatement_305
    rw [hik]
    have hst : stm S p = pln S 2 p := by unfold stm; rw [if_neg (show ¬ cs S p = 104 by rw [c107]; decide), if_pos c107]
    generalize (up (fX6_readDigit (up (up K1 52 15 0) 52 14 (K1 52 14 + 1))).2 64 (3 * k) (fX6_readDigit (up (up K1 52 15 0) 52 14 (K1 52 14 + 1))).1) = JA at s1p lowJ valJ ⊢
    obtain ⟨s2, f2, v2⟩ := rd_step hc1 s1p (by omega)
    obtain ⟨z1, z2⟩ := pln_end hc1 (s2.put (i := 3 * k + 1) (v := (fX6_readDigit JA).1)) (by omega)
    refine rs_fin hst g16 g62 gne z1 z2 (fun b hb => by rw [up_k (by omega), f2]; exact lowJ b (by omega)) (fun q => ?_)
    have hd : dn S 2 (p + 1) = 2 := by
      have hl := dn_le (S := S) 2 (p + 1)
      unfold pln at q
      by_cases z : dn S 2 (p + 1) < 2
      · rw [if_pos z] at q; exact absurd rfl q
      · omega
    have hd1 : dn S 1 (p + 1) = 1 := dn_dec hd
    rw [up_v, up_k (by omega), up_k (by omega), f2]
    exact ⟨(fun z => absurd (c107.symm.trans z) (by decide)), (fun _ => ⟨valJ hd1, v2 hd⟩), (fun z => absurd (c107.symm.trans z) (by decide)), (fun z => absurd (c107.symm.trans z) (by decide)), (fun z => absurd (c107.symm.trans z) (by decide))⟩
  by_cases c111 : cs S p = 111
  · have hL : fX6_here K = 111 := (e 111 (by decide) (by decide)).mpr c111
    rw [if_neg (show ¬ fX6_here K = 115 by rw [hL]; decide), if_neg (show ¬ fX6_here K = 107 by rw [hL]; decide), if_neg (show ¬ fX6_here K = 104 by rw [hL]; decide), if_pos hL]
    unfold fX6_readStatement_80 fX6_readStatement_100
    rw [if_pos (show (0 : Int32) = 0 from rfl)]
    unfold fX6_readStatement_c104
    rw [if_neg (show ¬ fX6_here K = 119 by rw [hL]; decide)]
    unfold fX6_readStatement_120
    rw [if_neg (show ¬ fX6_here K = 104 by rw [hL]; decide), if_neg (show ¬ fX6_here K = 107 by rw [hL]; decide), if_pos hL]
    unfold fX6_readStatement_305
    rw [hik]
    have hst : stm S p = pln S 5 p := by unfold stm; rw [if_neg (show ¬ cs S p = 104 by rw [c111]; decide), if_neg (show ¬ cs S p = 107 by rw [c111]; decide), if_pos c111]
    generalize (up (fX6_readDigit (up (up K1 52 15 0) 52 14 (K1 52 14 + 1))).2 64 (3 * k) (fX6_readDigit (up (up K1 52 15 0) 52 14 (K1 52 14 + 1))).1) = JA at s1p lowJ valJ ⊢
    obtain ⟨s2, f2, v2⟩ := two_step hc1 s1p (by omega)
    have s2p := s2.put (i := 3 * k + 1) (v := (fX6_readTwo JA).1)
    obtain ⟨s3, f3, v3⟩ := two_step hc1 s2p (by omega)
    obtain ⟨z1, z2⟩ := pln_end hc1 (s3.put (i := 3 * k + 2) (v := (fX6_readTwo (up (fX6_readTwo JA).2 64 (3 * k + 1) (fX6_readTwo JA).1)).1)) (by omega)
    refine rs_fin hst g16 g62 gne z1 z2 (fun b hb => by rw [up_k (by omega), f3, up_k (by omega), f2]; exact lowJ b (by omega)) (fun q => ?_)
    have hd : dn S 5 (p + 1) = 5 := by
      have hl := dn_le (S := S) 5 (p + 1)
      unfold pln at q
      by_cases z : dn S 5 (p + 1) < 5
      · rw [if_pos z] at q; exact absurd rfl q
      · omega
    have hd4 : dn S 4 (p + 1) = 4 := dn_dec hd
    have hd3 : dn S 3 (p + 1) = 3 := dn_dec hd4
    have hd2 : dn S 2 (p + 1) = 2 := dn_dec hd3
    have hd1 : dn S 1 (p + 1) = 1 := dn_dec hd2
    rw [up_v, up_k (by omega), up_k (by omega), f3, up_k (by omega), up_v, f2]
    exact ⟨(fun z => absurd (c111.symm.trans z) (by decide)), (fun z => absurd (c111.symm.trans z) (by decide)), (fun _ => ⟨valJ hd1, v2 hd3, v3 hd⟩), (fun z => absurd (c111.symm.trans z) (by decide)), (fun z => absurd (c111.symm.trans z) (by decide))⟩
  by_cases c115 : cs S p = 115
  · have hL : fX6_here K = 115 := (e 115 (by decide) (by decide)).mpr c115
    rw [if_pos hL]
    unfold fX6_readStatement_80 fX6_readStatement_100
    rw [if_pos (show (0 : Int32) = 0 from rfl)]
    unfold fX6_readStatement_c104
    rw [if_neg (show ¬ fX6_here K = 119 by rw [hL]; decide)]
    unfold fX6_readStatement_120
    rw [if_neg (show ¬ fX6_here K = 104 by rw [hL]; decide), if_neg (show ¬ fX6_here K = 107 by rw [hL]; decide), if_neg (show ¬ fX6_here K = 111 by rw [hL]; decide), if_pos hL]
    unfold fX6_readStatement_305
    rw [hik]
    have hst : stm S p = stS S p := by unfold stm; rw [if_neg (show ¬ cs S p = 104 by rw [c115]; decide), if_neg (show ¬ cs S p = 107 by rw [c115]; decide), if_neg (show ¬ cs S p = 111 by rw [c115]; decide), if_pos c115]
    generalize (up (fX6_readDigit (up (up K1 52 15 0) 52 14 (K1 52 14 + 1))).2 64 (3 * k) (fX6_readDigit (up (up K1 52 15 0) 52 14 (K1 52 14 + 1))).1) = JA at s1p lowJ valJ ⊢
    have hSE : SE (fX6_take (up (fX6_readNumber (fX6_take JA 61)).2 64 (3 * k + 1) (fX6_readNumber (fX6_take JA 61)).1) 59) K1 (stS S p) ∧ (fX6_take (up (fX6_readNumber (fX6_take JA 61)).2 64 (3 * k + 1) (fX6_readNumber (fX6_take JA 61)).1) 59) 64 = (up (fX6_readNumber (fX6_take JA 61)).2 64 (3 * k + 1) (fX6_readNumber (fX6_take JA 61)).1) 64 ∧ (fX6_readNumber (fX6_take JA 61)).2 64 = JA 64 ∧ (¬ (stS S p).1 = 0 → dn S 1 (p + 1) = 1 ∧ (fX6_readNumber (fX6_take JA 61)).1 = nm S (p + 3) (dn S 3 (p + 3))) := by
      unfold stS
      rcases s1p with ⟨d, m⟩ | ⟨d, m⟩
      · have d : dn S 1 (p + 1) = 1 := d
        rw [if_neg (show ¬ dn S 1 (p + 1) < 1 by omega)]
        obtain ⟨t1, t2, t3⟩ := tk0 (c := 61) hc1 m (by omega) (by decide) (by decide)
        by_cases q : cs S (p + 2) = 61
        · rw [if_pos q]
          have m3 := t1 q
          obtain ⟨r1, r2, r3⟩ := rn0 hc1 m3 (by omega)
          by_cases q3 : dn S 3 (p + 3) < 1
          · rw [if_pos q3]
            have m4 := r1 (show dn S 3 (p + 3) = 0 by omega)
            obtain ⟨u1, u2⟩ := tk1 (c := 59) (m4.put (i := 3 * k + 1) (v := (fX6_readNumber (fX6_take JA 61)).1))
            exact ⟨⟨fun _ => u1, fun z => absurd rfl z⟩, u2, r3.trans t3, fun z => absurd rfl z⟩
          · rw [if_neg q3]
            obtain ⟨m4, hv⟩ := r2 (show 0 < dn S 3 (p + 3) by omega)
            have hle := dn_le (S := S) 3 (p + 3)
            obtain ⟨u1, u2, u3⟩ := tk0 (c := 59) hc1 (m4.put (i := 3 * k + 1) (v := (fX6_readNumber (fX6_take JA 61)).1)) (show p + 3 + dn S 3 (p + 3) < 1000 by omega) (by decide) (by decide)
            by_cases q4 : cs S (p + 3 + dn S 3 (p + 3)) = 59
            · rw [if_pos q4]
              exact ⟨⟨fun z => absurd z (show ¬ (1 : Int32) = 0 by decide), fun _ => u1 q4⟩, u3, r3.trans t3, fun _ => ⟨d, hv⟩⟩
            · rw [if_neg q4]
              exact ⟨⟨fun _ => u2 q4, fun z => absurd rfl z⟩, u3, r3.trans t3, fun z => absurd rfl z⟩
        · rw [if_neg q]
          have m3 := t2 q
          obtain ⟨r1, r2⟩ := rn1 m3
          obtain ⟨u1, u2⟩ := tk1 (c := 59) (r1.put (i := 3 * k + 1) (v := (fX6_readNumber (fX6_take JA 61)).1))
          exact ⟨⟨fun _ => u1, fun z => absurd rfl z⟩, u2, r2.trans t3, fun z => absurd rfl z⟩
      · have d : dn S 1 (p + 1) < 1 := d
        rw [if_pos d]
        obtain ⟨t1, t2⟩ := tk1 (c := 61) m
        obtain ⟨r1, r2⟩ := rn1 t1
        obtain ⟨u1, u2⟩ := tk1 (c := 59) (r1.put (i := 3 * k + 1) (v := (fX6_readNumber (fX6_take JA 61)).1))
        have hz : p + 1 + dn S 1 (p + 1) = p + 1 := by omega
        rw [hz] at u1
        exact ⟨⟨fun _ => u1, fun z => absurd rfl z⟩, u2, r2.trans t2, fun z => absurd rfl z⟩
    obtain ⟨z1, z2, z3, z4⟩ := hSE
    refine rs_fin hst g16 g62 gne z1 z2 (fun b hb => by rw [up_k (by omega), z3]; exact lowJ b (by omega)) (fun q => ?_)
    obtain ⟨y1, y2⟩ := z4 q
    rw [up_v, up_k (by omega), up_k (by omega), z3]
    exact ⟨(fun z => absurd (c115.symm.trans z) (by decide)), (fun z => absurd (c115.symm.trans z) (by decide)), (fun z => absurd (c115.symm.trans z) (by decide)), (fun _ => ⟨valJ y1, y2⟩), (fun z => absurd (c115.symm.trans z) (by decide))⟩
  by_cases c116 : cs S p = 116
  · have hL : fX6_here K = 116 := (e 116 (by decide) (by decide)).mpr c116
    rw [if_neg (show ¬ fX6_here K = 115 by rw [hL]; decide), if_neg (show ¬ fX6_here K = 107 by rw [hL]; decide), if_neg (show ¬ fX6_here K = 104 by rw [hL]; decide), if_neg (show ¬ fX6_here K = 111 by rw [hL]; decide), if_pos hL]
    unfold fX6_readStatement_80 fX6_readStatement_100
    rw [if_pos (show (0 : Int32) = 0 from rfl)]
    unfold fX6_readStatement_c104
    rw [if_neg (show ¬ fX6_here K = 119 by rw [hL]; decide)]
    unfold fX6_readStatement_120
    rw [if_neg (show ¬ fX6_here K = 104 by rw [hL]; decide), if_neg (show ¬ fX6_here K = 107 by rw [hL]; decide), if_neg (show ¬ fX6_here K = 111 by rw [hL]; decide), if_neg (show ¬ fX6_here K = 115 by rw [hL]; decide), if_pos hL]
    unfold fX6_readStatement_305
    rw [hik]
    have hst : stm S p = pln S 3 p := by unfold stm; rw [if_neg (show ¬ cs S p = 104 by rw [c116]; decide), if_neg (show ¬ cs S p = 107 by rw [c116]; decide), if_neg (show ¬ cs S p = 111 by rw [c116]; decide), if_neg (show ¬ cs S p = 115 by rw [c116]; decide), if_pos c116]
    generalize (up (fX6_readDigit (up (up K1 52 15 0) 52 14 (K1 52 14 + 1))).2 64 (3 * k) (fX6_readDigit (up (up K1 52 15 0) 52 14 (K1 52 14 + 1))).1) = JA at s1p lowJ valJ ⊢
    obtain ⟨s2, f2, v2⟩ := rd_step hc1 s1p (by omega)
    have s2p := s2.put (i := 3 * k + 1) (v := (fX6_readDigit JA).1)
    obtain ⟨s3, f3, v3⟩ := rd_step hc1 s2p (by omega)
    obtain ⟨z1, z2⟩ := pln_end hc1 (s3.put (i := 3 * k + 2) (v := (fX6_readDigit (up (fX6_readDigit JA).2 64 (3 * k + 1) (fX6_readDigit JA).1)).1)) (by omega)
    refine rs_fin hst g16 g62 gne z1 z2 (fun b hb => by rw [up_k (by omega), f3, up_k (by omega), f2]; exact lowJ b (by omega)) (fun q => ?_)
    have hd : dn S 3 (p + 1) = 3 := by
      have hl := dn_le (S := S) 3 (p + 1)
      unfold pln at q
      by_cases z : dn S 3 (p + 1) < 3
      · rw [if_pos z] at q; exact absurd rfl q
      · omega
    have hd2 : dn S 2 (p + 1) = 2 := dn_dec hd
    have hd1 : dn S 1 (p + 1) = 1 := dn_dec hd2
    rw [up_v, up_k (by omega), up_k (by omega), f3, up_k (by omega), up_v, f2]
    exact ⟨(fun z => absurd (c116.symm.trans z) (by decide)), (fun z => absurd (c116.symm.trans z) (by decide)), (fun z => absurd (c116.symm.trans z) (by decide)), (fun z => absurd (c116.symm.trans z) (by decide)), (fun _ => ⟨valJ hd1, v2 hd2, v3 hd⟩)⟩
  by_cases c119 : cs S p = 119
  · have hL : fX6_here K = 119 := (e 119 (by decide) (by decide)).mpr c119
    rw [if_neg (show ¬ fX6_here K = 115 by rw [hL]; decide), if_neg (show ¬ fX6_here K = 107 by rw [hL]; decide), if_neg (show ¬ fX6_here K = 104 by rw [hL]; decide), if_neg (show ¬ fX6_here K = 111 by rw [hL]; decide), if_neg (show ¬ fX6_here K = 116 by rw [hL]; decide), if_pos hL]
    unfold fX6_readStatement_80 fX6_readStatement_100
    rw [if_pos (show (0 : Int32) = 0 from rfl)]
    unfold fX6_readStatement_c104
    rw [if_pos hL]
    unfold fX6_readStatement_120
    rw [if_neg (show ¬ fX6_here K = 104 by rw [hL]; decide), if_neg (show ¬ fX6_here K = 107 by rw [hL]; decide), if_neg (show ¬ fX6_here K = 111 by rw [hL]; decide), if_neg (show ¬ fX6_here K = 115 by rw [hL]; decide), if_neg (show ¬ fX6_here K = 116 by rw [hL]; decide)]
    unfold fX6_readStatement_305
    have hst : stm S p = pln S 0 p := by unfold stm; rw [if_neg (show ¬ cs S p = 104 by rw [c119]; decide), if_neg (show ¬ cs S p = 107 by rw [c119]; decide), if_neg (show ¬ cs S p = 111 by rw [c119]; decide), if_neg (show ¬ cs S p = 115 by rw [c119]; decide), if_neg (show ¬ cs S p = 116 by rw [c119]; decide), if_pos c119]
    obtain ⟨z1, z2⟩ := pln_end hc1 s0 (by omega)
    refine rs_fin hst g16 g62 gne z1 z2 (fun b hb => by rw [m2f]) (fun q => ?_)
    exact ⟨(fun z => absurd (c119.symm.trans z) (by decide)), (fun z => absurd (c119.symm.trans z) (by decide)), (fun z => absurd (c119.symm.trans z) (by decide)), (fun z => absurd (c119.symm.trans z) (by decide)), (fun z => absurd (c119.symm.trans z) (by decide))⟩
  have hb : ∀ x : Int32, ¬ x = -1 → ¬ x = -9 → ¬ cs S p = x → ¬ fX6_here K = x := fun x h1 h9 hx z => hx ((e x h1 h9).mp z)
  have b104 := hb 104 (by decide) (by decide) c104
  have b107 := hb 107 (by decide) (by decide) c107
  have b111 := hb 111 (by decide) (by decide) c111
  have b115 := hb 115 (by decide) (by decide) c115
  have b116 := hb 116 (by decide) (by decide) c116
  have b119 := hb 119 (by decide) (by decide) c119
  rw [if_neg b115, if_neg b107, if_neg b104, if_neg b111, if_neg b116, if_neg b119]
  unfold fX6_readStatement_80 fX6_readStatement_100
  rw [if_neg (show ¬ (1 : Int32) = 0 by decide), Int32.add_zero]
  unfold fX6_readStatement_c104
  rw [if_neg b119]
  unfold fX6_readStatement_120
  rw [if_neg b104, if_neg b107, if_neg b111, if_neg b115, if_neg b116]
  unfold fX6_readStatement_305
  rw [hik]
  have hst : stm S p = (0, p) := by unfold stm; rw [if_neg c104, if_neg c107, if_neg c111, if_neg c115, if_neg c116, if_neg c119]
  have mb : MS (up (up K1 52 15 1) 52 14 (K1 52 14)) K1 p 1 := ⟨fun a c ha hc => by rw [up_o (by omega), up_o (by omega)], by rw [up_v]; exact m1.2.1, by rw [up_k (by omega), up_v]⟩
  have mbf : (up (up K1 52 15 1) 52 14 (K1 52 14)) 64 = K 64 := by rw [up_ne 64 (by omega), up_ne 64 (by omega), g64]
  generalize up (up K1 52 15 1) 52 14 (K1 52 14) = KB at mb mbf ⊢
  have er : fX6_readDigit KB = (0, up KB 52 15 1) := by unfold fX6_readDigit; rw [if_neg (by rw [mb.2.2]; decide)]
  rw [er]
  dsimp only
  obtain ⟨t1, t2⟩ := tk1 (c := 59) ((mb.bad).put (i := 3 * k) (v := 0))
  refine rs_fin (r := (0, p)) hst g16 g62 gne ⟨fun _ => t1, fun z => absurd rfl z⟩ t2 (fun b hb => by rw [up_k (by omega), up_ne2 (by omega), mbf]) (fun z => absurd rfl z)
