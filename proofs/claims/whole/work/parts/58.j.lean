/-! the reading of all letters, on both sides -/
theorem cs_congr {I J : HI} (h7 : J 47 1 = I 47 1) (h8 : J 48 = I 48) : cs J = cs I := by
  funext p
  exact signAt_congr h7 h8 (nI p)
theorem dn_congr {I J : HI} (h : cs J = cs I) : ∀ m p, dn J m p = dn I m p
  | 0, _ => rfl
  | m + 1, p => by unfold dn; rw [h, dn_congr h m (p + 1)]
theorem stm_congr {I J : HI} (h : cs J = cs I) (p : Nat) : stm J p = stm I p := by
  unfold stm pln stS
  rw [h, dn_congr h, dn_congr h, dn_congr h, dn_congr h, dn_congr h, dn_congr h, dn_congr h]
theorem st_eq' {J : HI} {p : Nat} (h : J 47 4 = nI p) (hp : p < 300) : fX0_passStatement J = ((stm J p).1, up J 47 4 (nI (stm J p).2)) := by
  have e : J = up J 47 4 (nI p) := by rw [← h, up_id]
  have q := st_eq (S := J) hp
  rw [← e] at q
  exact q
theorem cs_lt {I : HI} {q : Nat} (hm : vp_in (I 47 1) 97) (hq : q < 1000) (h : ¬ cs I q = -9) : q < ix (I 47 1) := by
  have := (signAt_in hm h).2
  rw [ix_nI (by omega)] at this
  exact this
theorem pln_ok {I : HI} {d p : Nat} (hm : vp_in (I 47 1) 97) (hp : p + d < 400) (h : ¬ (pln I d p).1 = 0) : (pln I d p).2 = p + d + 2 ∧ p + d + 2 ≤ ix (I 47 1) := by
  unfold pln at h ⊢
  by_cases q : dn I d (p + 1) < d
  · rw [if_pos q] at h; exact absurd rfl h
  · rw [if_neg q] at h ⊢
    by_cases q2 : cs I (p + 1 + d) = 59
    · rw [if_pos q2]
      have := cs_lt (q := p + 1 + d) hm (by omega) (by rw [q2]; decide)
      exact ⟨by show p + 1 + d + 1 = _; omega, by omega⟩
    · rw [if_neg q2] at h; exact absurd rfl h
theorem stm_ok {I : HI} {p : Nat} (hm : vp_in (I 47 1) 97) (hp : p < 300) (h : ¬ (stm I p).1 = 0) : p + 2 ≤ (stm I p).2 ∧ (stm I p).2 ≤ ix (I 47 1) ∧ (cs I p = 104 ∨ cs I p = 107 ∨ cs I p = 111 ∨ cs I p = 115 ∨ cs I p = 116 ∨ cs I p = 119) := by
  unfold stm at h ⊢
  by_cases c1 : cs I p = 104
  · rw [if_pos c1] at h ⊢
    have := pln_ok hm (by omega) h
    exact ⟨by omega, by omega, Or.inl c1⟩
  rw [if_neg c1] at h ⊢
  by_cases c2 : cs I p = 107
  · rw [if_pos c2] at h ⊢
    have := pln_ok hm (by omega) h
    exact ⟨by omega, by omega, Or.inr (Or.inl c2)⟩
  rw [if_neg c2] at h ⊢
  by_cases c3 : cs I p = 111
  · rw [if_pos c3] at h ⊢
    have := pln_ok hm (by omega) h
    exact ⟨by omega, by omega, Or.inr (Or.inr (Or.inl c3))⟩
  rw [if_neg c3] at h ⊢
  by_cases c4 : cs I p = 115
  · rw [if_pos c4] at h ⊢
    refine ⟨?_, ?_, Or.inr (Or.inr (Or.inr (Or.inl c4)))⟩ <;>
    · unfold stS at h ⊢
      have hl := dn_le (S := I) 3 (p + 3)
      by_cases q1 : dn I 1 (p + 1) < 1
      · rw [if_pos q1] at h; exact absurd rfl h
      rw [if_neg q1] at h ⊢
      by_cases q2 : cs I (p + 2) = 61
      · rw [if_pos q2] at h ⊢
        by_cases q3 : dn I 3 (p + 3) < 1
        · rw [if_pos q3] at h; exact absurd rfl h
        rw [if_neg q3] at h ⊢
        by_cases q4 : cs I (p + 3 + dn I 3 (p + 3)) = 59
        · rw [if_pos q4]
          have := cs_lt (q := p + 3 + dn I 3 (p + 3)) hm (by omega) (by rw [q4]; decide)
          dsimp only
          omega
        · rw [if_neg q4] at h; exact absurd rfl h
      · rw [if_neg q2] at h; exact absurd rfl h
  rw [if_neg c4] at h ⊢
  by_cases c5 : cs I p = 116
  · rw [if_pos c5] at h ⊢
    have := pln_ok hm (by omega) h
    exact ⟨by omega, by omega, Or.inr (Or.inr (Or.inr (Or.inr (Or.inl c5))))⟩
  rw [if_neg c5] at h ⊢
  by_cases c6 : cs I p = 119
  · rw [if_pos c6] at h ⊢
    have := pln_ok hm (by omega) h
    exact ⟨by omega, by omega, Or.inr (Or.inr (Or.inr (Or.inr (Or.inr c6))))⟩
  rw [if_neg c6] at h
  exact absurd rfl h
def Sm (I S K : HI) (t : Nat) : Prop := ∃ q, q < 97 ∧ S 49 t = nI q ∧ K 62 t = nI q ∧ K 63 t = cs I q ∧ ¬ (stm I q).1 = 0 ∧ Val I q (K 64 (3 * t)) (K 64 (3 * t + 1)) (K 64 (3 * t + 2))
def Cf (I S : HI) : Prop := Fr (fun a => a ≠ 47 ∧ a ≠ 49) I S ∧ S 47 1 = I 47 1
def Mf (J K : HI) : Prop := ∀ a b, a ≠ 62 → a ≠ 63 → a ≠ 64 → ¬ (a = 52 ∧ (b = 14 ∨ b = 15 ∨ b = 16)) → K a b = J a b
def Pi (I J S K : HI) (i p : Nat) : Prop := Cf I S ∧ Mf J K ∧ (S 47 4 = nI p ∧ S 47 3 = nI i) ∧ (K 52 14 = nI p ∧ K 52 15 = 0 ∧ K 52 16 = nI i) ∧ 2 * i ≤ p ∧ p ≤ ix (I 47 1) ∧ ∀ t, t < i → Sm I S K t
def Pz (I J : HI) (r : Int32 × HI) (K : HI) : Prop := Cf I r.2 ∧ Mf J K ∧ ((r.1 = 0 ∧ ¬ K 52 15 = 0 ∧ r.2 47 4 = K 52 14) ∨ (¬ r.1 = 0 ∧ K 52 15 = 0 ∧ ∃ m, m < 50 ∧ r.2 47 3 = nI m ∧ K 52 16 = nI m ∧ ∀ t, t < m → Sm I r.2 K t))
theorem Rc.mf {I J K : HI} (h : Rc I J) (hk : Mf J K) : Rc I K := h.c rfl rfl (hk 52 13 (by omega) (by omega) (by omega) (by omega)) (by funext b; exact hk 61 b (by omega) (by omega) (by omega) (by omega))
theorem read_loop {I J : HI} (hc : Rc I J) : ∀ f i p (S K : HI), i + f = 49 → Pi I J S K i p → (i = 0 ∨ p < ix (I 47 1)) → Pz I J (foE (96 - i) i (fun (i : Nat) (s : HI) => fX0_passAll_b12 i s) (fun (s : HI) => fX0_passAll_x12 s) S) (wh (50 - i) (fun (s : HI) => fX6_rink_b20 s) K)
  | 0, i, p, S, K, hi, h, hp => by
    exfalso
    obtain ⟨-, -, -, -, h1, h2, -⟩ := h
    have := vb hc.1
    omega
  | f + 1, i, p, S, K, hi, h, hp => by
    obtain ⟨⟨cf, c1⟩, mf, ⟨s4, s3⟩, ⟨k14, k15, k16⟩, h1, h2, h3⟩ := h
    have hm := hc.1
    have bN := vb hm
    have hcK := hc.mf mf
    rw [show 96 - i = (95 - i) + 1 by omega, show 50 - i = (49 - i) + 1 by omega, foE_s, wh_s]
    have hb20 : fX6_rink_b20 K = .inr (fX6_readStatement K) := by
      unfold fX6_rink_b20
      rw [if_pos k15]
      by_cases q : K 52 16 = 0
      · rw [if_pos q]
      · rw [if_neg q, if_neg]
        rw [hcK.2.1, k14, vx hm]
        rcases hp with z | z
        · subst z; exact absurd k16 q
        · exact nI_ge z (by omega)
    obtain ⟨r14, r15a, r15b, r16, ⟨r62, r63⟩, rne, rlow, rval⟩ := rs_eq hcK k14 k15 k16 (show p < 200 by omega) (show i < 60 by omega)
    have hA14 : vp_in (K 52 14) 97 := by rw [k14]; exact vp_nI (by omega) (by omega)
    have hA13 : vp_in (K 52 13) 97 := by rw [hcK.2.1]; exact hm
    have rfr := (readStatement_facts hA14 hA13).1
    have mf' : Mf J (fX6_readStatement K) := fun a b h1 h2 h3 h4 => (rfr a b h1 h2 h3 h4).trans (mf a b h1 h2 h3 h4)
    have hU : cs (up S 49 i (S 47 4)) = cs I := cs_congr (by rw [up_ne2 (by omega)]; exact c1) (by rw [up_ne 48 (by omega)]; exact cf 48 (by omega))
    have hps : fX0_passStatement (up S 49 i (S 47 4)) = ((stm I p).1, up (up S 49 i (nI p)) 47 4 (nI (stm I p).2)) := by
      rw [st_eq' (p := p) (by rw [up_ne2 (by omega)]; exact s4) (by omega), stm_congr hU, s4]
    have hb12 : fX0_passAll_b12 i S = if (stm I p).1 = 0 then .inl (0, up (up S 49 i (nI p)) 47 4 (nI (stm I p).2)) else if nI (stm I p).2 < I 47 1 then .inr (up (up (up S 49 i (nI p)) 47 4 (nI (stm I p).2)) 47 3 (nI (i + 1))) else .inl (1, up (up (up S 49 i (nI p)) 47 4 (nI (stm I p).2)) 47 3 (nI (i + 1))) := by
      unfold fX0_passAll_b12 fX0_passAll_c60
      rw [hps]
      have eA : up (up S 49 i (nI p)) 47 4 (nI (stm I p).2) 47 3 + 1 = nI (i + 1) := by
        rw [up_k (by omega), up_ne2 (by omega), s3]; exact nv_iadd (b := 1) rfl rfl
      have eB : up (up (up S 49 i (nI p)) 47 4 (nI (stm I p).2)) 47 3 (nI (i + 1)) 47 4 = nI (stm I p).2 := by rw [up_k (by omega), up_v]
      have eC : up (up (up S 49 i (nI p)) 47 4 (nI (stm I p).2)) 47 3 (nI (i + 1)) 47 1 = I 47 1 := by rw [up_k (by omega), up_k (by omega), up_ne2 (by omega)]; exact c1
      show (if (stm I p).1 = 0 then Sum.inl (0, up (up S 49 i (nI p)) 47 4 (nI (stm I p).2)) else (if (up (up (up S 49 i (nI p)) 47 4 (nI (stm I p).2)) 47 3 (up (up S 49 i (nI p)) 47 4 (nI (stm I p).2) 47 3 + 1)) 47 4 < (up (up (up S 49 i (nI p)) 47 4 (nI (stm I p).2)) 47 3 (up (up S 49 i (nI p)) 47 4 (nI (stm I p).2) 47 3 + 1)) 47 1 then Sum.inr (up (up (up S 49 i (nI p)) 47 4 (nI (stm I p).2)) 47 3 (up (up S 49 i (nI p)) 47 4 (nI (stm I p).2) 47 3 + 1)) else Sum.inl (1, up (up (up S 49 i (nI p)) 47 4 (nI (stm I p).2)) 47 3 (up (up S 49 i (nI p)) 47 4 (nI (stm I p).2) 47 3 + 1)))) = _
      rw [eA, eB, eC]
    rw [hb12, hb20]
    by_cases q : (stm I p).1 = 0
    · rw [if_pos q]
      show Pz I J (0, up (up S 49 i (nI p)) 47 4 (nI (stm I p).2)) (wh (49 - i) _ (fX6_readStatement K))
      have hbad : ¬ fX6_readStatement K 52 15 = 0 := by rw [r15a q]; decide
      rw [show 49 - i = (48 - i) + 1 by omega, wh_s]
      have e2 : fX6_rink_b20 (fX6_readStatement K) = .inl (fX6_readStatement K) := by unfold fX6_rink_b20; rw [if_neg hbad]
      rw [e2]
      refine ⟨⟨fun a ha => ?_, ?_⟩, mf', Or.inl ⟨rfl, hbad, ?_⟩⟩
      · dsimp only
        rw [up_ne a (by omega), up_ne a (by omega)]; exact cf a ha
      · dsimp only
        rw [up_k (by omega), up_ne2 (by omega)]; exact c1
      · show up (up S 49 i (nI p)) 47 4 (nI (stm I p).2) 47 4 = fX6_readStatement K 52 14
        rw [up_v, r14]
    · rw [if_neg q]
      obtain ⟨g1, g2, g3⟩ := stm_ok hm (by omega) q
      have hcf : Cf I (up (up (up S 49 i (nI p)) 47 4 (nI (stm I p).2)) 47 3 (nI (i + 1))) := ⟨fun a ha => by rw [up_ne a (by omega), up_ne a (by omega), up_ne a (by omega)]; exact cf a ha, by rw [up_k (by omega), up_k (by omega), up_ne2 (by omega)]; exact c1⟩
      have hS49 : ∀ t, up (up (up S 49 i (nI p)) 47 4 (nI (stm I p).2)) 47 3 (nI (i + 1)) 49 t = up S 49 i (nI p) 49 t := fun t => by rw [up_ne2 (by omega), up_ne2 (by omega)]
      have hcs : fX6_here K = cs I p := by
        rcases here_cs hcK (b := 0) ⟨fun _ _ _ _ => rfl, k14, k15⟩ (show p < 1000 by omega) with ⟨z, -⟩ | ⟨-, z⟩
        · exact z
        · rw [z] at g3
          exact absurd g3 (by decide)
      have hSm : ∀ t, t < i + 1 → Sm I (up (up (up S 49 i (nI p)) 47 4 (nI (stm I p).2)) 47 3 (nI (i + 1))) (fX6_readStatement K) t := fun t ht => by
        by_cases z : t = i
        · subst z
          exact ⟨p, by omega, by rw [hS49, up_v], r62, by rw [r63]; exact hcs, q, rval q⟩
        · obtain ⟨q', a1, a2, a3, a4, a5, a6⟩ := h3 t (by omega)
          refine ⟨q', a1, by rw [hS49, up_k z]; exact a2, by rw [(rne t z).1]; exact a3, by rw [(rne t z).2]; exact a4, a5, ?_⟩
          rw [rlow _ (by omega), rlow _ (by omega), rlow _ (by omega)]
          exact a6
      have e4 : up (up (up S 49 i (nI p)) 47 4 (nI (stm I p).2)) 47 3 (nI (i + 1)) 47 4 = nI (stm I p).2 := by rw [up_k (by omega), up_v]
      have e3 : up (up (up S 49 i (nI p)) 47 4 (nI (stm I p).2)) 47 3 (nI (i + 1)) 47 3 = nI (i + 1) := up_v
      generalize up (up (up S 49 i (nI p)) 47 4 (nI (stm I p).2)) 47 3 (nI (i + 1)) = S2 at hcf hSm e4 e3 ⊢
      by_cases z : nI (stm I p).2 < I 47 1
      · have z2 : (stm I p).2 < ix (I 47 1) := by
          rcases Nat.lt_or_ge (stm I p).2 (ix (I 47 1)) with y | y
          · exact y
          · rw [vx hm] at z
            exact absurd z (nI_nlt y (by omega))
        rw [if_pos z]
        show Pz I J (foE (95 - i) (i + 1) _ _ S2) (wh (49 - i) _ (fX6_readStatement K))
        have ih := read_loop hc f (i + 1) (stm I p).2 S2 (fX6_readStatement K) (by omega) ⟨hcf, mf', ⟨e4, e3⟩, ⟨r14, r15b q, r16⟩, by omega, g2, hSm⟩ (Or.inr z2)
        rw [show 96 - (i + 1) = 95 - i by omega, show 50 - (i + 1) = 49 - i by omega] at ih
        exact ih
      · rw [if_neg z]
        show Pz I J (1, S2) (wh (49 - i) _ (fX6_readStatement K))
        rw [show 49 - i = (48 - i) + 1 by omega, wh_s]
        have e2 : fX6_rink_b20 (fX6_readStatement K) = .inl (fX6_readStatement K) := by
          unfold fX6_rink_b20
          rw [if_pos (r15b q), if_neg (by rw [r16]; exact nI_ne0 (by omega) (by omega)), if_pos]
          rw [r14, (hc.mf mf').2.1]
          exact Int32.not_lt.mp z
        rw [e2]
        exact ⟨hcf, mf', Or.inr ⟨show ¬ (1 : Int32) = 0 by decide, r15b q, i + 1, by omega, e3, r16, hSm⟩⟩
