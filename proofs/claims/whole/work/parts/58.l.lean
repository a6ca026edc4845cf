def Tl (I A S' K' : HI) (q i d : Nat) : Prop := (fX0_isAsItMust A (nI q) (nI (6 - d)) = 0 ∧ (fX6_comes K' i).1 = 0 ∧ (fX6_comes K' i).2 56 = K' 56) ∨ (¬ fX0_isAsItMust A (nI q) (nI (6 - d)) = 0 ∧ ¬ (fX6_comes K' i).1 = 0 ∧ R (fX0_tellOne S' (nI q)) (up (fX6_comes K' i).2 52 13 (I 47 1)) ∧ (if cs I q = 116 then nI (6 - d) + (-1) else if cs I q = 119 then 6 else nI (6 - d)) = nI (6 - ix (fX0_tellOne S' (nI q) 1 6)))
theorem within_iff {x : Int32} {b k : Nat} (hx : vp_in x k) (hk : k < 2 ^ 31) (hb : b < 2 ^ 31) : fX5_within x 0 (nI b) = 0 ↔ b < ix x := by
  have bx := vb hx
  unfold fX5_within
  rw [if_neg (by rw [vx hx]; exact nI_pos (by omega))]
  constructor
  · intro h
    rcases Nat.lt_or_ge b (ix x) with z | z
    · exact z
    · rw [if_neg (by rw [vx hx]; exact nI_nlt z (by omega))] at h
      exact absurd h (by decide)
  · intro h
    rw [if_pos (by rw [vx hx]; exact nI_lt h (by omega))]
set_option maxHeartbeats 8000000 in
theorem tell1 {I A S' K' : HI} {q i d : Nat} (hR : R S' (up K' 52 13 (I 47 1))) (h47 : S' 47 1 = I 47 1) (h48 : S' 48 = I 48) (hA7 : A 47 1 = I 47 1) (hA8 : A 48 = I 48) (hm : vp_in (I 47 1) 97) (hq : q < 97) (h63 : K' 63 i = cs I q) (hok : ¬ (stm I q).1 = 0) (hV : Val I q (K' 64 (3 * i)) (K' 64 (3 * i + 1)) (K' 64 (3 * i + 2))) (hd : ix (S' 1 6) = d) : Tl I A S' K' q i d := by
  have sA : ∀ k, fX0_signAt A (nI k) = cs I k := fun k => signAt_congr hA7 hA8 (nI k)
  have sS : ∀ k, fX0_signAt S' (nI k) = cs I k := fun k => signAt_congr h47 h48 (nI k)
  have e1 : nI q + 1 = nI (q + 1) := nv_iadd (b := 1) rfl rfl
  have e2 : nI q + 2 = nI (q + 2) := nv_iadd (b := 2) rfl rfl
  have e3 : nI q + 3 = nI (q + 3) := nv_iadd (b := 3) rfl rfl
  have e4 : nI q + 4 = nI (q + 4) := nv_iadd (b := 4) rfl rfl
  have gA : ∀ k, fX0_digitAt A (nI k) = cs I k - 48 := fun k => by unfold fX0_digitAt; rw [sA]
  have gS : ∀ k, fX0_digitAt S' (nI k) = cs I k - 48 := fun k => by unfold fX0_digitAt; rw [sS]
  have nA : ∀ k m, fX0_numberAt A (nI k) m = nm I k m := fun k m => by rw [numberAt_congr hA7 hA8]; exact numberAt_nm m
  have nS : ∀ k m, fX0_numberAt S' (nI k) m = nm I k m := fun k m => by rw [numberAt_congr h47 h48]; exact numberAt_nm m
  have d6 := hR.d6
  have hdr : K' 52 5 = S' 1 6 := by have z := hR.drawn; rw [up_k (by omega)] at z; exact z
  obtain ⟨V104, V107, V111, V115, V116⟩ := hV
  unfold Tl
  obtain ⟨-, -, g3⟩ := stm_ok hm (by omega) hok
  rcases g3 with cL | cL | cL | cL | cL | cL
  · have a1 := sA q
    have a2 := sS q
    rw [cL] at a1 a2 h63
    have hst : stm I q = pln I 4 q := by unfold stm; rw [if_pos cL]
    rw [hst] at hok
    unfold fX0_isAsItMust fX6_comes fX0_tellOne
    rw [a1, a2, h63, if_pos (show (104 : Int32) = 104 from rfl), if_pos (show (104 : Int32) = 104 from rfl), if_pos (show (104 : Int32) = 104 from rfl)]
    have hdn := pln_dn hok
    have dg := dn_dig 4 (q + 1) hdn
    have va : vp_in (cs I (q + 1) - 48) 10 := dig_in (dg 0 (by omega))
    have vn := nm2_in (dg 1 (by omega)) (dg 2 (by omega))
    have vc : vp_in (cs I (q + 4) - 48) 10 := dig_in (dg 3 (by omega))
    obtain ⟨w1, w2, w3⟩ := V104 cL
    rw [e1, e2, e4, gA, nA, gA, gS, nS, gS, w1, w2, w3, cL, if_neg (show ¬ (104 : Int32) = 116 by decide), if_neg (show ¬ (104 : Int32) = 119 by decide)]
    unfold fX6_iceComes_h
    rw [isFoot6_eq, isHour6_eq, show fX6_in (cs I (q + 4) - 48).toInt64 (0 : Int32).toInt64 (3 : Int32).toInt64 = fX5_within (cs I (q + 4) - 48) 0 3 from in6_eq _ 0 3]
    by_cases h1 : fX5_isFoot (cs I (q + 1) - 48) = 0
    · rw [if_pos (spot0.mpr (Or.inl h1)), if_pos h1]; exact Or.inl ⟨rfl, rfl, rfl⟩
    by_cases h2 : fX5_isHour (nm I (q + 2) 2) = 0
    · rw [if_pos (spot0.mpr (Or.inr h2)), if_neg h1, if_pos h2]; exact Or.inl ⟨rfl, rfl, rfl⟩
    rw [if_neg (fun z => (spot0.mp z).elim h1 h2), if_neg h1, if_neg h2]
    have hw : fX5_within (cs I (q + 4) - 48) 0 3 = 0 ↔ 3 < ix (cs I (q + 4) - 48) := within_iff (b := 3) vc (by omega) (by omega)
    have b1 := vb (isFoot_in h1)
    have b2 := vb (isHour_in h2)
    have bc := vb vc
    rcases Nat.lt_or_ge 3 (ix (cs I (q + 4) - 48)) with z | z
    · rw [if_pos (show (3 : Int32) < cs I (q + 4) - 48 by rw [vx vc]; exact nI_lt (a := 3) z (by omega)), if_pos (hw.mpr z)]
      exact Or.inl ⟨rfl, rfl, rfl⟩
    · rw [if_neg (show ¬ (3 : Int32) < cs I (q + 4) - 48 by rw [vx vc]; exact nI_nlt (a := 3) z (by omega)), if_neg (show ¬ fX5_within (cs I (q + 4) - 48) 0 3 = 0 from fun y => by have := hw.mp y; omega)]
      refine Or.inr ⟨by decide, show ¬ (1 : Int32) = 0 by decide, ?_, ?_⟩
      · dsimp only
        rw [up_comm (by omega), spot_eq]
        exact hR.upH (by rw [vx vc]; exact vp_nI (by omega) (by omega))
      · rw [up_ne2 (by omega), hd]
  · have a1 := sA q
    have a2 := sS q
    rw [cL] at a1 a2 h63
    have hst : stm I q = pln I 2 q := by unfold stm; rw [if_neg (show ¬ cs I q = 104 by rw [cL]; decide), if_pos cL]
    rw [hst] at hok
    unfold fX0_isAsItMust fX6_comes fX0_tellOne
    rw [a1, a2, h63, if_neg (show ¬ (107 : Int32) = 104 by decide), if_pos (show (107 : Int32) = 107 from rfl), if_neg (show ¬ (107 : Int32) = 104 by decide), if_pos (show (107 : Int32) = 107 from rfl), if_neg (show ¬ (107 : Int32) = 104 by decide), if_pos (show (107 : Int32) = 107 from rfl)]
    have hdn := pln_dn hok
    have dg := dn_dig 2 (q + 1) hdn
    have va : vp_in (cs I (q + 1) - 48) 10 := dig_in (dg 0 (by omega))
    have vf : vp_in (cs I (q + 2) - 48) 10 := dig_in (dg 1 (by omega))
    obtain ⟨w1, w2⟩ := V107 cL
    have gU : fX0_digitAt (up S' 1 3 (fX0_digitAt S' (nI (q + 1)))) (nI (q + 2)) = cs I (q + 2) - 48 := by
      unfold fX0_digitAt
      rw [signAt_congr (I := S') (up_ne2 (by omega)) (up_ne 48 (by omega)), sS]
    rw [e1, e2, gU, gA, gS, w1, w2, cL, if_neg (show ¬ (107 : Int32) = 116 by decide), if_neg (show ¬ (107 : Int32) = 119 by decide)]
    have hw : fX5_within (cs I (q + 1) - 48) 0 6 = 0 ↔ 6 < ix (cs I (q + 1) - 48) := within_iff (b := 6) va (by omega) (by omega)
    have ba := vb va
    rcases Nat.lt_or_ge 6 (ix (cs I (q + 1) - 48)) with z | z
    · rw [if_pos (show (7 : Int32) ≤ cs I (q + 1) - 48 by rw [vx va]; exact nI_le (a := 7) (by omega) (by omega))]
      refine Or.inl ⟨hw.mpr z, rfl, ?_⟩
      dsimp only
      rw [up_ne 56 (by omega), up_ne 56 (by omega)]
    · rw [if_neg (show ¬ (7 : Int32) ≤ cs I (q + 1) - 48 by rw [vx va]; exact nI_ge (b := 7) (by omega) (by omega))]
      refine Or.inr ⟨fun y => by have := hw.mp y; omega, show ¬ (1 : Int32) = 0 by decide, ?_, ?_⟩
      · dsimp only
        rw [up_comm2 (j := 52) (k := 4) (k' := 13) (by omega), up_comm2 (j := 52) (k := 3) (k' := 13) (by omega)]
        exact hR.upK (by rw [vx va]; exact vp_nI (by omega) (by omega)) vf
      · rw [up_k (by omega), up_k (by omega), hd]
  · have a1 := sA q
    have a2 := sS q
    rw [cL] at a1 a2 h63
    have hst : stm I q = pln I 5 q := by unfold stm; rw [if_neg (show ¬ cs I q = 104 by rw [cL]; decide), if_neg (show ¬ cs I q = 107 by rw [cL]; decide), if_pos cL]
    rw [hst] at hok
    unfold fX0_isAsItMust fX6_comes fX0_tellOne
    rw [a1, a2, h63, if_neg (show ¬ (111 : Int32) = 104 by decide), if_neg (show ¬ (111 : Int32) = 107 by decide), if_pos (show (111 : Int32) = 111 from rfl), if_neg (show ¬ (111 : Int32) = 104 by decide), if_neg (show ¬ (111 : Int32) = 107 by decide), if_pos (show (111 : Int32) = 111 from rfl), if_neg (show ¬ (111 : Int32) = 104 by decide), if_neg (show ¬ (111 : Int32) = 107 by decide), if_pos (show (111 : Int32) = 111 from rfl)]
    have hdn := pln_dn hok
    have dg := dn_dig 5 (q + 1) hdn
    have vn := nm2_in (dg 1 (by omega)) (dg 2 (by omega))
    have vc : vp_in (nm I (q + 4) 2) 100 := nm2_in (q := q + 4) (dg 3 (by omega)) (dg 4 (by omega))
    obtain ⟨w1, w2, w3⟩ := V111 cL
    rw [e1, e2, e4, gA, nA, gS, nS, nS, w1, w2, w3, cL, if_neg (show ¬ (111 : Int32) = 116 by decide), if_neg (show ¬ (111 : Int32) = 119 by decide)]
    unfold fX6_iceComes_o
    rw [isFoot6_eq, isHour6_eq, show fX6_in (nm I (q + 4) 2).toInt64 (0 : Int32).toInt64 (99 : Int32).toInt64 = fX5_within (nm I (q + 4) 2) 0 99 from in6_eq _ 0 99]
    by_cases h1 : fX5_isFoot (cs I (q + 1) - 48) = 0
    · rw [if_pos h1]; exact Or.inl ⟨spot0.mpr (Or.inl h1), rfl, rfl⟩
    by_cases h2 : fX5_isHour (nm I (q + 2) 2) = 0
    · rw [if_neg h1, if_pos h2]; exact Or.inl ⟨spot0.mpr (Or.inr h2), rfl, rfl⟩
    have hw : fX5_within (nm I (q + 4) 2) 0 99 = 0 ↔ 99 < ix (nm I (q + 4) 2) := within_iff (b := 99) vc (by omega) (by omega)
    have bc := vb vc
    rw [if_neg h1, if_neg h2, if_neg (show ¬ fX5_within (nm I (q + 4) 2) 0 99 = 0 from fun y => by have := hw.mp y; omega)]
    refine Or.inr ⟨fun z => (spot0.mp z).elim h1 h2, show ¬ (1 : Int32) = 0 by decide, ?_, ?_⟩
    · dsimp only
      rw [up_comm (by omega), spot_eq]
      exact hR.upO vc
    · rw [up_ne2 (by omega), hd]
  · have a1 := sA q
    have a2 := sS q
    rw [cL] at a1 a2 h63
    have hst : stm I q = stS I q := by unfold stm; rw [if_neg (show ¬ cs I q = 104 by rw [cL]; decide), if_neg (show ¬ cs I q = 107 by rw [cL]; decide), if_neg (show ¬ cs I q = 111 by rw [cL]; decide), if_pos cL]
    rw [hst] at hok
    unfold fX0_isAsItMust fX6_comes fX0_tellOne
    rw [a1, a2, h63, if_neg (show ¬ (115 : Int32) = 104 by decide), if_neg (show ¬ (115 : Int32) = 107 by decide), if_neg (show ¬ (115 : Int32) = 111 by decide), if_pos (show (115 : Int32) = 115 from rfl), if_neg (show ¬ (115 : Int32) = 104 by decide), if_neg (show ¬ (115 : Int32) = 107 by decide), if_neg (show ¬ (115 : Int32) = 111 by decide), if_pos (show (115 : Int32) = 115 from rfl), if_neg (show ¬ (115 : Int32) = 104 by decide), if_neg (show ¬ (115 : Int32) = 107 by decide), if_neg (show ¬ (115 : Int32) = 111 by decide), if_pos (show (115 : Int32) = 115 from rfl)]
    obtain ⟨sn, dg⟩ := set_num (by omega) hok
    have va := dig_in dg
    obtain ⟨w1, w2⟩ := V115 cL
    have snA : fX0_settingNumber A (nI q) = nm I (q + 3) (dn I 3 (q + 3)) := by
      have ec : fX0_signAt A = fX0_signAt I := by funext z; exact signAt_congr hA7 hA8 z
      rw [← sn]
      unfold fX0_settingNumber fX0_settingNumber_x2 fX0_settingNumber_b2 fX0_numberAt fX0_numberAt_b5
      rw [ec]
    have snS : fX0_settingNumber S' (nI q) = nm I (q + 3) (dn I 3 (q + 3)) := by
      have ec : fX0_signAt S' = fX0_signAt I := by funext z; exact signAt_congr h47 h48 z
      rw [← sn]
      unfold fX0_settingNumber fX0_settingNumber_x2 fX0_settingNumber_b2 fX0_numberAt fX0_numberAt_b5
      rw [ec]
    rw [e1, gA, gS, snA, snS, w1, w2, cL, if_neg (show ¬ (115 : Int32) = 116 by decide), if_neg (show ¬ (115 : Int32) = 119 by decide)]
    unfold fX6_settingComes fX5_fitsSetting
    rw [show fX6_in (cs I (q + 1) - 48).toInt64 0 4 = fX5_within (cs I (q + 1) - 48) 0 4 from in6_eq _ 0 4]
    by_cases h1 : fX5_within (cs I (q + 1) - 48) 0 4 = 0
    · rw [if_pos h1, if_pos h1]; exact Or.inl ⟨rfl, rfl, rfl⟩
    have v5 := within_in (b := 4) h1 (by omega)
    rw [if_neg h1, if_neg h1, (leastOf_eq v5).1, (leastOf_eq v5).2, in6_eq]
    by_cases h2 : fX5_within (nm I (q + 3) (dn I 3 (q + 3))) (sLeast (ix (cs I (q + 1) - 48))) (sMost (ix (cs I (q + 1) - 48))) = 0
    · rw [if_pos h2, if_pos h2]; exact Or.inl ⟨rfl, rfl, rfl⟩
    rw [if_neg h2, if_neg h2]
    refine Or.inr ⟨by decide, show ¬ (1 : Int32) = 0 by decide, ?_, ?_⟩
    · dsimp only
      rw [up_comm (by omega)]
      refine hR.upS (fun z => ?_) (fun z => ?_)
      · rw [z] at h2
        exact within_in2 (a := 10) (b := 99) h2 (by omega) (by omega)
      · rw [z] at h2
        exact within_in2 (a := 0) (b := 9) h2 (by omega) (by omega)
    · rw [up_ne2 (by omega), hd]
  · have a1 := sA q
    have a2 := sS q
    rw [cL] at a1 a2 h63
    have hst : stm I q = pln I 3 q := by unfold stm; rw [if_neg (show ¬ cs I q = 104 by rw [cL]; decide), if_neg (show ¬ cs I q = 107 by rw [cL]; decide), if_neg (show ¬ cs I q = 111 by rw [cL]; decide), if_neg (show ¬ cs I q = 115 by rw [cL]; decide), if_pos cL]
    rw [hst] at hok
    unfold fX0_isAsItMust fX6_comes fX0_tellOne
    rw [a1, a2, h63, if_neg (show ¬ (116 : Int32) = 104 by decide), if_neg (show ¬ (116 : Int32) = 107 by decide), if_neg (show ¬ (116 : Int32) = 111 by decide), if_neg (show ¬ (116 : Int32) = 115 by decide), if_pos (show (116 : Int32) = 116 from rfl), if_neg (show ¬ (116 : Int32) = 104 by decide), if_neg (show ¬ (116 : Int32) = 107 by decide), if_neg (show ¬ (116 : Int32) = 111 by decide), if_neg (show ¬ (116 : Int32) = 115 by decide), if_pos (show (116 : Int32) = 116 from rfl), if_neg (show ¬ (116 : Int32) = 104 by decide), if_neg (show ¬ (116 : Int32) = 107 by decide), if_neg (show ¬ (116 : Int32) = 111 by decide), if_neg (show ¬ (116 : Int32) = 115 by decide), if_pos (show (116 : Int32) = 116 from rfl)]
    obtain ⟨w1, w2, w3⟩ := V116 cL
    have hdn := pln_dn hok
    have dg := dn_dig 3 (q + 1) hdn
    have va : vp_in (cs I (q + 1) - 48) 10 := dig_in (dg 0 (by omega))
    rw [e1, e2, e3, gA, gA, gA, gS, gS, gS, w1, w2, w3, cL, if_pos (show (116 : Int32) = 116 from rfl)]
    unfold fX6_traceComes
    rw [isFoot6_eq, wrongTwo_eq]
    by_cases h1 : fX5_isFoot (cs I (q + 1) - 48) = 0
    · rw [if_pos h1, if_pos h1]; exact Or.inl ⟨rfl, rfl, rfl⟩
    rw [if_neg h1, if_neg h1]
    by_cases h2 : fX5_strokeFault (cs I (q + 2) - 48) (cs I (q + 3) - 48) = 0
    · rw [if_pos h2, if_pos h2, hdr]
      have hdd := hR.hd
      rcases Nat.lt_or_ge d 6 with z | z
      · rw [if_neg (show ¬ nI (6 - d) ≤ 0 from nI_ge (a := 0) (by omega) (by omega)), if_neg (show ¬ (6 : Int32) ≤ S' 1 6 by rw [vx hdd, hd]; exact nI_ge (b := 6) z (by omega))]
        obtain ⟨p, l, ep, p0, p9, el, l0, l9⟩ := stroke_in h2
        obtain ⟨k, hk, ek⟩ := hR.kin
        have hkd := hR.kind
        rw [up_k (by omega)] at hkd
        have hf := vb (isFoot_in h1)
        obtain ⟨r1, r2⟩ := hR.add (foot := ix (cs I (q + 1) - 48)) (p := p) (l := l) hf ek hk p9 l0 l9 (d := d) (by rw [vx hdd, hd]) z
        have h16 : (fX3_addTrace S' (ix (cs I (q + 1) - 48)) (nI p) (nI l)).2 1 6 = nI (d + 1) := by
          have z1 := r2.drawn
          rw [drawBy_tr, up_k (by omega), hdr, vx hdd, hd] at z1
          rw [← z1]; exact nv_iadd (b := 1) rfl rfl
        rw [ep, el, hkd, ek]
        refine Or.inr ⟨by decide, show ¬ (1 : Int32) = 0 by decide, ?_, ?_⟩
        · exact R.drawUp (d := d) (by rw [hdr, hd]) (by omega) (by rw [h16, ix_nI (by omega)]) r2
        · rw [h16, ix_nI (by omega)]
          have ez : nI (6 - d) = nI (6 - (d + 1)) + 1 := by rw [show nI (6 - (d + 1)) + 1 = nI (6 - (d + 1) + 1) from nv_iadd (b := 1) rfl rfl]; congr 1; omega
          rw [ez, Int32.add_assoc]
          show nI (6 - (d + 1)) + 0 = _
          rw [Int32.add_zero]
      · rw [if_pos (show nI (6 - d) ≤ 0 by rw [show 6 - d = 0 by omega]; decide), if_pos (show (6 : Int32) ≤ S' 1 6 by rw [vx hdd, hd]; exact nI_le (a := 6) z (by omega))]
        exact Or.inl ⟨rfl, rfl, rfl⟩
    · rw [if_neg h2, if_neg h2]; exact Or.inl ⟨rfl, rfl, rfl⟩
  · have a1 := sA q
    have a2 := sS q
    rw [cL] at a1 a2 h63
    have hst : stm I q = pln I 0 q := by unfold stm; rw [if_neg (show ¬ cs I q = 104 by rw [cL]; decide), if_neg (show ¬ cs I q = 107 by rw [cL]; decide), if_neg (show ¬ cs I q = 111 by rw [cL]; decide), if_neg (show ¬ cs I q = 115 by rw [cL]; decide), if_neg (show ¬ cs I q = 116 by rw [cL]; decide), if_pos cL]
    rw [hst] at hok
    unfold fX0_isAsItMust fX6_comes fX0_tellOne
    rw [a1, a2, h63, if_neg (show ¬ (119 : Int32) = 104 by decide), if_neg (show ¬ (119 : Int32) = 107 by decide), if_neg (show ¬ (119 : Int32) = 111 by decide), if_neg (show ¬ (119 : Int32) = 115 by decide), if_neg (show ¬ (119 : Int32) = 116 by decide), if_neg (show ¬ (119 : Int32) = 104 by decide), if_neg (show ¬ (119 : Int32) = 107 by decide), if_neg (show ¬ (119 : Int32) = 111 by decide), if_neg (show ¬ (119 : Int32) = 115 by decide), if_neg (show ¬ (119 : Int32) = 116 by decide), if_neg (show ¬ (119 : Int32) = 104 by decide), if_neg (show ¬ (119 : Int32) = 107 by decide), if_neg (show ¬ (119 : Int32) = 111 by decide), if_neg (show ¬ (119 : Int32) = 115 by decide), if_neg (show ¬ (119 : Int32) = 116 by decide)]
    rw [cL, if_neg (show ¬ (119 : Int32) = 116 by decide), if_pos (show (119 : Int32) = 119 from rfl)]
    refine Or.inr ⟨by decide, show ¬ (1 : Int32) = 0 by decide, ?_, ?_⟩
    · dsimp only
      rw [up_comm2 (by omega)]
      exact hR.upD
    · rw [up_v]; rfl
