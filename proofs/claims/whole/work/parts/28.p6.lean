def Rd (d : Nat) (I J : HI) : Prop := (∀ a b, a ≠ 64 → ¬ (a = 52 ∧ (b = 14 ∨ b = 15)) → J a b = I a b) ∧ vp_in (J 52 14) 97 ∧ (J 52 15 = 0 → I 52 15 = 0 ∧ ix (I 52 14) + d ≤ ix (J 52 14))
theorem Rd.tr {d1 d2 d : Nat} {I J K : HI} (h1 : Rd d1 I J) (h2 : Rd d2 J K) (hd : d ≤ d1 + d2) : Rd d I K :=
  ⟨fun a b x y => (h2.1 a b x y).trans (h1.1 a b x y), h2.2.1, fun e => by
    have e2 := h2.2.2 e
    have e1 := h1.2.2 e2.1
    exact ⟨e1.1, by omega⟩⟩
theorem Rd.hm {d : Nat} {I J : HI} (h : Rd d I J) (hm : vp_in (I 52 13) 97) : vp_in (J 52 13) 97 := by rw [h.1 52 13 (by omega) (by omega)]; exact hm
theorem Rd.rf {I : HI} (hA : vp_in (I 52 14) 97) : Rd 0 I I := ⟨fun _ _ _ _ => rfl, hA, fun h => ⟨h, by omega⟩⟩
theorem Rd.put {I : HI} {k : Nat} {v : Int32} (hA : vp_in (I 52 14) 97) : Rd 0 I (up I 64 k v) := by
  refine ⟨fun a b x y => up_ne2 x, ?_, ?_⟩
  · rw [up_ne2 (by omega)]; exact hA
  · rw [up_ne2 (by omega), up_ne2 (by omega)]; exact fun h => ⟨h, by omega⟩
theorem ix_inc {x : Int32} (h : vp_in x 97) : ix (x + 1) = ix x + 1 := by
  have b := vb h
  rw [nv_iadd (y := 1) (a := ix x) (b := 1) (vx h) rfl, ix_nI (by omega)]
theorem Rd.bad {I : HI} (hA : vp_in (I 52 14) 97) {d : Nat} : Rd d I (up I 52 15 1) := by
  refine ⟨fun a b x y => up_o (by omega), ?_, ?_⟩
  · rw [up_k (by omega)]; exact hA
  · rw [up_v]; intro h; exact absurd h (by decide)
theorem Rd.inc {I : HI} (hA : vp_in (I 52 14) 97) (hm : vp_in (I 52 13) 97) (h : ix (I 52 14) < ix (I 52 13)) (hb : I 52 15 = 0) : Rd 1 I (up (up I 52 15 0) 52 14 ((I 52 14) + 1)) := by
  refine ⟨fun a b x y => ?_, ?_, ?_⟩
  · rw [up_o (by omega), up_o (by omega)]
  · rw [up_v]; exact at_inc hA hm (Or.inr ⟨rfl, h⟩)
  · intro _; exact ⟨hb, by rw [up_v, ix_inc hA]; omega⟩
theorem Rd.digit {I : HI} (hA : vp_in (I 52 14) 97) (hm : vp_in (I 52 13) 97) : Rd 1 I (fX6_readDigit I).2 := by
  unfold fX6_readDigit
  split
  · split
    · exact Rd.bad hA
    · rename_i c0 c
      exact Rd.inc hA hm (here_in hA hm c) c0
  · exact Rd.bad hA
theorem Rd.take {I : HI} {c : Int32} (hc : ¬ c = (-1)) (hA : vp_in (I 52 14) 97) (hm : vp_in (I 52 13) 97) : Rd 1 I (fX6_take I c) := by
  have hb : Rd 1 I (up (up I 52 15 1) 52 14 ((I 52 14) + 0)) := by
    refine ⟨fun a b x y => ?_, ?_, ?_⟩
    · rw [up_o (by omega), up_o (by omega)]
    · rw [up_v]; exact at_inc hA hm (Or.inl rfl)
    · rw [up_k (by omega), up_v]; intro h; exact absurd h (by decide)
  unfold fX6_take
  split
  · split
    · rename_i c0 c1
      exact Rd.inc hA hm (here_eq hA hm c1 hc) c0
    · exact hb
  · exact hb
theorem Rd.two {I : HI} (hA : vp_in (I 52 14) 97) (hm : vp_in (I 52 13) 97) : Rd 2 I (fX6_readTwo I).2 := by
  have h1 := Rd.digit hA hm
  unfold fX6_readTwo
  exact h1.tr (Rd.digit h1.2.1 (h1.hm hm)) (by omega)
theorem Rd.number {I : HI} (hA : vp_in (I 52 14) 97) (hm : vp_in (I 52 13) 97) : Rd 1 I (fX6_readNumber I).2 := by
  have h2 := foE_inv (fun s : Int32 × HI => Rd 1 I s.2) (fun s : Int32 × HI => Rd 1 I s.2) (fun (i : Nat) (s : Int32 × HI) => fX6_readNumber_b7 i s.1 s.2) id (fun i s r hs hr => by
    try dsimp only at hr
    unfold fX6_readNumber_b7 at hr
    split at hr
    · split at hr
      · cases hr; exact hs
      · cases hr
    · cases hr; exact hs) (fun i s r hs hr => by
    try dsimp only at hr
    unfold fX6_readNumber_b7 at hr
    split at hr
    · split at hr
      · cases hr
      · cases hr; exact hs.tr (Rd.digit hs.2.1 (hs.hm hm)) (by omega)
    · cases hr) (fun s hs => hs) 2 1 ((fX6_readDigit I).1, ((fX6_readDigit I).2)) (Rd.digit hA hm)
  unfold fX6_readNumber fX6_readNumber_x7
  exact h2
theorem readStatement_facts {I : HI} (hA : vp_in (I 52 14) 97) (hm : vp_in (I 52 13) 97) : (∀ a b, a ≠ 62 → a ≠ 63 → a ≠ 64 → ¬ (a = 52 ∧ (b = 14 ∨ b = 15 ∨ b = 16)) → fX6_readStatement I a b = I a b) ∧ fX6_readStatement I 52 16 = I 52 16 + 1 ∧ vp_in (fX6_readStatement I 52 14) 97 ∧ (fX6_readStatement I 52 15 = 0 → ix (I 52 14) + 2 ≤ ix (fX6_readStatement I 52 14)) := by
  have s305 : ∀ {d : Nat} {J K : HI}, vp_in (J 52 13) 97 → Rd d J K → Rd (d + 1) J (fX6_take K 59) := fun hmJ h => h.tr (Rd.take (by decide) h.2.1 (h.hm hmJ)) (by omega)
  have s120 : ∀ (J : HI), vp_in (J 52 14) 97 → vp_in (J 52 13) 97 → Rd 0 J (if fX6_here I = 104 then (up ((fX6_readDigit (up ((fX6_readTwo J).2) 64 ((3 * (ix (I 52 16))) + 1) ((fX6_readTwo J).1))).2) 64 ((3 * (ix (I 52 16))) + 2) ((fX6_readDigit (up ((fX6_readTwo J).2) 64 ((3 * (ix (I 52 16))) + 1) ((fX6_readTwo J).1))).1)) else (if fX6_here I = 107 then (up ((fX6_readDigit J).2) 64 ((3 * (ix (I 52 16))) + 1) ((fX6_readDigit J).1)) else (if fX6_here I = 111 then (up ((fX6_readTwo (up ((fX6_readTwo J).2) 64 ((3 * (ix (I 52 16))) + 1) ((fX6_readTwo J).1))).2) 64 ((3 * (ix (I 52 16))) + 2) ((fX6_readTwo (up ((fX6_readTwo J).2) 64 ((3 * (ix (I 52 16))) + 1) ((fX6_readTwo J).1))).1)) else (if fX6_here I = 115 then (up ((fX6_readNumber (fX6_take J 61)).2) 64 ((3 * (ix (I 52 16))) + 1) ((fX6_readNumber (fX6_take J 61)).1)) else (if fX6_here I = 116 then (up ((fX6_readDigit (up ((fX6_readDigit J).2) 64 ((3 * (ix (I 52 16))) + 1) ((fX6_readDigit J).1))).2) 64 ((3 * (ix (I 52 16))) + 2) ((fX6_readDigit (up ((fX6_readDigit J).2) 64 ((3 * (ix (I 52 16))) + 1) ((fX6_readDigit J).1))).1)) else J))))) := by
    intro J hA hm
    have td : ∀ {d : Nat} {K : HI} {k : Nat} {v : Int32}, Rd d J K → Rd 0 J (up K 64 k v) := fun h => h.tr (Rd.put h.2.1) (by omega)
    have dg : ∀ {d : Nat} {K : HI}, Rd d J K → Rd 0 J (fX6_readDigit K).2 := fun h => h.tr (Rd.digit h.2.1 (h.hm hm)) (by omega)
    have tw : ∀ {d : Nat} {K : HI}, Rd d J K → Rd 0 J (fX6_readTwo K).2 := fun h => h.tr (Rd.two h.2.1 (h.hm hm)) (by omega)
    have nu : ∀ {d : Nat} {K : HI}, Rd d J K → Rd 0 J (fX6_readNumber K).2 := fun h => h.tr (Rd.number h.2.1 (h.hm hm)) (by omega)
    have r0 := Rd.rf hA
    split
    · exact td (dg (td (tw r0)))
    · split
      · exact td (dg r0)
      · split
        · exact td (tw (td (tw r0)))
        · split
          · exact td (nu (Rd.take (by decide) hA hm))
          · split
            · exact td (dg (td (dg r0)))
            · exact r0
  have s104 : ∀ (J : HI), vp_in (J 52 14) 97 → vp_in (J 52 13) 97 → Rd 0 J (if fX6_here I = 119 then J else (up ((fX6_readDigit J).2) 64 (3 * (ix (I 52 16))) ((fX6_readDigit J).1))) := by
    intro J hA hm
    split
    · exact Rd.rf hA
    · exact (Rd.digit hA hm).tr (Rd.put (Rd.digit hA hm).2.1) (by omega)
  have sR : ∀ (K : HI), vp_in (K 52 14) 97 → vp_in (K 52 13) 97 → ∃ L, Rd 1 K L ∧ fX6_readStatement_c104 I K = up L 52 16 (L 52 16 + 1) := by
    intro K hA hm
    have a1 := s104 K hA hm
    have a2 := s120 _ a1.2.1 (a1.hm hm)
    have a3 := s305 hm (a1.tr (d := 0) a2 (by omega))
    exact ⟨_, a3, rfl⟩
  unfold fX6_readStatement fX6_readStatement_c31 fX6_readStatement_80 fX6_readStatement_100
  have kA : vp_in ((up (up I 62 (ix (I 52 16)) (I 52 14)) 63 (ix (I 52 16)) (fX6_here I)) 52 14) 97 := by rw [up_ne2 (by omega), up_ne2 (by omega)]; exact hA
  have km : vp_in ((up (up I 62 (ix (I 52 16)) (I 52 14)) 63 (ix (I 52 16)) (fX6_here I)) 52 13) 97 := by rw [up_ne2 (by omega), up_ne2 (by omega)]; exact hm
  have k52 : ∀ b, (up (up I 62 (ix (I 52 16)) (I 52 14)) 63 (ix (I 52 16)) (fX6_here I)) 52 b = I 52 b := fun b => by rw [up_ne2 (by omega), up_ne2 (by omega)]
  have kn : ∀ a b, a ≠ 62 → a ≠ 63 → (up (up I 62 (ix (I 52 16)) (I 52 14)) 63 (ix (I 52 16)) (fX6_here I)) a b = I a b := fun a b h1 h2 => by rw [up_ne2 h2, up_ne2 h1]
  generalize up (up I 62 (ix (I 52 16)) (I 52 14)) 63 (ix (I 52 16)) (fX6_here I) = K at *
  have hb : ∃ bad : Int32, (if K 52 15 = 0 then (if fX6_here I = 115 then 0 else (if fX6_here I = 107 then 0 else (if fX6_here I = 104 then 0 else (if fX6_here I = 111 then 0 else (if fX6_here I = 116 then 0 else (if fX6_here I = 119 then 0 else 1)))))) else 1) = bad ∧ (bad = 0 → K 52 15 = 0 ∧ ix (I 52 14) < ix (I 52 13)) := by
    refine ⟨_, rfl, ?_⟩
    intro h
    split at h
    · rename_i c0
      refine ⟨c0, ?_⟩
      split at h
      · rename_i c; exact here_eq hA hm c (by decide)
      · split at h
        · rename_i c; exact here_eq hA hm c (by decide)
        · split at h
          · rename_i c; exact here_eq hA hm c (by decide)
          · split at h
            · rename_i c; exact here_eq hA hm c (by decide)
            · split at h
              · rename_i c; exact here_eq hA hm c (by decide)
              · split at h
                · rename_i c; exact here_eq hA hm c (by decide)
                · exact absurd h (by decide)
    · exact absurd h (by decide)
  obtain ⟨bad, e, hbad⟩ := hb
  rw [e]
  have r1 : Rd 1 K (up (up K 52 15 bad) 52 14 ((K 52 14) + (if bad = 0 then 1 else 0))) := by
    refine ⟨fun a b x y => ?_, ?_, ?_⟩
    · rw [up_o (by omega), up_o (by omega)]
    · rw [up_v]
      refine at_inc kA km ?_
      by_cases c : bad = 0
      · rw [if_pos c, k52, k52]; exact Or.inr ⟨rfl, (hbad c).2⟩
      · rw [if_neg c]; exact Or.inl rfl
    · rw [up_k (by omega), up_v, up_v]
      intro c
      rw [if_pos c, ix_inc kA]
      exact ⟨(hbad c).1, by omega⟩
  obtain ⟨L, r2, eL⟩ := sR _ r1.2.1 (r1.hm km)
  rw [eL]
  have r := r1.tr (d := 2) r2 (by omega)
  refine ⟨fun a b h1 h2 h3 h4 => ?_, ?_, ?_, ?_⟩
  · rw [up_o (by omega), r.1 a b h3 (by omega), kn a b h1 h2]
  · rw [up_v, r.1 52 16 (by omega) (by omega), k52]
  · rw [up_k (by omega)]; exact r.2.1
  · rw [up_k (by omega), up_k (by omega)]
    intro h
    have := (r.2.2 h).2
    rw [k52] at this
    exact this
theorem drawBy_ne {I : HI} {kind push lean : Int32} {foot a b : Nat} (h : a < 56 ∨ 59 < a) (h2 : ¬ (a = 52 ∧ b = 5)) : (fX6_drawBy I kind foot push lean).2 a b = I a b := by
  have h1 := fo_inv (fun _ (S : HI) => S a b = I a b) (fun (i : Nat) (s : HI) => fX6_drawBy_b9 I kind foot push lean i s) 12 0 I rfl (fun i S _ _ hs => by
    unfold fX6_drawBy_b9
    rw [up_ne2 (by omega)]; exact hs)
  unfold fX6_drawBy fX6_drawBy_x9
  dsimp only
  rw [up_o h2, up_ne2 (by omega), up_ne2 (by omega), up_ne2 (by omega)]
  exact h1
theorem comes_ne {I : HI} {k a b : Nat} (h : 59 < a ∨ a < 52 ∨ (a = 52 ∧ (b < 3 ∨ 5 < b))) : (fX6_comes I k).2 a b = I a b := by
  unfold fX6_comes
  split
  · unfold fX6_iceComes_h
    repeat' split
    all_goals first | rfl | exact up_ne2 (by omega)
  · split
    · split
      · dsimp only; rw [up_o (by omega), up_o (by omega)]
      · dsimp only; rw [up_o (by omega), up_o (by omega)]
    · split
      · unfold fX6_iceComes_o
        repeat' split
        all_goals first | rfl | exact up_ne2 (by omega)
      · split
        · unfold fX6_settingComes
          repeat' split
          all_goals first | rfl | exact up_ne2 (by omega)
        · split
          · unfold fX6_traceComes
            repeat' split
            all_goals first | rfl | exact drawBy_ne (by omega) (by omega)
          · exact up_o (by omega)
theorem comes_d {I : HI} {k : Nat} (h : vp_in (I 52 5) 7) : vp_in ((fX6_comes I k).2 52 5) 7 := by
  unfold fX6_comes
  split
  · unfold fX6_iceComes_h
    repeat' split
    all_goals first | exact h | (dsimp only; rw [up_ne2 (by omega)]; exact h)
  · split
    · split
      · dsimp only; rw [up_o (by omega), up_o (by omega)]; exact h
      · dsimp only; rw [up_o (by omega), up_o (by omega)]; exact h
    · split
      · unfold fX6_iceComes_o
        repeat' split
        all_goals first | exact h | (dsimp only; rw [up_ne2 (by omega)]; exact h)
      · split
        · unfold fX6_settingComes
          repeat' split
          all_goals first | exact h | (dsimp only; rw [up_ne2 (by omega)]; exact h)
        · split
          · unfold fX6_traceComes
            split
            · exact h
            · split
              · split
                · exact h
                · rename_i c
                  have b := ixnge (n := 6) h c (by omega) (by omega)
                  dsimp only
                  rw [drawBy_tr, nv_iadd (y := 1) (a := ix (I 52 5)) (b := 1) (vx h) rfl]
                  exact vp_nI (by omega) (by omega)
              · exact h
          · dsimp only; rw [up_v]; exact vp_nI (n := 0) (by omega) (by omega)
theorem carryAll_k_a {I : HI} {takes : Int32} (htk : takes = 0 ∨ takes = 1) {a b : Nat} (h : (59 < a ∧ a ≠ 65) ∨ a < 52 ∨ (a = 52 ∧ (b < 3 ∨ (5 < b ∧ b < 23) ∨ 25 < b))) : fX6_carryAll_a I takes a b = I a b := by
  rcases htk with e | e
  · rw [e]
    refine (carryAll_gives_a I).2 a b (fun q hq e => ?_) (by omega)
    have := la_ok hq
    omega
  · rw [e]
    exact (carryAll_takes_a I).2 a b (by omega) (by omega)
theorem carryAll_t_a {I : HI} {a b : Nat} (h : a ≠ 65) (h2 : ¬ (a = 52 ∧ 23 ≤ b ∧ b ≤ 25)) : fX6_carryAll_a I 1 a b = I a b := (carryAll_takes_a I).2 a b h h2
