theorem R.draw1 {I J : HI} (h : R I J) {foot k p l : Nat} (hf : foot < 2) (hk : k < 7) (hp : p ≤ 9) (hl : 0 < l) (hl9 : l ≤ 9) : R (fX1_nextBy I (nI k) foot (nI p) (nI l)).2 (up (fX6_drawBy J (nI k) foot (nI p) (nI l)).2 52 5 ((fX6_drawBy J (nI k) foot (nI p) (nI l)).2 52 5 - 1)) ∧ Li (fX1_nextBy I (nI k) foot (nI p) (nI l)).2 (fX1_nextBy I (nI k) foot (nI p) (nI l)).1 (up (fX6_drawBy J (nI k) foot (nI p) (nI l)).2 52 5 ((fX6_drawBy J (nI k) foot (nI p) (nI l)).2 52 5 - 1)) (fX6_drawBy J (nI k) foot (nI p) (nI l)).1 ∧ Fr (fun a => a < 39 ∨ 47 ≤ a) I (fX1_nextBy I (nI k) foot (nI p) (nI l)).2 := by
  obtain ⟨hL, hC, -⟩ := h.la (foot := foot)
  have d6 := h.d6
  have hT : J 52 5 = nI (ix (I 1 6)) := by rw [h.drawn]; exact vx h.hd
  obtain ⟨m1, m2, m3, m4, m5, m6, m7⟩ := mind h.ev hL hC hf hk hp hl hl9 hT (by omega)
  have hi5 : ix (J 52 5) = ix (I 1 6) := by rw [h.drawn]
  obtain ⟨d1, d2, -⟩ := draw6 (J := J) (foot := foot) (kind := nI k) (push := nI p) (lean := nI l) (by omega)
  have h5 : (fX6_drawBy J (nI k) foot (nI p) (nI l)).2 52 5 - 1 = J 52 5 := by
    rw [m7, hT]; exact nv_isub (b := 1) rfl rfl (by omega)
  rw [h5, d1]
  have hmo := ((h.mo0 (T := ix (I 1 6))).step (kind := nI k) (push := nI p) (lean := nI l) hf (by omega) (by omega)).up5 (b := 5) (x := J 52 5) (Or.inl rfl)
  exact ⟨(h.mo hmo up_v).mi (m1.sub (fun a ha => by have : a < 36 ∨ 47 ≤ a := ha; omega)), off_line (fun h hh => (m2 h hh).1) (fun h hh => by rw [up_ne2 (by omega)]; exact d2 h hh), m1⟩
def Pc (I : HI) (foot i : Nat) (s u : Int32 × Int32 × Int32 × HI) : Prop := s.1 = u.1 ∧ s.2.1 = u.2.1 ∧ ((s.2.2.1 = -9 ∧ u.2.2.1 = 0 ∧ i = 1) ∨ (s.2.2.1 = u.2.2.1 ∧ ∃ m, 0 < m ∧ m < 100 ∧ u.2.2.1 = nI m)) ∧ R s.2.2.2 u.2.2.2 ∧ Fr (fun a => a < 39 ∨ 47 ≤ a) I s.2.2.2
theorem close_step {I : HI} {foot : Int32} {i l z : Nat} (hf : ix foot < 2) (hi : 0 < i) (hi9 : i ≤ 9) (hl : 0 < l) (hl9 : l ≤ 9) {s u : Int32 × Int32 × Int32 × HI} (h : Pc I (ix foot) z s u) : Pc I (ix foot) (l + 1) (fX1_bestClosing_b21 (ix foot) i l s.1 s.2.1 s.2.2.1 s.2.2.2) (fX6_closes_b38 foot i l u.1 u.2.1 u.2.2.1 u.2.2.2) := by
  obtain ⟨so, sg, sb, S⟩ := s
  obtain ⟨uo, ug, ub, K⟩ := u
  obtain ⟨e1, e2, e3, hS, hF⟩ := h
  dsimp only at e1 e2 e3 hS hF ⊢
  subst e1
  subst e2
  obtain ⟨k, hk, ek⟩ := hS.kin
  unfold fX1_bestClosing_b21 fX1_bestClosing_88 fX6_closes_b38 fX6_closes_c70 fX6_closes_114 fX6_closes_133 fX6_closes_145
  rw [hS.kind, ek]
  obtain ⟨q1, q2, q3⟩ := hS.draw1 (foot := ix foot) (k := k) (p := i) (l := l) hf hk hi9 hl hl9
  rw [gap_eq q2, off_eq q2 (q1.set (by omega))]
  generalize fX4_gap (fX1_nextBy S (nI k) (ix foot) (nI i) (nI l)).2 (fX1_nextBy S (nI k) (ix foot) (nI i) (nI l)).1 = g
  generalize fX3_offOf (fX1_nextBy S (nI k) (ix foot) (nI i) (nI l)).2 (fX1_nextBy S (nI k) (ix foot) (nI i) (nI l)).1 = o
  have hb : ∃ m, 0 < m ∧ m < 100 ∧ nI (10 * i + l) = nI m := ⟨10 * i + l, by omega, by omega, rfl⟩
  have hF2 := hF.trans q3
  generalize up (fX6_drawBy K (nI k) (ix foot) (nI i) (nI l)).2 52 5 ((fX6_drawBy K (nI k) (ix foot) (nI i) (nI l)).2 52 5 - 1) = K2 at q1
  generalize (fX1_nextBy S (nI k) (ix foot) (nI i) (nI l)).2 = S2 at q1 hF2
  rcases e3 with ⟨rfl, rfl, -⟩ | ⟨rfl, m, m0, m1, rfl⟩
  · rw [if_pos rfl, if_pos (show (0 : Int32) = 0 from rfl), if_neg (show ¬ (1 : Int32) = 0 by decide), if_neg (show ¬ (1 : Int32) = 0 by decide), if_neg (show ¬ (1 : Int32) = 0 by decide)]
    exact ⟨rfl, rfl, Or.inr ⟨rfl, hb⟩, q1, hF2⟩
  · have n9 : ¬ nI m = -9 := fun q => by
      have := nI_pos' (n := m) (by omega)
      rw [q] at this
      exact absurd this (by decide)
    rw [if_neg n9, if_neg (nI_ne0 m0 (by omega))]
    generalize (if g < sg then (1 : Int32) else (if g = sg then (if so ≤ o then 0 else 1) else 0)) = v
    by_cases y : v = 0
    · rw [if_pos y, if_pos y, if_pos y, if_pos y]
      exact ⟨rfl, rfl, Or.inr ⟨rfl, m, m0, m1, rfl⟩, q1, hF2⟩
    · rw [if_neg y, if_neg y, if_neg y, if_neg y]
      exact ⟨rfl, rfl, Or.inr ⟨rfl, hb⟩, q1, hF2⟩
theorem sm_closes {I J : HI} (hR : R I J) (a : Int32) : (fX5_closes I a).1 = (fX6_closes J a).1 ∧ R (fX5_closes I a).2 (fX6_closes J a).2 := by
  have h := hR.th (v := 0)
  unfold fX5_closes fX6_closes
  generalize up J 52 10 0 = K at h ⊢
  unfold fX6_closes_c5
  rw [isFoot6_eq]
  by_cases h1 : fX5_isFoot a = 0
  · rw [if_pos h1, if_pos h1]; exact h.refuse ref1
  rw [if_neg h1, if_neg h1]
  have hf := vb (isFoot_in h1)
  have key := fo_sim (fun i (s u : Int32 × Int32 × Int32 × HI) => Pc I (ix a) i s u) (fun (i : Nat) (s : Int32 × Int32 × Int32 × HI) => fX1_bestClosing_b11 (ix a) i s.1 s.2.1 s.2.2.1 s.2.2.2) (fun (i : Nat) (s : Int32 × Int32 × Int32 × HI) => fX6_closes_b28 a i s.1 s.2.1 s.2.2.1 s.2.2.2) 9 1 (0, 0, (-9), I) (0, 0, 0, K) ⟨rfl, rfl, Or.inl ⟨rfl, rfl, rfl⟩, h, Fr.refl⟩ (fun i s u hi hi2 e => by
    have k2 := fo_sim (fun l (s u : Int32 × Int32 × Int32 × HI) => Pc I (ix a) l s u) (fun (l : Nat) (s : Int32 × Int32 × Int32 × HI) => fX1_bestClosing_b21 (ix a) i l s.1 s.2.1 s.2.2.1 s.2.2.2) (fun (l : Nat) (s : Int32 × Int32 × Int32 × HI) => fX6_closes_b38 a i l s.1 s.2.1 s.2.2.1 s.2.2.2) 9 1 s u (by
      obtain ⟨e1, e2, e3, e4⟩ := e
      refine ⟨e1, e2, ?_, e4⟩
      rcases e3 with ⟨q1, q2, -⟩ | q
      · exact Or.inl ⟨q1, q2, rfl⟩
      · exact Or.inr q) (fun l s u hl hl2 e => close_step hf (by omega) (by omega) (by omega) (by omega) e)
    obtain ⟨e1, e2, e3, e4⟩ := k2
    refine ⟨e1, e2, ?_, e4⟩
    rcases e3 with ⟨q1, q2, q3⟩ | q
    · omega
    · exact Or.inr q)
  obtain ⟨e1, e2, e3, e4, e5⟩ := key
  rcases e3 with ⟨q1, q2, q3⟩ | ⟨q, -⟩
  · omega
  · exact ⟨q, e4⟩
theorem b88_t {foot i l : Nat} {x y z v : Int32} {S : HI} : (fX1_bestClosing_88 foot i x y z S l v).2.2.2 = (fX1_nextBy S (S 1 3) foot (nI i) (nI l)).2 := by
  unfold fX1_bestClosing_88
  split
  · rfl
  · split <;> rfl
theorem b21_t {foot i l : Nat} {x y z : Int32} {S : HI} : (fX1_bestClosing_b21 foot i l x y z S).2.2.2 = (fX1_nextBy S (S 1 3) foot (nI i) (nI l)).2 := b88_t
theorem b145_t {x : Int32} {v : Nat} {K : HI} {a b c : Int32} : (fX6_closes_145 x v K a b c).2.2.2 = K := by
  unfold fX6_closes_145
  split <;> rfl
theorem b38_t {foot : Int32} {i l : Nat} {x y z : Int32} {K : HI} : (fX6_closes_b38 foot i l x y z K).2.2.2 = up (fX6_drawBy K (K 52 3) (ix foot) (nI i) (nI l)).2 52 5 ((fX6_drawBy K (K 52 3) (ix foot) (nI i) (nI l)).2 52 5 - 1) := b145_t
theorem lo_closes {I : HI} (a : Int32) : Fr Pl I (fX5_closes I a).2 := by
  unfold fX5_closes
  split
  · exact refuse5_lo
  · rename_i h1
    have hf := vb (isFoot_in h1)
    show Fr Pl I (fX1_bestClosing I (ix a)).2
    unfold fX1_bestClosing fX1_bestClosing_x11
    refine fo_inv (fun _ (s : Int32 × Int32 × Int32 × HI) => Fr Pl I s.2.2.2) (fun (i : Nat) (s : Int32 × Int32 × Int32 × HI) => fX1_bestClosing_b11 (ix a) i s.1 s.2.1 s.2.2.1 s.2.2.2) 9 1 (0, 0, (-9), I) Fr.refl (fun i s _ _ hs => ?_)
    unfold fX1_bestClosing_b11 fX1_bestClosing_x21
    refine fo_inv (fun _ (s : Int32 × Int32 × Int32 × HI) => Fr Pl I s.2.2.2) (fun (l : Nat) (s : Int32 × Int32 × Int32 × HI) => fX1_bestClosing_b21 (ix a) i l s.1 s.2.1 s.2.2.1 s.2.2.2) 9 1 (s.1, s.2.1, s.2.2.1, s.2.2.2) hs (fun l s _ _ hs => ?_)
    rw [b21_t]
    exact hs.trans (next_lo hf)
theorem hi_closes {I : HI} (a : Int32) : Fr Ph I (fX6_closes I a).2 := by
  refine th_hi.trans ?_
  unfold fX6_closes fX6_closes_c5
  generalize up I 52 10 0 = K
  split
  · exact refuse6_hi
  · unfold fX6_closes_x28
    refine fo_inv (fun _ (s : Int32 × Int32 × Int32 × HI) => Fr Ph K s.2.2.2) (fun (i : Nat) (s : Int32 × Int32 × Int32 × HI) => fX6_closes_b28 a i s.1 s.2.1 s.2.2.1 s.2.2.2) 9 1 (0, 0, 0, K) Fr.refl (fun i s _ _ hs => ?_)
    unfold fX6_closes_b28 fX6_closes_x38
    refine fo_inv (fun _ (s : Int32 × Int32 × Int32 × HI) => Fr Ph K s.2.2.2) (fun (l : Nat) (s : Int32 × Int32 × Int32 × HI) => fX6_closes_b38 a i l s.1 s.2.1 s.2.2.1 s.2.2.2) 9 1 (s.1, s.2.1, s.2.2.1, s.2.2.2) hs (fun l s _ _ hs => ?_)
    rw [b38_t]
    exact fh (j := 52) (hs.trans draw6_hi) (by omega)
