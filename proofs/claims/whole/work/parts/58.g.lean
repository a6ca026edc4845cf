/-! the class's parser, place by place -/
noncomputable def cs (S : HI) (p : Nat) : Int32 := fX0_signAt S (nI p)
theorem up_up {I : HI} {j k : Nat} {x y : Int32} : up (up I j k x) j k y = up I j k y := by
  funext a b
  unfold up
  by_cases h1 : a = j
  · by_cases h2 : b = k
    · simp [h1, h2]
    · simp [h1, h2]
  · simp [h1]
theorem cs_up {S : HI} {x p : Int32} : fX0_signAt (up S 47 4 x) p = fX0_signAt S p := signAt_congr (up_k (by omega)) (up_ne 48 (by omega)) p
noncomputable def dn (S : HI) : Nat → Nat → Nat
  | 0, _ => 0
  | m + 1, p => if fX5_within (cs S p) 48 57 = 0 then 0 else dn S m (p + 1) + 1
theorem dn_le {S : HI} : ∀ m p, dn S m p ≤ m
  | 0, _ => Nat.le_refl _
  | m + 1, p => by
    unfold dn
    split
    · omega
    · have := dn_le (S := S) m (p + 1)
      omega
theorem dn_s {S : HI} : ∀ m p, dn S (m + 1) p = if dn S m p = m ∧ ¬ fX5_within (cs S (p + m)) 48 57 = 0 then m + 1 else dn S m p
  | 0, p => by
    unfold dn
    by_cases h : fX5_within (cs S p) 48 57 = 0
    · rw [if_pos h, if_neg (fun z => z.2 h)]
    · rw [if_neg h, if_pos ⟨rfl, h⟩]; rfl
  | m + 1, p => by
    have ih := dn_s (S := S) m (p + 1)
    have e1 : dn S (m + 1 + 1) p = if fX5_within (cs S p) 48 57 = 0 then 0 else dn S (m + 1) (p + 1) + 1 := rfl
    have e2 : dn S (m + 1) p = if fX5_within (cs S p) 48 57 = 0 then 0 else dn S m (p + 1) + 1 := rfl
    rw [e1, e2, ih, show p + 1 + m = p + (m + 1) by omega]
    by_cases h : fX5_within (cs S p) 48 57 = 0
    · rw [if_pos h, if_pos h, if_neg (fun z => by omega)]
    · rw [if_neg h, if_neg h]
      by_cases q : dn S m (p + 1) = m ∧ ¬ fX5_within (cs S (p + (m + 1))) 48 57 = 0
      · rw [if_pos q, if_pos ⟨by omega, q.2⟩]
      · rw [if_neg q, if_neg (fun z => q ⟨by omega, z.2⟩)]
theorem dn_dig {S : HI} : ∀ m p, dn S m p = m → ∀ i, i < m → ¬ fX5_within (cs S (p + i)) 48 57 = 0
  | 0, _, _, i, hi => by omega
  | m + 1, p, h, i, hi => by
    unfold dn at h
    split at h
    · omega
    · rename_i c
      rcases Nat.eq_zero_or_pos i with e | e
      · subst e; exact c
      · have := dn_dig (S := S) m (p + 1) (by omega) (i - 1) (by omega)
        rw [show p + 1 + (i - 1) = p + i by omega] at this
        exact this
theorem dn_stop {S : HI} : ∀ m p, dn S m p < m → fX5_within (cs S (p + dn S m p)) 48 57 = 0
  | 0, _, h => by omega
  | m + 1, p, h => by
    unfold dn at h ⊢
    by_cases c : fX5_within (cs S p) 48 57 = 0
    · rw [if_pos c]; exact c
    · rw [if_neg c] at h ⊢
      have := dn_stop (S := S) m (p + 1) (by omega)
      rw [show p + (dn S m (p + 1) + 1) = p + 1 + dn S m (p + 1) by omega]
      exact this
theorem pd_loop {S : HI} {most : Nat} (hm : most < 100) : ∀ f x p, x + f = most → p + f < 1000 → wh (f + 1) (fun (s : Nat × HI) => fX0_passDigits_b2 most s.1 s.2) (x, up S 47 4 (nI p)) = (x + dn S f p, up S 47 4 (nI (p + dn S f p)))
  | 0, x, p, hx, hp => by
    rw [wh_s]
    have e : fX0_passDigits_b2 most x (up S 47 4 (nI p)) = Sum.inl (x, up S 47 4 (nI p)) := by
      unfold fX0_passDigits_b2
      rw [if_pos (nI_le (by omega) (by omega))]
    dsimp only
    rw [e]
    rfl
  | f + 1, x, p, hx, hp => by
    rw [wh_s]
    dsimp only
    have e : fX0_passDigits_b2 most x (up S 47 4 (nI p)) = if fX5_within (cs S p) 48 57 = 0 then Sum.inl (x, up S 47 4 (nI p)) else Sum.inr (x + 1, up S 47 4 (nI (p + 1))) := by
      unfold fX0_passDigits_b2
      rw [if_neg (nI_ge (by omega) (by omega)), up_v, cs_up, up_up, show nI p + 1 = nI (p + 1) from nv_iadd (b := 1) rfl rfl]
      rfl
    rw [e]
    unfold dn
    by_cases c : fX5_within (cs S p) 48 57 = 0
    · rw [if_pos c, if_pos c]; rfl
    · rw [if_neg c, if_neg c]
      show wh (f + 1) _ (x + 1, up S 47 4 (nI (p + 1))) = _
      rw [pd_loop hm f (x + 1) (p + 1) (by omega) (by omega), show x + 1 + dn S f (p + 1) = x + (dn S f (p + 1) + 1) by omega, show p + 1 + dn S f (p + 1) = p + (dn S f (p + 1) + 1) by omega]
theorem pd_eq {S : HI} {most p least : Nat} (hm : most < 100) (hl : least ≤ most) (hp : p < 500) : fX0_passDigits (up S 47 4 (nI p)) (nI least) most = (if dn S most p < least then 0 else 1, up S 47 4 (nI (p + dn S most p))) := by
  unfold fX0_passDigits
  rw [pd_loop hm most 0 p (by omega) (by omega)]
  dsimp only
  unfold fX0_passDigits_x2
  have := dn_le (S := S) most p
  rw [Nat.zero_add]
  by_cases q : dn S most p < least
  · rw [if_pos q, if_pos (nI_lt q (by omega))]
  · rw [if_neg q, if_neg (nI_nlt (by omega) (by omega))]
theorem ps_eq {S : HI} {p : Nat} {sign : Int32} : fX0_passSign (up S 47 4 (nI p)) sign = if cs S p = sign then (1, up S 47 4 (nI (p + 1))) else (0, up S 47 4 (nI p)) := by
  unfold fX0_passSign
  rw [up_v, cs_up, up_up, show nI p + 1 = nI (p + 1) from nv_iadd (b := 1) rfl rfl]
  rfl
noncomputable def pln (S : HI) (d p : Nat) : Int32 × Nat := if dn S d (p + 1) < d then (0, p + 1 + dn S d (p + 1)) else if cs S (p + 1 + d) = 59 then (1, p + 1 + d + 1) else (0, p + 1 + d)
theorem pp_eq {S : HI} {d p : Nat} (hd : d < 100) (hp : p < 400) : fX0_passPlain (up S 47 4 (nI p)) d = ((pln S d p).1, up S 47 4 (nI (pln S d p).2)) := by
  unfold fX0_passPlain
  rw [up_v, up_up, show nI p + 1 = nI (p + 1) from nv_iadd (b := 1) rfl rfl, pd_eq hd (Nat.le_refl d) (by omega)]
  have h := dn_le (S := S) d (p + 1)
  unfold pln
  dsimp only
  by_cases q : dn S d (p + 1) < d
  · rw [if_pos q, if_pos rfl, if_pos q]
  · rw [if_neg q, if_neg (by decide), if_neg q, show dn S d (p + 1) = d by omega, ps_eq]
    by_cases q2 : cs S (p + 1 + d) = 59
    · rw [if_pos q2]
      dsimp only
      rw [if_neg (by decide), if_pos q2]
    · rw [if_neg q2, if_pos rfl, if_neg q2]
noncomputable def stS (S : HI) (p : Nat) : Int32 × Nat := if dn S 1 (p + 1) < 1 then (0, p + 1) else if cs S (p + 2) = 61 then (if dn S 3 (p + 3) < 1 then (0, p + 3) else if cs S (p + 3 + dn S 3 (p + 3)) = 59 then (1, p + 3 + dn S 3 (p + 3) + 1) else (0, p + 3 + dn S 3 (p + 3))) else (0, p + 2)
noncomputable def stm (S : HI) (p : Nat) : Int32 × Nat := if cs S p = 104 then pln S 4 p else if cs S p = 107 then pln S 2 p else if cs S p = 111 then pln S 5 p else if cs S p = 115 then stS S p else if cs S p = 116 then pln S 3 p else if cs S p = 119 then pln S 0 p else (0, p)
theorem st_eq {S : HI} {p : Nat} (hp : p < 300) : fX0_passStatement (up S 47 4 (nI p)) = ((stm S p).1, up S 47 4 (nI (stm S p).2)) := by
  unfold fX0_passStatement
  rw [up_v, cs_up, up_up, show nI p + 1 = nI (p + 1) from nv_iadd (b := 1) rfl rfl, pp_eq (by omega) (by omega), pp_eq (by omega) (by omega), pp_eq (by omega) (by omega), pp_eq (by omega) (by omega), pp_eq (by omega) (by omega)]
  rw [show fX0_signAt S (nI p) = cs S p from rfl]
  unfold stm
  by_cases c1 : cs S p = 104
  · rw [if_pos c1, if_pos c1]
  rw [if_neg c1, if_neg c1]
  by_cases c2 : cs S p = 107
  · rw [if_pos c2, if_pos c2]
  rw [if_neg c2, if_neg c2]
  by_cases c3 : cs S p = 111
  · rw [if_pos c3, if_pos c3]
  rw [if_neg c3, if_neg c3]
  by_cases c4 : cs S p = 115
  · rw [if_pos c4, if_pos c4]
    unfold stS
    have h1 := dn_le (S := S) 1 (p + 1)
    have h3 := dn_le (S := S) 3 (p + 3)
    rw [show (1 : Int32) = nI 1 from rfl, pd_eq (by omega) (by omega) (by omega)]
    dsimp only
    by_cases q1 : dn S 1 (p + 1) < 1
    · rw [if_pos q1, if_pos rfl, if_pos q1, show p + 1 + dn S 1 (p + 1) = p + 1 by omega]
    rw [if_neg q1, if_neg (by decide), if_neg q1, show p + 1 + dn S 1 (p + 1) = p + 2 by omega, ps_eq]
    by_cases q2 : cs S (p + 2) = 61
    · rw [if_pos q2]
      dsimp only
      rw [if_neg (by decide), if_pos q2, pd_eq (by omega) (by omega) (by omega)]
      dsimp only
      by_cases q3 : dn S 3 (p + 2 + 1) < 1
      · rw [if_pos q3, if_pos rfl, if_pos (show dn S 3 (p + 3) < 1 from q3), show p + 2 + 1 + dn S 3 (p + 2 + 1) = p + 3 by have : dn S 3 (p + 2 + 1) < 1 := q3; omega]
      rw [if_neg q3, if_neg (by decide), if_neg (show ¬ dn S 3 (p + 3) < 1 from q3), ps_eq]
      by_cases q4 : cs S (p + 2 + 1 + dn S 3 (p + 2 + 1)) = 59
      · rw [if_pos q4]
        dsimp only
        rw [if_neg (by decide), if_pos (show cs S (p + 3 + dn S 3 (p + 3)) = 59 from q4)]
      · rw [if_neg q4, if_pos rfl, if_neg (show ¬ cs S (p + 3 + dn S 3 (p + 3)) = 59 from q4)]
    · rw [if_neg q2, if_pos rfl, if_neg q2]
  rw [if_neg c4, if_neg c4]
  by_cases c5 : cs S p = 116
  · rw [if_pos c5, if_pos c5]
  rw [if_neg c5, if_neg c5]
  by_cases c6 : cs S p = 119
  · rw [if_pos c6, if_pos c6]
  rw [if_neg c6, if_neg c6]
