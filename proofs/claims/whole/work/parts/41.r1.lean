/-! loops side by side -/
theorem fo_sim {α β : Type} (P : Nat → α → β → Prop) (f : Nat → α → α) (g : Nat → β → β) : ∀ n i s t, P i s t → (∀ k s t, i ≤ k → k < i + n → P k s t → P (k + 1) (f k s) (g k t)) → P (i + n) (fo n i f s) (fo n i g t)
  | 0, i, s, t, h, _ => by rw [fo_0, fo_0]; exact h
  | n + 1, i, s, t, h, hk => by
    rw [fo_s, fo_s, show i + (n + 1) = (i + 1) + n by omega]
    exact fo_sim P f g n (i + 1) _ _ (hk i s t (Nat.le_refl _) (by omega) h) (fun k s t h1 h2 => hk k s t (by omega) (by omega))
theorem fo_congr {α : Type} (f g : Nat → α → α) (n i : Nat) (s : α) (h : ∀ k s, i ≤ k → k < i + n → f k s = g k s) : fo n i f s = fo n i g s :=
  fo_sim (fun _ a b => a = b) f g n i s s rfl (fun k a b h1 h2 e => by rw [← e]; exact h k a h1 h2)
theorem foE_sim {α β ρ τ : Type} (P : Nat → α → β → Prop) (Q : ρ → τ → Prop) (f : Nat → α → ρ ⊕ α) (g : Nat → β → τ ⊕ β) (kf : α → ρ) (kg : β → τ) : ∀ n i s t, P i s t → (∀ k s t, i ≤ k → k < i + n → P k s t → (∃ r u, f k s = .inl r ∧ g k t = .inl u ∧ Q r u) ∨ (∃ s' t', f k s = .inr s' ∧ g k t = .inr t' ∧ P (k + 1) s' t')) → (∀ s t, P (i + n) s t → Q (kf s) (kg t)) → Q (foE n i f kf s) (foE n i g kg t)
  | 0, i, s, t, h, _, he => by rw [foE_0, foE_0]; exact he s t h
  | n + 1, i, s, t, h, hk, he => by
    rw [foE_s, foE_s]
    rcases hk i s t (Nat.le_refl _) (by omega) h with ⟨r, u, e1, e2, q⟩ | ⟨s', t', e1, e2, q⟩
    · rw [e1, e2]; exact q
    · rw [e1, e2]
      exact foE_sim P Q f g kf kg n (i + 1) s' t' q (fun k s t h1 h2 => hk k s t (by omega) (by omega)) (fun s t h => he s t (by rw [show i + (n + 1) = i + 1 + n by omega]; exact h))
/-! frames -/
def Fr (P : Nat → Prop) (I I' : HI) : Prop := ∀ a, P a → I' a = I a
theorem Fr.refl {P : Nat → Prop} {I : HI} : Fr P I I := fun _ _ => rfl
theorem Fr.trans {P : Nat → Prop} {I J K : HI} (h1 : Fr P I J) (h2 : Fr P J K) : Fr P I K := fun a h => (h2 a h).trans (h1 a h)
theorem Fr.put {P : Nat → Prop} {I J : HI} {j k : Nat} {v : Int32} (h : Fr P I J) (hj : ¬ P j) : Fr P I (up J j k v) := fun a ha => by
  rw [up_ne a (fun e => hj (by rw [← e]; exact ha))]
  exact h a ha
theorem Fr.copy {P : Nat → Prop} {I J : HI} {a b m : Nat} (h : Fr P I J) (hj : ¬ P b) : Fr P I (cpy J a b m) := fun c ha => by
  have e : c ≠ b := fun e => hj (by rw [← e]; exact ha)
  rw [← h c ha]
  funext k
  simp [cpy, e]
theorem Fr.loop {P : Nat → Prop} {I : HI} {n i : Nat} {f : Nat → HI → HI} {s : HI} (h : Fr P I s) (hf : ∀ k s, Fr P I s → Fr P I (f k s)) : Fr P I (fo n i f s) := fo_inv (fun _ s => Fr P I s) f n i s h (fun k s _ _ h => hf k s h)
theorem Fr.sub {P Q : Nat → Prop} {I J : HI} (h : Fr P I J) (hq : ∀ a, Q a → P a) : Fr Q I J := fun a ha => h a (hq a ha)
theorem Fr.sy {P : Nat → Prop} {I J : HI} (h : Fr P I J) : Fr P J I := fun a ha => (h a ha).symm
abbrev Pm (a : Nat) : Prop := a < 36 ∨ 47 ≤ a
abbrev Pl (a : Nat) : Prop := 52 ≤ a
abbrev Ph (a : Nat) : Prop := a < 52
theorem Ra.cI {I J I' : HI} (h : Ra I J) (hq : Fr (fun a => 1 ≤ a ∧ a ≤ 17) I I') : Ra I' J := by
  obtain ⟨⟨⟨a1, a2, a3⟩, a4, a5, a6, a7⟩, ⟨b1, b2, b3, b4, b5, b6, b7⟩, c⟩ := h
  have e1 : I' 1 = I 1 := hq 1 (by omega)
  have e2 : I' (1 + 1) = I (1 + 1) := hq 2 (by omega)
  have e3 : I' (1 + 2) = I (1 + 2) := hq 3 (by omega)
  have e4 : I' (1 + 3) = I (1 + 3) := hq 4 (by omega)
  have e5 : ∀ t, t < 6 → I' (1 + 5 + 2 * t) = I (1 + 5 + 2 * t) ∧ I' (1 + 5 + 2 * t + 1) = I (1 + 5 + 2 * t + 1) := fun t ht => ⟨hq _ (by omega), hq _ (by omega)⟩
  have hd := vb b3
  refine ⟨⟨⟨by rw [e1]; exact a1, by rw [e1]; exact a2, by rw [e1]; exact a3⟩, by rw [e2]; exact a4, by rw [e3]; exact a5, by rw [e4]; exact a6, ?_⟩, ⟨by rw [e1]; exact b1, by rw [e1]; exact b2, by rw [e1]; exact b3, by rw [e2]; exact b4, by rw [e3]; exact b5, by rw [e4]; exact b6, fun t ht => ?_⟩, c⟩
  · rw [e1]
    intro t ht
    rw [(e5 t (by omega)).1, (e5 t (by omega)).2]
    exact a7 t ht
  · rw [(e5 t ht).1, (e5 t ht).2]
    exact b7 t ht
theorem Ra.cJ {I J J' : HI} (h : Ra I J) (h1 : ∀ b, 3 ≤ b → b ≤ 5 → J' 52 b = J 52 b) (h2 : Fr (fun a => 53 ≤ a ∧ a ≤ 55) J J') (h3 : ∀ t, t < ix (I 1 6) → J' 56 t = J 56 t ∧ J' 57 t = J 57 t ∧ J' 58 t = J 58 t ∧ ∀ h, h < 12 → J' 59 (12 * t + h) = J 59 (12 * t + h)) (h4 : ∀ t, t < 27 → vp_in (J' 56 t) 2) : Ra I J' := by
  obtain ⟨⟨⟨a1, a2, a3⟩, a4, a5, a6, a7⟩, b, c⟩ := h
  refine ⟨⟨⟨by rw [h1 3 (by omega) (by omega)]; exact a1, by rw [h1 4 (by omega) (by omega)]; exact a2, by rw [h1 5 (by omega) (by omega)]; exact a3⟩, by rw [h2 53 (by omega)]; exact a4, by rw [h2 54 (by omega)]; exact a5, by rw [h2 55 (by omega)]; exact a6, fun t ht => ?_⟩, b, h4⟩
  obtain ⟨k1, k2, k3, k4⟩ := h3 t ht
  obtain ⟨g1, g2, g3, g4⟩ := a7 t ht
  exact ⟨k1.trans g1, k2.trans g2, k3.trans g3, fun h hh => (k4 h hh).trans (g4 h hh)⟩
theorem Rm.cI {I J I' : HI} (h : Rm I J) (h0 : I' 0 2 = I 0 2) (hq : Fr (fun a => 18 ≤ a ∧ a ≤ 34) I I') : Rm I' J := by
  obtain ⟨r1, r2⟩ := h
  refine ⟨by rw [h0]; exact r1, fun hn => ?_⟩
  rw [h0] at hn
  obtain ⟨m, ⟨⟨a1, a2, a3⟩, a4, a5, a6, a7⟩, ⟨b1, b2, b3, b4, b5, b6, b7⟩, c, d⟩ := r2 hn
  have e1 : I' 18 = I 18 := hq 18 (by omega)
  have e2 : I' (18 + 1) = I (18 + 1) := hq 19 (by omega)
  have e3 : I' (18 + 2) = I (18 + 2) := hq 20 (by omega)
  have e4 : I' (18 + 3) = I (18 + 3) := hq 21 (by omega)
  have e5 : ∀ t, t < 6 → I' (18 + 5 + 2 * t) = I (18 + 5 + 2 * t) ∧ I' (18 + 5 + 2 * t + 1) = I (18 + 5 + 2 * t + 1) := fun t ht => ⟨hq _ (by omega), hq _ (by omega)⟩
  have hd := vb b3
  refine ⟨m, ⟨⟨by rw [e1]; exact a1, by rw [e1]; exact a2, by rw [e1]; exact a3⟩, by rw [e2]; exact a4, by rw [e3]; exact a5, by rw [e4]; exact a6, ?_⟩, ⟨by rw [e1]; exact b1, by rw [e1]; exact b2, by rw [e1]; exact b3, by rw [e2]; exact b4, by rw [e3]; exact b5, by rw [e4]; exact b6, fun t ht => ?_⟩, c, d⟩
  · rw [e1]
    intro t ht
    rw [(e5 t (by omega)).1, (e5 t (by omega)).2]
    exact a7 t ht
  · rw [(e5 t ht).1, (e5 t ht).2]
    exact b7 t ht
theorem Rm.cJ {I J J' : HI} (h : Rm I J) (h1 : J' 52 22 = J 52 22) (h2 : J' 66 = J 66) : Rm I J' := by
  obtain ⟨r1, r2⟩ := h
  exact ⟨by rw [h1]; exact r1, by rw [h2]; exact r2⟩
theorem Rb.c {I J I' J' : HI} (h : Rb I J) (h1 : I' 51 = I 51) (h2 : J' 60 = J 60) : Rb I' J' := fun i hi => by rw [h1, h2]; exact h i hi
theorem Rc.c {I J I' J' : HI} (h : Rc I J) (h1 : I' 47 1 = I 47 1) (h2 : I' 48 = I 48) (h3 : J' 52 13 = J 52 13) (h4 : J' 61 = J 61) : Rc I' J' := by
  unfold Rc
  rw [h1, h2, h3, h4]
  exact h
theorem Rw.c {I J I' J' : HI} (h : Rw I J) (h1 : I' 0 7 = I 0 7) (h2 : I' 50 = I 50) (h3 : J' 52 27 = J 52 27) (h4 : J' 67 = J 67) : Rw I' J' := by
  unfold Rw
  rw [h1, h2, h3, h4]
  exact h
/-- the class's own notes (mind, panel, parser) -/
theorem R.c {I J I' : HI} (h : R I J) (h1 : Fr (fun a => a < 36 ∨ a = 48 ∨ (50 ≤ a ∧ a < 52)) I I') (h2 : I' 47 1 = I 47 1) : R I' J :=
  ⟨h.1.cI (h1.sub (fun a ha => by omega)), h.2.1.c (h1 51 (by omega)) rfl, h.2.2.1.c h2 (h1 48 (by omega)) rfl rfl, h.2.2.2.1.c (by rw [h1 0 (by omega)]) (h1 50 (by omega)) rfl rfl, h.2.2.2.2.cI (by rw [h1 0 (by omega)]) (h1.sub (fun a ha => by omega))⟩
theorem R.hi {I J I' : HI} (h : R I J) (h1 : Fr Ph I I') : R I' J := h.c (h1.sub (fun a ha => by show a < 52; omega)) (by rw [h1 47 (by show 47 < 52; omega)])
theorem R.mi {I J I' : HI} (h : R I J) (h1 : Fr Pm I I') : R I' J := h.c (h1.sub (fun a ha => by show a < 36 ∨ 47 ≤ a; omega)) (by rw [h1 47 (Or.inr (by omega))])
/-- the model's own notes, and what it draws in mind -/
theorem R.m {I J J' : HI} (h : R I J) (h1 : Fr (fun a => a = 53 ∨ a = 54 ∨ a = 55 ∨ a = 60 ∨ a = 61 ∨ a = 66 ∨ a = 67) J J') (h2 : ∀ b, (3 ≤ b ∧ b ≤ 5) ∨ b = 13 ∨ b = 22 ∨ b = 27 → J' 52 b = J 52 b) (h3 : ∀ t, t < ix (I 1 6) → J' 56 t = J 56 t ∧ J' 57 t = J 57 t ∧ J' 58 t = J 58 t ∧ ∀ h, h < 12 → J' 59 (12 * t + h) = J 59 (12 * t + h)) (h4 : ∀ t, t < 27 → vp_in (J' 56 t) 2) : R I J' :=
  ⟨h.1.cJ (fun b hb hb2 => h2 b (by omega)) (h1.sub (fun a ha => by omega)) h3 h4, h.2.1.c rfl (h1 60 (by omega)), h.2.2.1.c rfl rfl (h2 13 (by omega)) (h1 61 (by omega)), h.2.2.2.1.c rfl rfl (h2 27 (by omega)) (h1 67 (by omega)), h.2.2.2.2.cJ (h2 22 (by omega)) (h1 66 (by omega))⟩
theorem R.lo {I J J' : HI} (h : R I J) (h1 : Fr Pl J J') : R I J' := h.m (h1.sub (fun a ha => by show 52 ≤ a; omega)) (fun b _ => by rw [h1 52 (by show 52 ≤ 52; omega)]) (fun t _ => by
  rw [h1 56 (by show 52 ≤ 56; omega), h1 57 (by show 52 ≤ 57; omega), h1 58 (by show 52 ≤ 58; omega), h1 59 (by show 52 ≤ 59; omega)]
  exact ⟨rfl, rfl, rfl, fun _ _ => rfl⟩) (fun t ht => by rw [h1 56 (by show 52 ≤ 56; omega)]; exact h.hF6 t ht)
theorem R.th {I J : HI} {v : Int32} (h : R I J) : R I (up J 52 10 v) := h.m (Fr.refl.put (by omega)) (fun b hb => up_k (by omega)) (fun t ht => by
  rw [up_ne 56 (by omega), up_ne 57 (by omega), up_ne 58 (by omega), up_ne 59 (by omega)]
  exact ⟨rfl, rfl, rfl, fun _ _ => rfl⟩) (fun t ht => by rw [up_ne 56 (by omega)]; exact h.hF6 t ht)
theorem pr_mk {α : Type} {I I1 I2 : HI} {x y : α} (hR : R I I) (lo : Fr Pl I I1) (sim : R I I1 → x = y ∧ R I1 I2) (hi : Fr Ph I1 I2) : R I I1 ∧ x = y ∧ R I2 I2 := by
  have h1 := hR.lo lo
  obtain ⟨h2, h3⟩ := sim h1
  exact ⟨h1, h2, h3.hi hi⟩
