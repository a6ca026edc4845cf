section Ix
variable {x : Int32} {L n : Nat}
theorem ixe (h : vp_in x L) (c : x = nI n) (hL : L < 2 ^ 31) (hn : n < 2 ^ 31) : ix x = n := by rw [c]; exact nI_clamp hn
theorem ixn (h : vp_in x L) (c : ¬ x = nI n) (hL : L < 2 ^ 31) (hn : n < 2 ^ 31) : ix x ≠ n := fun e => c (by rw [← e]; exact vx h)
theorem ixlt (h : vp_in x L) (c : x < nI n) (hL : L < 2 ^ 31) (hn : n < 2 ^ 31) : ix x < n := lt_ix h c (by omega) hn
theorem ixnlt (h : vp_in x L) (c : ¬ x < nI n) (hL : L < 2 ^ 31) (hn : n < 2 ^ 31) : n ≤ ix x := by
  have b := vb h
  rw [vx h] at c
  rcases Nat.lt_or_ge (ix x) n with q | q
  · exact absurd (nI_lt q hn) c
  · exact q
theorem ixle (h : vp_in x L) (c : x ≤ nI n) (hL : L < 2 ^ 31) (hn : n < 2 ^ 31) : ix x ≤ n := by
  have b := vb h
  rw [vx h] at c
  exact (nI_leI (by omega) hn).mp c
theorem ixnle (h : vp_in x L) (c : ¬ x ≤ nI n) (hL : L < 2 ^ 31) (hn : n < 2 ^ 31) : n < ix x := by
  have b := vb h
  rw [vx h] at c
  rcases Nat.lt_or_ge n (ix x) with q | q
  · exact q
  · exact absurd (nI_le q hn) c
theorem ixge (h : vp_in x L) (c : nI n ≤ x) (hL : L < 2 ^ 31) (hn : n < 2 ^ 31) : n ≤ ix x := by
  have b := vb h
  rw [vx h] at c
  exact (nI_leI hn (by omega)).mp c
theorem ixnge (h : vp_in x L) (c : ¬ nI n ≤ x) (hL : L < 2 ^ 31) (hn : n < 2 ^ 31) : ix x < n := by
  have b := vb h
  rw [vx h] at c
  exact lt_of_nnle c (by omega)
theorem ixgt (h : vp_in x L) (c : nI n < x) (hL : L < 2 ^ 31) (hn : n < 2 ^ 31) : n < ix x := by
  have b := vb h
  rw [vx h] at c
  exact (nI_ltI hn (by omega)).mp c
theorem ixngt (h : vp_in x L) (c : ¬ nI n < x) (hL : L < 2 ^ 31) (hn : n < 2 ^ 31) : ix x ≤ n := by
  have b := vb h
  rw [vx h] at c
  exact le_of_nnlt c (by omega)
end Ix
theorem foE_inv {σ ρ : Type} (P : σ → Prop) (Q : ρ → Prop) (f : Nat → σ → ρ ⊕ σ) (k : σ → ρ) (h1 : ∀ i s r, P s → f i s = .inl r → Q r) (h2 : ∀ i s t, P s → f i s = .inr t → P t) (h3 : ∀ s, P s → Q (k s)) : ∀ n i s, P s → Q (foE n i f k s)
  | 0, i, s, h => by rw [foE_0]; exact h3 s h
  | n + 1, i, s, h => by
    rw [foE_s]
    cases hf : f i s with
    | inl r => exact h1 i s r h hf
    | inr t => exact foE_inv P Q f k h1 h2 h3 n (i + 1) t (h2 i s t h hf)
theorem wh_inv {σ : Type} (P : σ → Prop) (f : σ → σ ⊕ σ) (h1 : ∀ s t, P s → f s = .inl t → P t) (h2 : ∀ s t, P s → f s = .inr t → P t) : ∀ n s, P s → P (wh n f s)
  | 0, s, h => by rw [wh_0]; exact h
  | n + 1, s, h => by
    rw [wh_s]
    cases hf : f s with
    | inl r => exact h1 s r h hf
    | inr t => exact wh_inv P f h1 h2 n t (h2 s t h hf)
theorem up_o {I : HI} {j k a b : Nat} {v : Int32} (h : ¬ (a = j ∧ b = k)) : up I j k v a b = I a b := by
  unfold up
  split
  · rename_i e
    rw [if_neg (fun e2 => h ⟨e, e2⟩)]
  · rfl
