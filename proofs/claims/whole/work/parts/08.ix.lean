section Ix
variable {x : Int32} {L n : Nat}
theorem ixe (h : vp_in x L) (c : x = nI n) (hL : L < 2 ^ 31) (hn : n < 2 ^ 31) : ix x = n := by rw [c]; exact nI_clamp hn
theorem ixn (h : vp_in x L) (c : ¬ x = nI n) (hL : L < 2 ^ 31) (hn : n < 2 ^ 31) : ix x ≠ n := fun e => c (by rw [← e]; exact vx h)
theorem ixlt (h : vp_in x L) (c : x < nI n) (hL : L < 2 ^ 31) (hn : n < 2 ^ 31) : ix x < n := lt_ix h c (by omega) hn
theorem ixnlt (h : vp_in x L) (c : ¬ x < nI n) (hL : L < 2 ^ 31) (hn : n < 2 ^ 31) : n ≤ ix x := by
  have b := vb h
  rw [vx h] at c
  rcases Nat.lt_or_ge (ix x) n with q | q
  · exact absurd (nI_lt q hn) c
  · exact q
theorem ixle (h : vp_in x L) (c : x ≤ nI n) (hL : L < 2 ^ 31) (hn : n < 2 ^ 31) : ix x ≤ n := by
  have b := vb h
  rw [vx h] at c
  exact (nI_leI (by omega) hn).mp c
theorem ixnle (h : vp_in x L) (c : ¬ x ≤ nI n) (hL : L < 2 ^ 31) (hn : n < 2 ^ 31) : n < ix x := by
  have b := vb h
  rw [vx h] at c
  rcases Nat.lt_or_ge n (ix x) with q | q
  · exact q
  · exact absurd (nI_le q hn) c
theorem ixge (h : vp_in x L) (c : nI n ≤ x) (hL : L < 2 ^ 31) (hn : n < 2 ^ 31) : n ≤ ix x := by
  have b := vb h
  rw [vx h] at c
  exact (nI_leI hn (by omega)).mp c
theorem ixnge (h : vp_in x L) (c : ¬ nI n ≤ x) (hL : L < 2 ^ 31) (hn : n < 2 ^ 31) : ix x < n := by
  have b := vb h
  rw [vx h] at c
  exact lt_of_nnle c (by omega)
theorem ixgt (h : vp_in x L) (c : nI n < x) (hL : L < 2 ^ 31) (hn : n < 2 ^ 31) : n < ix x := by
  have b := vb h
  rw [vx h] at c
  exact (nI_ltI hn (by omega)).mp c
theorem ixngt (h : vp_in x L) (c : ¬ nI n < x) (hL : L < 2 ^ 31) (hn : n < 2 ^ 31) : ix x ≤ n := by
  have b := vb h
  rw [vx h] at c
  exact le_of_nnlt c (by omega)
end Ix
