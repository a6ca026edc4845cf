theorem fewM {I J : HI} (h : R I J) : Fr (fun a => a ≠ 36) I (fo 5 0 (fun (i : Nat) (s : HI) => fX2_fewestTelling_b2 I i s) I) ∧ ∀ k, k < 5 → ∀ t, t < ix (I 1 6) → (fo 5 0 (fun (i : Nat) (s : HI) => fX2_fewestTelling_b2 I i s) I) 36 (k * 6 + t) = fX6_markBy J (nI k) t := by
  have d6 := h.d6
  have key := fo_inv (fun i (S : HI) => Fr (fun a => a ≠ 36) I S ∧ ∀ k, k < i → ∀ t, t < ix (I 1 6) → S 36 (k * 6 + t) = fX6_markBy J (nI k) t) (fun (i : Nat) (s : HI) => fX2_fewestTelling_b2 I i s) 5 0 I ⟨Fr.refl, fun k hk => absurd hk (Nat.not_lt_zero k)⟩ (fun i S _ hi hS => by
    unfold fX2_fewestTelling_b2 fX2_fewestTelling_x9
    have k2 := fo_inv (fun j (U : HI) => Fr (fun a => a ≠ 36) I U ∧ (∀ k, k < i → ∀ t, t < ix (I 1 6) → U 36 (k * 6 + t) = fX6_markBy J (nI k) t) ∧ ∀ t, t < j → U 36 (i * 6 + t) = fX6_markBy J (nI i) t) (fun (j : Nat) (s : HI) => fX2_fewestTelling_b9 i j s) (ix (I 1 6)) 0 S ⟨hS.1, hS.2, fun t ht => absurd ht (Nat.not_lt_zero t)⟩ (fun j U _ hj hU => by
      obtain ⟨u1, u2, u3⟩ := hU
      have hU : R U J := h.c (u1.sub (fun a ha => by omega)) (by rw [u1 47 (by omega)])
      have e6 : U 1 6 = I 1 6 := by rw [u1 1 (by omega)]
      unfold fX2_fewestTelling_b9
      refine ⟨u1.put (by omega), fun k hk t ht => ?_, fun t ht => ?_⟩
      · rw [up_k (by omega)]; exact u2 k hk t ht
      · by_cases q : t = j
        · rw [q, up_v]
          exact (hU.mark (by omega) (by rw [e6]; omega)).symm
        · rw [up_k (by omega)]; exact u3 t (by omega))
    rw [Nat.zero_add] at k2
    refine ⟨k2.1, fun k hk t ht => ?_⟩
    by_cases q : k = i
    · rw [q]; exact k2.2.2 t ht
    · exact k2.2.1 k (by omega) t ht)
  exact ⟨key.1, fun k hk t ht => key.2 k (by omega) t ht⟩
def Ap (J : HI) (d : Nat) (set : Int32) (a b : Nat) : Prop := ∃ t, t < d ∧ (set >>> ((nI t) &&& 31)) &&& 1 = 1 ∧ ¬ fX6_markBy J (nI a) t = fX6_markBy J (nI b) t
theorem Ap.sy {J : HI} {d : Nat} {set : Int32} {a b : Nat} (h : Ap J d set a b) : Ap J d set b a := by
  obtain ⟨t, h1, h2, h3⟩ := h
  exact ⟨t, h1, h2, fun e => h3 e.symm⟩
theorem tells_ap {M J : HI} {d : Nat} {set : Int32} {one other : Nat} (hd : ix (M 1 6) = d) (h1 : ∀ t, t < d → M 36 (one * 6 + t) = fX6_markBy J (nI one) t) (h2 : ∀ t, t < d → M 36 (other * 6 + t) = fX6_markBy J (nI other) t) : ¬ fX2_tellsApart M set one other = 0 ↔ Ap J d set one other := by
  subst hd
  obtain ⟨a1, a2⟩ := foE_all (ρ := Int32) (c := fun t => ¬ ((set >>> ((nI t) &&& 31)) &&& 1 = 1 ∧ ¬ M 36 (one * 6 + t) = M 36 (other * 6 + t))) (f := fun (i : Nat) (_ : Unit) => fX2_tellsApart_b3 M set one other i) (r0 := 1) (r1 := 0) (fun i hi => by
    unfold fX2_tellsApart_b3 fX2_tellsApart_30
    by_cases q : (set >>> ((nI i) &&& 31)) &&& 1 = 1
    · rw [if_pos q, if_neg (by decide)]
      by_cases q2 : M 36 (one * 6 + i) = M 36 (other * 6 + i)
      · rw [if_pos q2]
      · exact absurd ⟨q, q2⟩ hi
    · rw [if_neg q, if_pos rfl]) (fun i hi => by
    unfold fX2_tellsApart_b3 fX2_tellsApart_30
    by_cases q : (set >>> ((nI i) &&& 31)) &&& 1 = 1
    · rw [if_pos q, if_neg (by decide)]
      by_cases q2 : M 36 (one * 6 + i) = M 36 (other * 6 + i)
      · exact absurd (fun z => z.2 q2) hi
      · rw [if_neg q2]
    · exact absurd (fun z => q z.1) hi) (ix (M 1 6)) 0
  have e : fX2_tellsApart M set one other = foE (ix (M 1 6)) 0 (fun (i : Nat) (_ : Unit) => fX2_tellsApart_b3 M set one other i) (fun _ => (0 : Int32)) () := rfl
  rw [e]
  constructor
  · intro z
    have z2 : ¬ ∀ k, 0 ≤ k → k < 0 + ix (M 1 6) → ¬ ((set >>> ((nI k) &&& 31)) &&& 1 = 1 ∧ ¬ M 36 (one * 6 + k) = M 36 (other * 6 + k)) := fun y => z (a1 y)
    obtain ⟨t, ht⟩ := Classical.not_forall.mp z2
    obtain ⟨_, ht⟩ := Classical.not_forall.mp ht
    obtain ⟨h3, ht⟩ := Classical.not_forall.mp ht
    have ht := Classical.not_not.mp ht
    rw [h1 t (by omega), h2 t (by omega)] at ht
    exact ⟨t, by omega, ht.1, ht.2⟩
  · intro ⟨t, g1, g2, g3⟩
    rw [a2 (fun y => y t (Nat.zero_le _) (by omega) ⟨g2, by rw [h1 t g1, h2 t g1]; exact g3⟩)]
    decide
theorem tellsAll_ap {M J : HI} {d : Nat} {set : Int32} (hd : ix (M 1 6) = d) (h1 : ∀ k, k < 5 → ∀ t, t < d → M 36 (k * 6 + t) = fX6_markBy J (nI k) t) : ¬ fX2_tellsAllApart M set = 0 ↔ ∀ a b, a < b → b < 5 → Ap J d set a b := by
  have inner : ∀ i, i < 5 → ((∀ k, i + 1 ≤ k → k < i + 1 + (5 - (i + 1)) → ¬ fX2_tellsApart M set i k = 0) → fX2_tellsAllApart_b2 M set i = .inr ()) ∧ ((¬ ∀ k, i + 1 ≤ k → k < i + 1 + (5 - (i + 1)) → ¬ fX2_tellsApart M set i k = 0) → fX2_tellsAllApart_b2 M set i = .inl 0) := fun i hi => foE_all (ρ := Int32 ⊕ Unit) (c := fun k => ¬ fX2_tellsApart M set i k = 0) (f := fun (k : Nat) (_ : Unit) => fX2_tellsAllApart_b11 M set i k) (r0 := .inl 0) (r1 := .inr ()) (fun k hk => by unfold fX2_tellsAllApart_b11; rw [if_neg hk]) (fun k hk => by unfold fX2_tellsAllApart_b11; rw [if_pos (Classical.not_not.mp hk)]) (5 - (i + 1)) (i + 1)
  obtain ⟨a1, a2⟩ := foE_all (ρ := Int32) (c := fun i => i < 5 → ∀ k, i + 1 ≤ k → k < i + 1 + (5 - (i + 1)) → ¬ fX2_tellsApart M set i k = 0) (f := fun (i : Nat) (_ : Unit) => if i < 5 then fX2_tellsAllApart_b2 M set i else .inr ()) (r0 := 0) (r1 := 1) (fun i hi => by
    by_cases q : i < 5
    · rw [if_pos q]; exact (inner i q).1 (hi q)
    · rw [if_neg q]) (fun i hi => by
    by_cases q : i < 5
    · rw [if_pos q]; exact (inner i q).2 (fun z => hi (fun _ => z))
    · exact absurd (fun z => absurd z q) hi) 5 0
  have e : fX2_tellsAllApart M set = foE 5 0 (fun (i : Nat) (_ : Unit) => if i < 5 then fX2_tellsAllApart_b2 M set i else .inr ()) (fun _ => (1 : Int32)) () := by
    unfold fX2_tellsAllApart
    refine foE_sim (fun _ (_ _ : Unit) => True) (fun a b => a = b) _ _ _ _ 5 0 () () trivial (fun k _ _ _ hk _ => ?_) (fun _ _ _ => rfl)
    rw [if_pos (show k < 5 by omega)]
    cases fX2_tellsAllApart_b2 M set k with
    | inl r => exact Or.inl ⟨r, r, rfl, rfl, rfl⟩
    | inr r => exact Or.inr ⟨r, r, rfl, rfl, trivial⟩
  rw [e]
  constructor
  · intro z a b hab hb
    have z2 := Classical.not_not.mp (fun y => z (a2 y))
    exact (tells_ap hd (h1 a (by omega)) (h1 b hb)).mp (z2 a (Nat.zero_le _) (by omega) (by omega) b (by omega) (by omega))
  · intro z
    rw [a1 (fun i _ _ hi k hk1 hk2 => (tells_ap hd (h1 i hi) (h1 k (by omega))).mpr (z i k (by omega) (by omega)))]
    decide
theorem areApart_ap {J : HI} {set : Int32} : ¬ fX6_areApart J set = 0 ↔ ∀ a b, a < b → b < 5 → Ap J (ix (J 52 5)) set a b := by
  have in1 : ∀ a b, (Ap J (ix (J 52 5)) set a b → fo (ix (J 52 5)) 0 (fun (i : Nat) (s : Int32) => fX6_areApart_b24 J set a b i s) 0 = 1) ∧ (¬ Ap J (ix (J 52 5)) set a b → fo (ix (J 52 5)) 0 (fun (i : Nat) (s : Int32) => fX6_areApart_b24 J set a b i s) 0 = 0) := fun a b => by
    obtain ⟨-, a1, a2⟩ := fo_or (c := fun t => (set >>> ((nI t) &&& 31)) &&& 1 = 1 ∧ ¬ fX6_markBy J (nI a) t = fX6_markBy J (nI b) t) (f := fun (i : Nat) (s : Int32) => fX6_areApart_b24 J set a b i s) (fun i => by unfold fX6_areApart_b24; rw [if_neg (by decide)]) (fun i hi => by unfold fX6_areApart_b24; rw [if_pos rfl, if_pos hi.1, if_neg hi.2]) (fun i hi => by
      unfold fX6_areApart_b24
      rw [if_pos rfl]
      by_cases q : (set >>> ((nI i) &&& 31)) &&& 1 = 1
      · rw [if_pos q]
        by_cases q2 : fX6_markBy J (nI a) i = fX6_markBy J (nI b) i
        · rw [if_pos q2]
        · exact absurd ⟨q, q2⟩ hi
      · rw [if_neg q]) (ix (J 52 5)) 0
    refine ⟨fun ⟨t, h1, h2⟩ => a1 ⟨t, Nat.zero_le _, by omega, h2⟩, fun q => a2 (fun ⟨t, _, h1, h2⟩ => q ⟨t, by omega, h2⟩)⟩
  have in2 : ∀ a, fX6_areApart_b4 J set a 0 = 0 ∧ ((∀ b, 0 ≤ b → b < 0 + a → Ap J (ix (J 52 5)) set a b) → fX6_areApart_b4 J set a 1 = 1) ∧ ((¬ ∀ b, 0 ≤ b → b < 0 + a → Ap J (ix (J 52 5)) set a b) → fX6_areApart_b4 J set a 1 = 0) := fun a => fo_and (c := fun b => Ap J (ix (J 52 5)) set a b) (f := fun (i : Nat) (s : Int32) => fX6_areApart_b12 J set a i s) (fun i => by unfold fX6_areApart_b12 fX6_areApart_x24; rw [if_pos rfl]) (fun i hi => by unfold fX6_areApart_b12 fX6_areApart_x24; rw [if_neg (by decide), (in1 a i).1 hi, if_neg (by decide)]) (fun i hi => by unfold fX6_areApart_b12 fX6_areApart_x24; rw [if_neg (by decide), (in1 a i).2 hi, if_pos rfl]) a 0
  obtain ⟨-, a1, a2⟩ := fo_and (c := fun a => ∀ b, 0 ≤ b → b < 0 + a → Ap J (ix (J 52 5)) set a b) (f := fun (i : Nat) (s : Int32) => fX6_areApart_b4 J set i s) (fun i => (in2 i).1) (fun i hi => (in2 i).2.1 hi) (fun i hi => (in2 i).2.2 hi) 5 0
  have e : fX6_areApart J set = fo 5 0 (fun (i : Nat) (s : Int32) => fX6_areApart_b4 J set i s) 1 := rfl
  rw [e]
  constructor
  · intro z a b hab hb
    have z2 := Classical.not_not.mp (fun y => z (a2 y))
    exact (z2 b (Nat.zero_le _) (by omega) a (Nat.zero_le _) (by omega)).sy
  · intro z
    rw [a1 (fun a _ ha b _ hb => (z b a (by omega) (by omega)).sy)]
    decide
theorem pop64 : ∀ n, n < 64 → popF 4096 n < 7 := by decide +kernel
theorem bc_small {i : Nat} (h : i < 64) : fJ6_bitCount_0f7a4 (nI i) = fX6_ones i ∧ vp_in (fX6_ones i) 7 := by
  rw [bc_all i (by omega), ones_eq (by omega)]
  exact ⟨rfl, vp_nI (pop64 i h) (by omega)⟩
theorem sm_fewest {I J : HI} (hR : R I J) (a : Int32) : (fX5_fewest I a).1 = (fX6_fewest J a).1 ∧ R (fX5_fewest I a).2 (fX6_fewest J a).2 := by
  have h := hR.th (v := 0)
  unfold fX5_fewest fX6_fewest
  generalize up J 52 10 0 = K at h ⊢
  unfold fX6_fewest_c5
  rw [show fX6_in a.toInt64 0 1 = fX5_within a 0 1 from in6_eq a 0 1]
  by_cases h1 : fX5_within a 0 1 = 0
  · rw [if_pos h1, if_pos h1]; exact h.refuse ref2
  rw [if_neg h1, if_neg h1]
  have ha := within_in (b := 1) h1 (by omega)
  have ea := vx ha
  have ba := vb ha
  obtain ⟨m1, m2⟩ := fewM h
  unfold fX2_fewestTelling
  generalize (fo 5 0 (fun (i : Nat) (s : HI) => fX2_fewestTelling_b2 I i s) I) = M at m1 m2 ⊢
  have e6 : M 1 6 = I 1 6 := by rw [m1 1 (by omega)]
  have hM : R M K := h.c (m1.sub (fun a ha => by omega)) (by rw [m1 47 (by omega)])
  have d6 := h.d6
  unfold fX2_fewestTelling_x2
  dsimp only
  unfold fX2_fewestTelling_x57
  dsimp only
  rw [e6, h.drawn]
  have hpow : 2 ^ ix (I 1 6) ≤ 64 := Nat.pow_le_pow_right (by omega) d6
  have hap : ∀ s : Int32, fX2_tellsAllApart M s = 0 ↔ fX6_areApart K s = 0 := fun s => by
    have q1 := tellsAll_ap (M := M) (J := K) (set := s) (by rw [e6]) m2
    have q2 := areApart_ap (J := K) (set := s)
    rw [h.drawn] at q2
    have q3 := q1.trans q2.symm
    exact ⟨fun z => Classical.not_not.mp (fun y => (q3.mpr y) z), fun z => Classical.not_not.mp (fun y => (q3.mp y) z)⟩
  have key := fo_sim (fun _ (s : Int32 × Int32) (b : Int32) => s.2 = b ∧ ((b = -9 ∧ s.1 = 7) ∨ (∃ m, m < 64 ∧ b = nI m ∧ s.1 = fX6_ones m))) (fun (i : Nat) (s : Int32 × Int32) => fX2_fewestTelling_b57 M i s.1 s.2) (fun (i : Nat) (s : Int32) => fX6_fewest_b27 K i s) (2 ^ ix (I 1 6)) 0 (7, (-9)) (-9) ⟨rfl, Or.inl ⟨rfl, rfl⟩⟩ (fun i s b _ hi e => by
    have hi64 : i < 64 := by omega
    obtain ⟨b1, b2⟩ := bc_small hi64
    obtain ⟨s1, s2⟩ := s
    obtain ⟨e1, e2⟩ := e
    dsimp only at e1 e2 ⊢
    subst e1
    unfold fX2_fewestTelling_b57 fX6_fewest_b27
    rw [b1]
    have z := hap (nI i)
    rcases e2 with ⟨rfl, rfl⟩ | ⟨m, hm, rfl, rfl⟩
    · rw [if_neg (by rw [vx b2]; exact nI_ge (b := 7) (vb b2) (by omega)), if_pos (show (-9 : Int32) < 0 by decide)]
      by_cases y : fX2_tellsAllApart M (nI i) = 0
      · rw [if_pos y, if_pos (z.mp y)]; exact ⟨rfl, Or.inl ⟨rfl, rfl⟩⟩
      · rw [if_neg y, if_neg (fun w => y (z.mpr w))]; exact ⟨rfl, Or.inr ⟨i, hi64, rfl, rfl⟩⟩
    · rw [if_neg (nI_pos (n := m) (by omega)), ix_nI (by omega)]
      by_cases q : fX6_ones m ≤ fX6_ones i
      · rw [if_pos q, if_pos q]; exact ⟨rfl, Or.inr ⟨m, hm, rfl, rfl⟩⟩
      · rw [if_neg q, if_neg q]
        by_cases y : fX2_tellsAllApart M (nI i) = 0
        · rw [if_pos y, if_pos (z.mp y)]; exact ⟨rfl, Or.inr ⟨m, hm, rfl, rfl⟩⟩
        · rw [if_neg y, if_neg (fun w => y (z.mpr w))]; exact ⟨rfl, Or.inr ⟨i, hi64, rfl, rfl⟩⟩)
  obtain ⟨k1, k2⟩ := key
  generalize (fo (2 ^ ix (I 1 6)) 0 (fun (i : Nat) (s : Int32 × Int32) => fX2_fewestTelling_b57 M i s.1 s.2) (7, (-9))) = A at k1 k2 ⊢
  obtain ⟨A1, A2⟩ := A
  dsimp only at k1 k2 ⊢
  subst k1
  unfold fX6_fewest_x27
  generalize fo (2 ^ ix (I 1 6)) 0 (fun (i : Nat) (s : Int32) => fX6_fewest_b27 K i s) (-9) = B at k2 ⊢
  rcases k2 with ⟨rfl, -⟩ | ⟨m, hm, rfl, -⟩
  · rw [if_pos rfl, if_neg (by decide)]
    exact ⟨rfl, hM⟩
  · have hne : ¬ nI m = -9 := fun q => by
      have := nI_pos' (n := m) (by omega)
      rw [q] at this
      exact absurd this (by decide)
    rw [if_neg hne, if_pos (nI_pos' (by omega)), ix_nI (by omega), (bc_small hm).1]
    rcases (show ix a = 0 ∨ ix a = 1 by omega) with q | q <;> rw [q] at ea <;> subst ea
    · rw [if_neg (by decide), if_pos (show nI 0 = 0 from rfl)]; exact ⟨rfl, hM⟩
    · rw [if_pos (show nI 1 = 1 from rfl), if_neg (by decide)]; exact ⟨rfl, hM⟩
theorem fewest_lo {I : HI} : Fr Pl I (fX2_fewestTelling I).2 := by
  show Fr Pl I (fo 5 0 (fun (i : Nat) (s : HI) => fX2_fewestTelling_b2 I i s) I)
  refine Fr.refl.loop (fun k s hs => ?_)
  unfold fX2_fewestTelling_b2 fX2_fewestTelling_x9
  refine hs.loop (fun k s hs => ?_)
  unfold fX2_fewestTelling_b9
  exact fl hs (by omega)
theorem lo_fewest {I : HI} (a : Int32) : Fr Pl I (fX5_fewest I a).2 := by
  unfold fX5_fewest
  split
  · exact refuse5_lo
  · split
    · exact fewest_lo
    · split
      · exact fewest_lo
      · exact fewest_lo
theorem hi_fewest {I : HI} (a : Int32) : Fr Ph I (fX6_fewest I a).2 := by
  refine th_hi.trans ?_
  unfold fX6_fewest fX6_fewest_c5
  split
  · exact refuse6_hi
  · unfold fX6_fewest_x27
    split
    · split
      · exact Fr.refl
      · exact Fr.refl
    · exact Fr.refl
