/-! whose line it is -/
theorem isTold_iff {S J : HI} {j k foot p l : Nat} (hr : ∀ g, g < 12 → S (j + 1) g = fX6_radiusBy J (nI k) foot (nI p) (nI l) g) (ht : ∀ g, g < 12 → J 67 g = S 50 g) : ((∀ g, 0 ≤ g → g < 0 + 12 → J 67 g = iMin (fX6_radiusBy J (nI k) foot (nI p) (nI l) g) 99) → fX1_isTold S j = 1) ∧ ((¬ ∀ g, 0 ≤ g → g < 0 + 12 → J 67 g = iMin (fX6_radiusBy J (nI k) foot (nI p) (nI l) g) 99) → fX1_isTold S j = 0) := by
  obtain ⟨a1, a2⟩ := foE_all (ρ := Int32) (c := fun g => iMin (S (j + 1) g) 99 = S 50 g) (f := fun (i : Nat) (_ : Unit) => fX1_isTold_b2 S j i) (r0 := 0) (r1 := 1) (fun i hi => by unfold fX1_isTold_b2; rw [if_pos hi]) (fun i hi => by unfold fX1_isTold_b2; rw [if_neg hi]) 12 0
  have e : (∀ g, 0 ≤ g → g < 0 + 12 → J 67 g = iMin (fX6_radiusBy J (nI k) foot (nI p) (nI l) g) 99) ↔ (∀ g, 0 ≤ g → g < 0 + 12 → iMin (S (j + 1) g) 99 = S 50 g) := by
    have e2 : ∀ g, g < 12 → (J 67 g = iMin (fX6_radiusBy J (nI k) foot (nI p) (nI l) g) 99 ↔ iMin (S (j + 1) g) 99 = S 50 g) := fun g hg => by
      rw [hr g hg, ht g hg]
      exact ⟨fun q => q.symm, fun q => q.symm⟩
    exact ⟨fun z g h1 h2 => (e2 g (by omega)).mp (z g h1 h2), fun z g h1 h2 => (e2 g (by omega)).mpr (z g h1 h2)⟩
  exact ⟨fun z => a1 (e.mp z), fun z => a2 (fun y => z (e.mpr y))⟩
theorem flagE {c : Nat → Prop} {f : Nat → Int32 → Int32 ⊕ Int32} (h0 : ∀ i, f i 0 = .inl 0) (h1 : ∀ i, c i → f i 1 = .inr 1) (h2 : ∀ i, ¬ c i → f i 1 = .inr 0) : ∀ n i, foE n i f id 0 = 0 ∧ ((∀ k, i ≤ k → k < i + n → c k) → foE n i f id 1 = 1) ∧ ((¬ ∀ k, i ≤ k → k < i + n → c k) → foE n i f id 1 = 0)
  | 0, i => ⟨foE_0 _ _ _ _, fun _ => foE_0 _ _ _ _, fun q => absurd (fun k h1 h2 => by omega) q⟩
  | n + 1, i => by
    obtain ⟨a0, a1, a2⟩ := flagE h0 h1 h2 n (i + 1)
    refine ⟨by rw [foE_s, h0]; rfl, fun q => ?_, fun q => ?_⟩
    · rw [foE_s, h1 i (q i (Nat.le_refl _) (by omega))]
      exact a1 (fun k q1 q2 => q k (by omega) (by omega))
    · rw [foE_s]
      by_cases hc : c i
      · rw [h1 i hc]
        refine a2 (fun q2 => q (fun k q3 q4 => ?_))
        rcases Nat.lt_or_ge i k with q5 | q5
        · exact q2 k (by omega) (by omega)
        · rw [show k = i by omega]; exact hc
      · rw [h2 i hc]; exact a0
theorem isRow_iff {J : HI} {k foot p l : Nat} : ((∀ g, 0 ≤ g → g < 0 + 12 → J 67 g = iMin (fX6_radiusBy J (nI k) foot (nI p) (nI l) g) 99) → fX6_isRowBy J (nI k) foot (nI p) (nI l) = 1) ∧ ((¬ ∀ g, 0 ≤ g → g < 0 + 12 → J 67 g = iMin (fX6_radiusBy J (nI k) foot (nI p) (nI l) g) 99) → fX6_isRowBy J (nI k) foot (nI p) (nI l) = 0) := by
  have e : ∀ r : Int32, (if r ≤ 99 then r else 99) = iMin r 99 := fun r => iMin_if r 99
  exact (flagE (c := fun g => J 67 g = iMin (fX6_radiusBy J (nI k) foot (nI p) (nI l) g) 99) (f := fun (i : Nat) (s : Int32) => fX6_isRowBy_b6 J (nI k) foot (nI p) (nI l) i s) (fun i => by unfold fX6_isRowBy_b6; rw [if_pos rfl]) (fun i hi => by unfold fX6_isRowBy_b6 fX6_isRowBy_52; rw [if_neg (by decide), e, if_pos hi]) (fun i hi => by unfold fX6_isRowBy_b6 fX6_isRowBy_52; rw [if_neg (by decide), e, if_neg hi]) 12 0).2
theorem R.stroke {I J : HI} (h : R I J) (hw : I 0 7 = 12) {foot k : Nat} (hf : foot < 2) (hk : k < 7) : (fX1_strokeOf I (nI k) foot).1 = fX6_byWhich J (nI k) foot ∧ R (fX1_strokeOf I (nI k) foot).2 J ∧ Fr (fun a => a < 39 ∨ 47 ≤ a) I (fX1_strokeOf I (nI k) foot).2 := by
  have h67 : ∀ {S : HI}, R S J → S 0 7 = 12 → ∀ g, g < 12 → J 67 g = S 50 g := fun hS h7 g hg => hS.2.2.2.1.2.2 g (by rw [h7]; exact hg)
  unfold fX1_strokeOf fX6_byWhich
  refine foE_sim (fun _ (S : HI) (_ : Unit) => R S J ∧ Fr (fun a => a < 39 ∨ 47 ≤ a) I S) (fun (r : Int32 × HI) (u : Int32) => r.1 = u ∧ R r.2 J ∧ Fr (fun a => a < 39 ∨ 47 ≤ a) I r.2) _ _ _ _ 9 1 I () ⟨h, Fr.refl⟩ (fun i S _ hi hi2 hS => ?_) (fun S _ hS => ⟨rfl, hS.1, hS.2⟩)
  unfold fX1_strokeOf_b3 fX6_byWhich_b2
  have key := foE_sim (fun _ (S : HI) (_ : Unit) => R S J ∧ Fr (fun a => a < 39 ∨ 47 ≤ a) I S) (fun (r : (Int32 × HI) ⊕ HI) (u : Int32 ⊕ Unit) => (∃ x y, r = .inl x ∧ u = .inl y ∧ x.1 = y ∧ R x.2 J ∧ Fr (fun a => a < 39 ∨ 47 ≤ a) I x.2) ∨ (∃ S, r = .inr S ∧ u = .inr () ∧ R S J ∧ Fr (fun a => a < 39 ∨ 47 ≤ a) I S)) (fun (n : Nat) (s : HI) => fX1_strokeOf_b13 (nI k) foot i n s) (fun (n : Nat) (_ : Unit) => fX6_byWhich_b11 J (nI k) foot i n) (fun (s : HI) => fX1_strokeOf_x13 s) (fun (_ : Unit) => fX6_byWhich_x11) 9 1 S () hS (fun l S _ hl hl2 hS => by
    obtain ⟨hS, hFS⟩ := hS
    obtain ⟨q1, q2, q3⟩ := hS.next (foot := foot) (k := k) (p := i) (l := l) hf hk (by omega) (by omega) (by omega)
    have h7 : (fX1_nextBy S (nI k) foot (nI i) (nI l)).2 0 7 = 12 := by rw [q3 0 (by omega), hFS 0 (by omega)]; exact hw
    obtain ⟨t1, t2⟩ := isTold_iff q1 (h67 q2 h7)
    obtain ⟨u1, u2⟩ := isRow_iff (J := J) (k := k) (foot := foot) (p := i) (l := l)
    unfold fX1_strokeOf_b13 fX6_byWhich_b11
    by_cases z : ∀ g, 0 ≤ g → g < 0 + 12 → J 67 g = iMin (fX6_radiusBy J (nI k) foot (nI i) (nI l) g) 99
    · rw [t1 z, u1 z, if_neg (by decide), if_neg (by decide)]
      exact Or.inl ⟨_, _, rfl, rfl, Or.inl ⟨_, _, rfl, rfl, rfl, q2, hFS.trans q3⟩⟩
    · rw [t2 z, u2 z, if_pos rfl, if_pos rfl]
      exact Or.inr ⟨_, _, rfl, rfl, q2, hFS.trans q3⟩) (fun S _ hS => Or.inr ⟨S, rfl, rfl, hS.1, hS.2⟩)
  rcases key with ⟨x, y, e1, e2, e3, e4, e5⟩ | ⟨S', e1, e2, e3⟩
  · exact Or.inl ⟨x, y, e1, e2, e3, e4, e5⟩
  · exact Or.inr ⟨S', (), e1, e2, e3⟩
theorem byWhich_val {J : HI} {kind : Int32} {foot : Nat} : fX6_byWhich J kind foot = -9 ∨ 0 ≤ fX6_byWhich J kind foot := by
  unfold fX6_byWhich
  refine foE_inv2 (fun _ (_ : Unit) => True) (fun r : Int32 => r = -9 ∨ 0 ≤ r) _ _ 10 (fun i s r hi _ hr => ?_) (fun _ _ _ _ _ _ => trivial) (fun _ _ => Or.inl rfl) 9 1 () rfl trivial
  unfold fX6_byWhich_b2 at hr
  have q := foE_inv2 (fun _ (_ : Unit) => True) (fun u : Int32 ⊕ Unit => ∀ r, u = .inl r → 0 ≤ r) (fun (n : Nat) (_ : Unit) => fX6_byWhich_b11 J kind foot i n) (fun (_ : Unit) => fX6_byWhich_x11) 10 (fun l s u hl _ hu => by
    unfold fX6_byWhich_b11 at hu
    split at hu
    · cases hu
    · cases hu
      intro r e
      cases e
      exact nI_pos' (by omega)) (fun _ _ _ _ _ _ => trivial) (fun _ _ r e => by cases e) 9 1 () rfl trivial
  exact Or.inr (q r hr)
theorem sm_whose {I J : HI} (hR : R I J) (a b : Int32) : (fX5_whose I a b).1 = (fX6_whose J a b).1 ∧ R (fX5_whose I a b).2 (fX6_whose J a b).2 := by
  have h := hR.th (v := 0)
  unfold fX5_whose fX6_whose
  generalize up J 52 10 0 = K at h ⊢
  unfold fX6_whose_c5
  rw [isFoot6_eq, show fX6_in b.toInt64 (-1) 6 = fX5_within b (-1) 6 from in6_eq b (-1) 6, h.2.2.2.1.2.1]
  by_cases h1 : fX5_isFoot a = 0
  · rw [if_pos h1, if_pos h1]; exact h.refuse ref1
  rw [if_neg h1, if_neg h1]
  have hf := vb (isFoot_in h1)
  have h12 : 12 ≤ I 0 7 ↔ I 0 7 = 12 := by
    have v := h.ht
    have b1 := vb v
    constructor
    · intro q
      have e := vx v
      rcases Nat.lt_or_ge (ix (I 0 7)) 12 with q2 | q2
      · rw [e] at q
        exact absurd q (nI_ge (b := 12) q2 (by omega))
      · rw [show ix (I 0 7) = 12 by omega] at e; exact e
    · intro q; rw [q]; exact Int32.le_refl _
  by_cases h2 : b = -1
  · rw [if_pos h2, if_neg (show ¬ fX5_within b (-1) 6 = 0 by rw [h2]; decide)]
    by_cases h3 : I 0 7 = 12
    · rw [if_pos h3, if_pos (h12.mpr h3), if_pos (show b < 0 by rw [h2]; decide)]
      have key := fo_sim (fun _ (s : Int32 × HI) (u : Int32) => s.1 = u ∧ R s.2 K ∧ Fr (fun a => a < 39 ∨ 47 ≤ a) I s.2) (fun (i : Nat) (s : Int32 × HI) => fX5_whose_b75 a i s.1 s.2) (fun (i : Nat) (s : Int32) => fX6_whose_b78 a K i s) 7 0 (0, I) 0 ⟨rfl, h, Fr.refl⟩ (fun i s u _ hi e => by
        obtain ⟨x, S⟩ := s
        obtain ⟨e1, e2, e3⟩ := e
        dsimp only at e1 e2 e3 ⊢
        subst e1
        obtain ⟨q1, q2, q3⟩ := e2.stroke (by rw [e3 0 (by omega)]; exact h3) (foot := ix a) (k := i) hf (by omega)
        unfold fX5_whose_b75 fX6_whose_b78
        rw [q1, Int32.or_zero]
        rcases byWhich_val (J := K) (kind := nI i) (foot := ix a) with z | z
        · rw [if_pos z, if_neg (by rw [z]; decide)]
          exact ⟨rfl, q2, e3.trans q3⟩
        · rw [if_neg (fun y => by rw [y] at z; exact absurd z (by decide)), if_pos z]
          exact ⟨rfl, q2, e3.trans q3⟩)
      exact ⟨key.1, key.2.1⟩
    · rw [if_neg h3, if_neg (fun q => h3 (h12.mp q))]; exact h.refuse ref3
  · rw [if_neg h2]
    have e : fX5_within b (-1) 6 = fX5_within b 0 6 := by
      unfold fX5_within
      have e : b < -1 ↔ b < 0 := by
        rw [Int32.lt_iff_toInt_lt, Int32.lt_iff_toInt_lt, show (-1 : Int32).toInt = -1 from rfl, show (0 : Int32).toInt = 0 from rfl]
        have h2 : ¬ b.toInt = -1 := fun q => h2 (Int32.toInt_inj.mp (q.trans (show (-1 : Int) = (-1 : Int32).toInt from rfl)))
        omega
      simp only [e]
    rw [e]
    by_cases h4 : fX5_within b 0 6 = 0
    · rw [if_pos h4, if_pos h4]; exact h.refuse ref2
    rw [if_neg h4, if_neg h4]
    have hb := within_in (b := 6) h4 (by omega)
    by_cases h3 : I 0 7 = 12
    · rw [if_pos h3, if_pos (h12.mpr h3), if_neg (show ¬ b < 0 by rw [vx hb]; exact nI_pos (by have := vb hb; omega))]
      obtain ⟨q1, q2, -⟩ := h.stroke h3 (foot := ix a) (k := ix b) hf (vb hb)
      rw [← vx hb] at q1 q2
      exact ⟨q1, q2⟩
    · rw [if_neg h3, if_neg (fun q => h3 (h12.mp q))]; exact h.refuse ref3
theorem stroke_lo {I : HI} {kind : Int32} {foot : Nat} (hf : foot < 2) : Fr Pl I (fX1_strokeOf I kind foot).2 := by
  unfold fX1_strokeOf
  refine foE_inv (fun S : HI => Fr Pl I S) (fun r : Int32 × HI => Fr Pl I r.2) _ _ (fun i S r hS hr => ?_) (fun i S S' hS hr => ?_) (fun S hS => hS) 9 1 I Fr.refl
  all_goals
    unfold fX1_strokeOf_b3 at hr
    have q := foE_inv (fun S : HI => Fr Pl I S) (fun r : (Int32 × HI) ⊕ HI => (∀ x, r = .inl x → Fr Pl I x.2) ∧ ∀ x, r = .inr x → Fr Pl I x) (fun (n : Nat) (s : HI) => fX1_strokeOf_b13 kind foot i n s) (fun (s : HI) => fX1_strokeOf_x13 s) (fun l U r hU hr => by
      unfold fX1_strokeOf_b13 at hr
      split at hr
      · cases hr
      · cases hr
        exact ⟨fun x e => (by cases e; exact hU.trans (next_lo hf)), fun x e => (by cases e)⟩) (fun l U U' hU hr => by
      unfold fX1_strokeOf_b13 at hr
      split at hr
      · cases hr; exact hU.trans (next_lo hf)
      · cases hr) (fun U hU => ⟨fun x e => (by cases e), fun x e => (by cases e; exact hU)⟩) 9 1 S hS
  · exact q.1 r hr
  · exact q.2 S' hr
theorem lo_whose {I : HI} (a b : Int32) : Fr Pl I (fX5_whose I a b).2 := by
  unfold fX5_whose
  split
  · exact refuse5_lo
  · rename_i h1
    have hf := vb (isFoot_in h1)
    split
    · split
      · refine fo_inv (fun _ (s : Int32 × HI) => Fr Pl I s.2) (fun (i : Nat) (s : Int32 × HI) => fX5_whose_b75 a i s.1 s.2) 7 0 (0, I) Fr.refl (fun k s _ _ hs => ?_)
        unfold fX5_whose_b75
        split
        · exact hs.trans (stroke_lo hf)
        · exact hs.trans (stroke_lo hf)
      · exact refuse5_lo
    · split
      · exact refuse5_lo
      · split
        · exact stroke_lo hf
        · exact refuse5_lo
theorem hi_whose {I : HI} (a b : Int32) : Fr Ph I (fX6_whose I a b).2 := by
  refine th_hi.trans ?_
  unfold fX6_whose fX6_whose_c5 fX6_whose_x78
  split
  · exact refuse6_hi
  · split
    · exact refuse6_hi
    · split
      · split
        · exact Fr.refl
        · exact Fr.refl
      · exact refuse6_hi
