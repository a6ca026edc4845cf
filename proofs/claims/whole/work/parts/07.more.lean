def iAbs (x : Int32) : Int32 := if 0 ≤ x then x else 0 - x
def iMax (x y : Int32) : Int32 := if x < y then y else x
def iMin (x y : Int32) : Int32 := if y < x then y else x
/-! small rows: views of ints as naturals, the classes, loops -/
def Tr (j : Nat) : Prop := kd j = 4 ∧ kd (j + 1) = 7 ∧ ln (j + 1) = 12
theorem tr_now {n : Nat} (h : n < 6) : Tr (6 + 2 * n) := by
  have h2 : ∀ n, n < 6 → kd (6 + 2 * n) = 4 ∧ kd (6 + 2 * n + 1) = 7 ∧ ln (6 + 2 * n + 1) = 12 := by decide
  exact h2 n h
theorem tr_kept {n : Nat} (h : n < 6) : Tr (23 + 2 * n) := by
  have h2 : ∀ n, n < 6 → kd (23 + 2 * n) = 4 ∧ kd (23 + 2 * n + 1) = 7 ∧ ln (23 + 2 * n + 1) = 12 := by decide
  exact h2 n h
theorem tr_line {n : Nat} (h : n < 4) : Tr (39 + 2 * n) := by
  have h2 : ∀ n, n < 4 → kd (39 + 2 * n) = 4 ∧ kd (39 + 2 * n + 1) = 7 ∧ ln (39 + 2 * n + 1) = 12 := by decide
  exact h2 n h
theorem nv_iadd {x y : Int32} {a b : Nat} (hx : x = nI a) (hy : y = nI b) : x + y = nI (a + b) := by rw [hx, hy]; exact nI_add a b
theorem nv_imul {x y : Int32} {a b : Nat} (hx : x = nI a) (hy : y = nI b) : x * y = nI (a * b) := by rw [hx, hy]; exact pk_mul a b
theorem nv_isub {x y : Int32} {a b : Nat} (hx : x = nI a) (hy : y = nI b) (h : b ≤ a) : x - y = nI (a - b) := by rw [hx, hy]; exact pk_sub h
theorem nv_idiv {x y : Int32} {a b : Nat} (hx : x = nI a) (hy : y = nI b) (ha : a < 2 ^ 31) (h0 : 0 < b) (hb : b < 2 ^ 31) : x / y = nI (a / b) := by rw [hx, hy]; exact pk_div ha h0 hb
theorem nv_irem {x y : Int32} {a b : Nat} (hx : x = nI a) (hy : y = nI b) (ha : a < 2 ^ 31) (h0 : 0 < b) (hb : b < 2 ^ 31) : x - x / y * y = nI (a % b) := by rw [hx, hy]; exact pk_rem ha h0 hb
theorem iinc_n {x : Int32} {a : Nat} (hx : x = nI a) : x + Int32.ofInt 1 = nI (a + 1) := by rw [hx]; exact (nI_succ a).symm
theorem iinc_m {x : Int32} {a : Nat} (hx : x = nI a) : x + Int32.ofInt (-1) = nI a - 1 := by rw [hx, Int32.sub_eq_add_neg]; rfl
theorem imin_n {x y : Int32} {a b : Nat} (hx : x = nI a) (hy : y = nI b) (ha : a < 2 ^ 31) (hb : b < 2 ^ 31) : iMin x y = nI (min a b) := by
  rw [hx, hy]
  unfold iMin
  rcases Nat.lt_or_ge b a with h | h
  · rw [if_pos (nI_lt h ha), Nat.min_eq_right (Nat.le_of_lt h)]
  · rw [if_neg (nI_nlt h hb), Nat.min_eq_left h]
theorem pred_pos {k : Nat} (h : ¬ nI k - 1 < 0) : 0 < k := by
  rcases Nat.eq_zero_or_pos k with e | e
  · subst e
    exact absurd (by decide +kernel) h
  · exact e
theorem nle {x y : Int32} {a b : Nat} (hx : x = nI a) (hy : y = nI b) (h : a ≤ b) (hb : b < 2 ^ 31) : x ≤ y := by rw [hx, hy]; exact nI_le h hb
theorem nnle {x y : Int32} {a b : Nat} (hx : x = nI a) (hy : y = nI b) (h : b < a) (hb : a < 2 ^ 31) : ¬ x ≤ y := by rw [hx, hy]; exact nI_ge h hb
theorem nlt {x y : Int32} {a b : Nat} (hx : x = nI a) (hy : y = nI b) (h : a < b) (hb : b < 2 ^ 31) : x < y := by rw [hx, hy]; exact nI_lt h hb
theorem nnlt {x y : Int32} {a b : Nat} (hx : x = nI a) (hy : y = nI b) (h : b ≤ a) (hb : a < 2 ^ 31) : ¬ x < y := by rw [hx, hy]; exact nI_nlt h hb
theorem vx {x : Int32} {L : Nat} (h : vp_in x L) : x = nI (ix x) := by
  have h0 : ¬ x < 0 := fun q => h (Or.inl q)
  obtain ⟨j, hj, rfl⟩ := nI_of h0
  unfold ix
  rw [nI_clamp hj]
theorem vb {x : Int32} {L : Nat} (h : vp_in x L) : ix x < L := Nat.not_le.mp fun q => h (Or.inr q)
theorem vp_of {x : Int32} {a L : Nat} (h0 : 0 ≤ x) (h1 : x ≤ nI a) (ha : a < L) (hL : a < 2 ^ 31) : vp_in x L := by
  rw [vp_in_iff]
  have e1 : (0 : Int) ≤ x.toInt := by simpa [Int32.le_iff_toInt_le] using h0
  have e2 : x.toInt ≤ (a : Int) := by rw [← nI_toInt hL]; simpa [Int32.le_iff_toInt_le] using h1
  omega
theorem ne_toInt {x k : Int32} (h : ¬ x = k) : x.toInt ≠ k.toInt := fun e => h (Int32.toInt_inj.mp e)
theorem bnar {x : Int32} (h : x = 0 ∨ x = 1) (B : Nat) : narrow .boolean (pv B (vi x)) = pv B (vi x) := by
  show narrow .boolean (.int x) = .int x
  rcases h with rfl | rfl <;> decide +kernel
theorem bfit {x : Int32} (h : x = 0 ∨ x = 1) (B : Nat) : fits .boolean (pv B (vi x)) = true := by
  show fits .boolean (.int x) = true
  rcases h with rfl | rfl <;> decide +kernel
theorem fo_ex {σ : Type} : ∃ F : Nat → Nat → (Nat → σ → σ) → σ → σ, (∀ i f s, F 0 i f s = s) ∧ ∀ n i f s, F (n + 1) i f s = F n (i + 1) f (f i s) :=
  ⟨fun n i f s => (Nat.rec (motive := fun _ => Nat → σ → σ) (fun _ s => s) (fun _ r i s => r (i + 1) (f i s)) n) i s, fun _ _ _ => rfl, fun _ _ _ _ => rfl⟩
noncomputable def fo {σ : Type} : Nat → Nat → (Nat → σ → σ) → σ → σ := Classical.choose (fo_ex (σ := σ))
theorem fo_0 {σ : Type} (i : Nat) (f : Nat → σ → σ) (s : σ) : fo 0 i f s = s := (Classical.choose_spec (fo_ex (σ := σ))).1 i f s
theorem fo_s {σ : Type} (n i : Nat) (f : Nat → σ → σ) (s : σ) : fo (n + 1) i f s = fo n (i + 1) f (f i s) := (Classical.choose_spec (fo_ex (σ := σ))).2 n i f s
theorem foE_ex {σ ρ : Type} : ∃ F : Nat → Nat → (Nat → σ → ρ ⊕ σ) → (σ → ρ) → σ → ρ, (∀ i f k s, F 0 i f k s = k s) ∧ ∀ n i f k s, F (n + 1) i f k s = Sum.elim id (fun s => F n (i + 1) f k s) (f i s) :=
  ⟨fun n i f k s => (Nat.rec (motive := fun _ => Nat → σ → ρ) (fun _ s => k s) (fun _ r i s => Sum.elim id (fun s => r (i + 1) s) (f i s)) n) i s, fun _ _ _ _ => rfl, fun _ _ _ _ _ => rfl⟩
noncomputable def foE {σ ρ : Type} : Nat → Nat → (Nat → σ → ρ ⊕ σ) → (σ → ρ) → σ → ρ := Classical.choose (foE_ex (σ := σ) (ρ := ρ))
theorem foE_0 {σ ρ : Type} (i : Nat) (f : Nat → σ → ρ ⊕ σ) (k : σ → ρ) (s : σ) : foE 0 i f k s = k s := (Classical.choose_spec (foE_ex (σ := σ) (ρ := ρ))).1 i f k s
theorem foE_s {σ ρ : Type} (n i : Nat) (f : Nat → σ → ρ ⊕ σ) (k : σ → ρ) (s : σ) : foE (n + 1) i f k s = Sum.elim id (fun s => foE n (i + 1) f k s) (f i s) := (Classical.choose_spec (foE_ex (σ := σ) (ρ := ρ))).2 n i f k s
theorem wh_ex {σ : Type} : ∃ F : Nat → (σ → σ ⊕ σ) → σ → σ, (∀ f s, F 0 f s = s) ∧ ∀ n f s, F (n + 1) f s = Sum.elim id (fun s => F n f s) (f s) :=
  ⟨fun n f s => (Nat.rec (motive := fun _ => σ → σ) (fun s => s) (fun _ r s => Sum.elim id (fun s => r s) (f s)) n) s, fun _ _ => rfl, fun _ _ _ => rfl⟩
noncomputable def wh {σ : Type} : Nat → (σ → σ ⊕ σ) → σ → σ := Classical.choose (wh_ex (σ := σ))
theorem wh_0 {σ : Type} (f : σ → σ ⊕ σ) (s : σ) : wh 0 f s = s := (Classical.choose_spec (wh_ex (σ := σ))).1 f s
theorem wh_s {σ : Type} (n : Nat) (f : σ → σ ⊕ σ) (s : σ) : wh (n + 1) f s = Sum.elim id (fun s => wh n f s) (f s) := (Classical.choose_spec (wh_ex (σ := σ))).2 n f s
theorem whE_ex {σ ρ : Type} : ∃ F : Nat → (σ → ρ ⊕ σ) → ρ → σ → ρ, (∀ f d s, F 0 f d s = d) ∧ ∀ n f d s, F (n + 1) f d s = Sum.elim id (fun s => F n f d s) (f s) :=
  ⟨fun n f d s => (Nat.rec (motive := fun _ => σ → ρ) (fun _ => d) (fun _ r s => Sum.elim id (fun s => r s) (f s)) n) s, fun _ _ _ => rfl, fun _ _ _ _ => rfl⟩
noncomputable def whE {σ ρ : Type} : Nat → (σ → ρ ⊕ σ) → ρ → σ → ρ := Classical.choose (whE_ex (σ := σ) (ρ := ρ))
theorem whE_0 {σ ρ : Type} (f : σ → ρ ⊕ σ) (d : ρ) (s : σ) : whE 0 f d s = d := (Classical.choose_spec (whE_ex (σ := σ) (ρ := ρ))).1 f d s
theorem whE_s {σ ρ : Type} (n : Nat) (f : σ → ρ ⊕ σ) (d : ρ) (s : σ) : whE (n + 1) f d s = Sum.elim id (fun s => whE n f d s) (f s) := (Classical.choose_spec (whE_ex (σ := σ) (ρ := ρ))).2 n f d s
def cpy (I : HI) (a b m : Nat) : HI := fun i k => if i = b then va_cpy (I a) (I b) 0 0 m k else I i k
theorem lcons {α : Type} {a b : α} {l m : List α} (h : a = b) (t : l = m) : a :: l = b :: m := by rw [h, t]
theorem ne_of_npos {x : Int32} (h : ¬ x ≤ 0) : ¬ x = 0 := fun e => h (by rw [e]; decide)
theorem lt_ix {x : Int32} {L n : Nat} (h : vp_in x L) (c : x < nI n) (hL : L ≤ 2 ^ 31) (hn : n < 2 ^ 31) : ix x < n := by
  have h1 := vb h
  have h2 := vx h
  rw [h2] at c
  exact (nI_ltI (by omega) hn).mp c
theorem whE_res {σ ρ : Type} (Q : σ → Prop) (P : ρ → Prop) (f : σ → ρ ⊕ σ) (d : ρ) (hd : P d) (h1 : ∀ s r, Q s → f s = .inl r → P r) (h2 : ∀ s t, Q s → f s = .inr t → Q t) : ∀ n s, Q s → P (whE n f d s)
  | 0, _, _ => by rw [whE_0]; exact hd
  | n + 1, s, hs => by
    rw [whE_s]
    cases hf : f s with
    | inl r => exact h1 s r hs hf
    | inr t => exact whE_res Q P f d hd h1 h2 n t (h2 s t hs hf)
theorem shl_n {x : Int32} (h : vp_in x 7) : (1 : Int32) <<< (x &&& 31) = nI (2 ^ ix x) := by
  have h1 := vx h
  have h2 := vb h
  have h3 : ∀ n, n < 7 → (1 : Int32) <<< (nI n &&& 31) = nI (2 ^ n) := by decide +kernel
  have h4 := h3 (ix x) h2
  rw [← h1] at h4
  exact h4
theorem shl_le {x : Int32} (h : vp_in x 7) : 2 ^ ix x ≤ 64 := by
  have h2 := vb h
  have h3 : ∀ n, n < 7 → 2 ^ n ≤ 64 := by decide
  exact h3 _ h2
theorem in_lt {x y : Int32} {L : Nat} (h0 : ¬ x < 0) (h1 : ¬ y ≤ x) (hy : vp_in y (L + 1)) (hL : L < 2 ^ 30) : vp_in x L := by
  obtain ⟨j, hj, rfl⟩ := nI_of h0
  have e := vx hy
  have b := vb hy
  rw [e] at h1
  refine vp_in_nI ?_ (by omega)
  rcases Nat.lt_or_ge j (ix y) with q | q
  · omega
  · exact absurd (nI_le q hj) h1
theorem lt_of_nnle {a b : Nat} (h : ¬ nI b ≤ nI a) (ha : a < 2 ^ 31) : a < b := by
  rcases Nat.lt_or_ge a b with q | q
  · exact q
  · exact absurd (nI_le q ha) h
theorem up_k {I : HI} {j k b : Nat} {v : Int32} (h : b ≠ k) : up I j k v j b = I j b := by simp [up, h]
theorem up_v {I : HI} {j k : Nat} {v : Int32} : up I j k v j k = v := by simp [up]
theorem vp_nI {n L : Nat} (h : n < L) (hL : L < 2 ^ 31) : vp_in (nI n) L := vp_in_nI h hL
theorem le_of_nnlt {a b : Nat} (h : ¬ nI b < nI a) (ha : a < 2 ^ 31) : a ≤ b := by
  rcases Nat.lt_or_ge b a with q | q
  · exact absurd (nI_lt q ha) h
  · exact q
theorem opt_some {o : Option Nat} (h : ¬ o = none) : o = some (Option.getD o 0) := by cases o with | none => exact absurd rfl h | some j => rfl
theorem fo_inv {σ : Type} (P : Nat → σ → Prop) (f : Nat → σ → σ) : ∀ n i s, P i s → (∀ k s, i ≤ k → k < i + n → P k s → P (k + 1) (f k s)) → P (i + n) (fo n i f s)
  | 0, _, _, h, _ => by rw [fo_0]; exact h
  | n + 1, i, s, h, hs => by
    rw [fo_s]
    have h2 := fo_inv P f n (i + 1) (f i s) (hs i s (Nat.le_refl _) (by omega) h) (fun k t h1 h2 => hs k t (by omega) (by omega))
    have e : i + 1 + n = i + (n + 1) := by omega
    rw [e] at h2
    exact h2
section More
variable {E : EvT} {cc : ByteArray} {own : String} {nL fr lo : Nat} {T : Option Pv × HI} {I : HI} {pc n : Nat} {lv lv' : List (Nat × Pv)} {st rest : List Pv}
theorem g_top {x y : Int32} (h : x = y) (kk : G E nL T I pc lv (vi y :: st)) : G E nL T I pc lv (vi x :: st) := by subst h; exact kk
theorem g_mabs (ok : Eok E cc own nL fr lo) {index : Nat} {x : Int32} (d : decode cc pc = .ok (.invokestatic index, 3)) (hw : Cond.methodLink own index Lib.Math.abs.name ∈ lw_tbl) (hst : Cond.static Lib.Math.abs.name ∈ lw_tbl) (hc : Cond.code Lib.Math.abs.name Lib.Math.abs.code 1 (some .int) ∈ lw_tbl) (hcat : lsz rest ≤ 8) (hfr : 1 ≤ fr) (hlo : 21 ≤ lo) (hn : pc + 3 = n) (kk : G E nL T I n lv (vi (iAbs x) :: rest)) : G E nL T I pc lv (vi x :: rest) := by
  subst hn
  intro H locs ls hP hS hl
  exact va_mabs ok.1 ok.2.1 (by rw [ok.2.2.1]; exact hl.1.symm) ok.2.2.2.1 (ok.word hw rfl) (ok.word hst rfl) (ok.word q9 rfl) (ok.word hc rfl) (Nat.le_trans hfr ok.2.2.2.2.2.2.2.2.2.1) (Nat.le_trans (Nat.add_le_add_right (by rw [lsz_sum]; exact hcat) _) (Nat.le_trans hlo ok.2.2.2.2.2.2.2.2.2.2.1)) ok.2.2.2.2.2.2.2.2.2.2.2.1 ok.2.2.2.2.2.2.2.2.2.2.2.2 d (kk H locs ls hP hS hl)
theorem g_mmax (ok : Eok E cc own nL fr lo) {index : Nat} {x y : Int32} (d : decode cc pc = .ok (.invokestatic index, 3)) (hw : Cond.methodLink own index Lib.Math.max.name ∈ lw_tbl) (hst : Cond.static Lib.Math.max.name ∈ lw_tbl) (hc : Cond.code Lib.Math.max.name Lib.Math.max.code 2 (some .int) ∈ lw_tbl) (hcat : lsz rest ≤ 8) (hfr : 1 ≤ fr) (hlo : 21 ≤ lo) (hn : pc + 3 = n) (kk : G E nL T I n lv (vi (iMax x y) :: rest)) : G E nL T I pc lv (vi y :: vi x :: rest) := by
  subst hn
  intro H locs ls hP hS hl
  exact va_mmax ok.1 ok.2.1 (by rw [ok.2.2.1]; exact hl.1.symm) ok.2.2.2.1 (ok.word hw rfl) (ok.word hst rfl) (ok.word q9 rfl) (ok.word hc rfl) (Nat.le_trans hfr ok.2.2.2.2.2.2.2.2.2.1) (Nat.le_trans (Nat.add_le_add_right (by rw [lsz_sum]; exact hcat) _) (Nat.le_trans hlo ok.2.2.2.2.2.2.2.2.2.2.1)) ok.2.2.2.2.2.2.2.2.2.2.2.1 ok.2.2.2.2.2.2.2.2.2.2.2.2 d (kk H locs ls hP hS hl)
theorem g_mmin (ok : Eok E cc own nL fr lo) {index : Nat} {x y : Int32} (d : decode cc pc = .ok (.invokestatic index, 3)) (hw : Cond.methodLink own index Lib.Math.min.name ∈ lw_tbl) (hst : Cond.static Lib.Math.min.name ∈ lw_tbl) (hc : Cond.code Lib.Math.min.name Lib.Math.min.code 2 (some .int) ∈ lw_tbl) (hcat : lsz rest ≤ 8) (hfr : 1 ≤ fr) (hlo : 21 ≤ lo) (hn : pc + 3 = n) (kk : G E nL T I n lv (vi (iMin x y) :: rest)) : G E nL T I pc lv (vi y :: vi x :: rest) := by
  subst hn
  intro H locs ls hP hS hl
  exact va_mmin ok.1 ok.2.1 (by rw [ok.2.2.1]; exact hl.1.symm) ok.2.2.2.1 (ok.word hw rfl) (ok.word hst rfl) (ok.word q9 rfl) (ok.word hc rfl) (Nat.le_trans hfr ok.2.2.2.2.2.2.2.2.2.1) (Nat.le_trans (Nat.add_le_add_right (by rw [lsz_sum]; exact hcat) _) (Nat.le_trans hlo ok.2.2.2.2.2.2.2.2.2.2.1)) ok.2.2.2.2.2.2.2.2.2.2.2.1 ok.2.2.2.2.2.2.2.2.2.2.2.2 d (kk H locs ls hP hS hl)
theorem g_topo {o : Option Nat} {t : Nat} (h : o = some t) (kk : G E nL T I pc lv (vr t :: st)) : G E nL T I pc lv (vo o :: st) := by subst h; exact kk
theorem cpy_self {a b m : Nat} : cpy I a b m b = va_cpy (I a) (I b) 0 0 m := by funext k; simp [cpy]
theorem g_copy (ok : Eok E cc own nL fr lo) {index a b n0 n1 m : Nat} {x : Int32} (d : decode cc pc = .ok (.invokestatic index, 3)) (hw : Cond.methodLink own index arraycopyName ∈ lw_tbl) (hna : Cond.native arraycopyName ∈ lw_tbl) (hst : Cond.static arraycopyName ∈ lw_tbl) (ha : kd a = 7) (hb : kd b = 7) (h0 : ln a = n0) (h1 : ln b = n1) (hx : x = nI m) (hm0 : m ≤ n0) (hm1 : m ≤ n1) (hcat : lsz rest ≤ 8) (hfr : 1 ≤ fr) (hlo : 8 + (nativeFrameWords "java/lang/System" "arraycopy" 5 + 11) ≤ lo) (hn : pc + 3 = n) (kk : G E nL T (cpy I a b m) n lv rest) : G E nL T I pc lv (vi x :: vi 0 :: vr b :: vi 0 :: vr a :: rest) := by
  subst hn
  subst h0
  subst h1
  intro H locs ls hP hS hl
  have hmc : x.toNatClampNeg = m := by rw [hx]; exact nI_clamp (by have := ln_small a; omega)
  have hz : (0 : Int32).toNatClampNeg = 0 := rfl
  refine va_copyi (sp := 0) (dp := 0) (n := x) (ty := .int) ok.1 ok.2.1 (by rw [ok.2.2.1]; exact hl.1.symm) ok.2.2.2.1 (ok.word hw rfl) (ok.word hna rfl) (ok.word hst rfl) (ok.word q3 rfl) ok.2.2.2.2.2.2.1 hP pw_D hS a b 0 0 (pw_ai ha) (pw_ai hb) rfl rfl rfl (by decide) (by decide) (by rw [hx]; exact nI_pos (by have := ln_small a; omega)) (by rw [hz, hmc]; omega) (by rw [hz, hmc]; omega) (fun i _ => rfl) (Nat.le_trans hfr ok.2.2.2.2.2.2.2.2.2.1) (Nat.le_trans (Nat.add_le_add_right (by rw [lsz_sum]; exact hcat) _) (Nat.le_trans hlo ok.2.2.2.2.2.2.2.2.2.2.1)) d (fun H1 locs1 hP1 _ hS1 => kk H1 locs1 ls ?_ hS1 hl)
  rw [hmc, hz, ← cpy_self, ← cel_int (B := e_B E) (cT := e_cT E) (I := cpy I a b m) hb, pw_set (kd_lt (by omega)) _ (fun i h => by funext k; simp [cpy, h])] at hP1
  exact hP1
end More

theorem clsX0 : Cls 0 RX0 TX0 5 := ⟨rfl, (show ∀ w ∈ u_ws RX0 TX0 5, w ∈ wG from List.forall_mem_cons.mpr ⟨List.mem_filter.mpr ⟨q143, rfl⟩, List.forall_mem_cons.mpr ⟨List.mem_filter.mpr ⟨q145, rfl⟩, List.forall_mem_cons.mpr ⟨List.mem_filter.mpr ⟨q147, rfl⟩, List.forall_mem_cons.mpr ⟨List.mem_filter.mpr ⟨q149, rfl⟩, List.forall_mem_cons.mpr ⟨List.mem_filter.mpr ⟨q151, rfl⟩, fun _ h => absurd h List.not_mem_nil⟩⟩⟩⟩⟩), by decide⟩
theorem clsX1 : Cls 1 RX1 TX1 3 := ⟨rfl, (show ∀ w ∈ u_ws RX1 TX1 3, w ∈ wG from List.forall_mem_cons.mpr ⟨List.mem_filter.mpr ⟨q124, rfl⟩, List.forall_mem_cons.mpr ⟨List.mem_filter.mpr ⟨q126, rfl⟩, List.forall_mem_cons.mpr ⟨List.mem_filter.mpr ⟨q128, rfl⟩, fun _ h => absurd h List.not_mem_nil⟩⟩⟩), by decide⟩
theorem clsX2 : Cls 2 RX2 TX2 2 := ⟨rfl, (show ∀ w ∈ u_ws RX2 TX2 2, w ∈ wG from List.forall_mem_cons.mpr ⟨List.mem_filter.mpr ⟨q108, rfl⟩, List.forall_mem_cons.mpr ⟨List.mem_filter.mpr ⟨q110, rfl⟩, fun _ h => absurd h List.not_mem_nil⟩⟩), by decide⟩
theorem clsX3 : Cls 3 RX3 TX3 7 := ⟨rfl, (show ∀ w ∈ u_ws RX3 TX3 7, w ∈ wG from List.forall_mem_cons.mpr ⟨List.mem_filter.mpr ⟨q85, rfl⟩, List.forall_mem_cons.mpr ⟨List.mem_filter.mpr ⟨q87, rfl⟩, List.forall_mem_cons.mpr ⟨List.mem_filter.mpr ⟨q89, rfl⟩, List.forall_mem_cons.mpr ⟨List.mem_filter.mpr ⟨q91, rfl⟩, List.forall_mem_cons.mpr ⟨List.mem_filter.mpr ⟨q93, rfl⟩, List.forall_mem_cons.mpr ⟨List.mem_filter.mpr ⟨q95, rfl⟩, List.forall_mem_cons.mpr ⟨List.mem_filter.mpr ⟨q97, rfl⟩, fun _ h => absurd h List.not_mem_nil⟩⟩⟩⟩⟩⟩⟩), by decide⟩
theorem clsX4 : Cls 4 RX4 TX4 4 := ⟨rfl, (show ∀ w ∈ u_ws RX4 TX4 4, w ∈ wG from List.forall_mem_cons.mpr ⟨List.mem_filter.mpr ⟨q51, rfl⟩, List.forall_mem_cons.mpr ⟨List.mem_filter.mpr ⟨q53, rfl⟩, List.forall_mem_cons.mpr ⟨List.mem_filter.mpr ⟨q55, rfl⟩, List.forall_mem_cons.mpr ⟨List.mem_filter.mpr ⟨q57, rfl⟩, fun _ h => absurd h List.not_mem_nil⟩⟩⟩⟩), by decide⟩
theorem clsX5 : Cls 5 RX5 TX5 9 := ⟨rfl, (show ∀ w ∈ u_ws RX5 TX5 9, w ∈ wG from List.forall_mem_cons.mpr ⟨List.mem_filter.mpr ⟨q163, rfl⟩, List.forall_mem_cons.mpr ⟨List.mem_filter.mpr ⟨q165, rfl⟩, List.forall_mem_cons.mpr ⟨List.mem_filter.mpr ⟨q167, rfl⟩, List.forall_mem_cons.mpr ⟨List.mem_filter.mpr ⟨q169, rfl⟩, List.forall_mem_cons.mpr ⟨List.mem_filter.mpr ⟨q171, rfl⟩, List.forall_mem_cons.mpr ⟨List.mem_filter.mpr ⟨q173, rfl⟩, List.forall_mem_cons.mpr ⟨List.mem_filter.mpr ⟨q175, rfl⟩, List.forall_mem_cons.mpr ⟨List.mem_filter.mpr ⟨q177, rfl⟩, List.forall_mem_cons.mpr ⟨List.mem_filter.mpr ⟨q179, rfl⟩, fun _ h => absurd h List.not_mem_nil⟩⟩⟩⟩⟩⟩⟩⟩⟩), by decide⟩
theorem clsX6 : Cls 6 RX6 TX6 29 := ⟨rfl, (show ∀ w ∈ u_ws RX6 TX6 29, w ∈ wG from List.forall_mem_cons.mpr ⟨List.mem_filter.mpr ⟨q707, rfl⟩, List.forall_mem_cons.mpr ⟨List.mem_filter.mpr ⟨q709, rfl⟩, List.forall_mem_cons.mpr ⟨List.mem_filter.mpr ⟨q711, rfl⟩, List.forall_mem_cons.mpr ⟨List.mem_filter.mpr ⟨q713, rfl⟩, List.forall_mem_cons.mpr ⟨List.mem_filter.mpr ⟨q715, rfl⟩, List.forall_mem_cons.mpr ⟨List.mem_filter.mpr ⟨q717, rfl⟩, List.forall_mem_cons.mpr ⟨List.mem_filter.mpr ⟨q719, rfl⟩, List.forall_mem_cons.mpr ⟨List.mem_filter.mpr ⟨q721, rfl⟩, List.forall_mem_cons.mpr ⟨List.mem_filter.mpr ⟨q723, rfl⟩, List.forall_mem_cons.mpr ⟨List.mem_filter.mpr ⟨q725, rfl⟩, List.forall_mem_cons.mpr ⟨List.mem_filter.mpr ⟨q727, rfl⟩, List.forall_mem_cons.mpr ⟨List.mem_filter.mpr ⟨q729, rfl⟩, List.forall_mem_cons.mpr ⟨List.mem_filter.mpr ⟨q731, rfl⟩, List.forall_mem_cons.mpr ⟨List.mem_filter.mpr ⟨q733, rfl⟩, List.forall_mem_cons.mpr ⟨List.mem_filter.mpr ⟨q735, rfl⟩, List.forall_mem_cons.mpr ⟨List.mem_filter.mpr ⟨q737, rfl⟩, List.forall_mem_cons.mpr ⟨List.mem_filter.mpr ⟨q739, rfl⟩, List.forall_mem_cons.mpr ⟨List.mem_filter.mpr ⟨q741, rfl⟩, List.forall_mem_cons.mpr ⟨List.mem_filter.mpr ⟨q743, rfl⟩, List.forall_mem_cons.mpr ⟨List.mem_filter.mpr ⟨q745, rfl⟩, List.forall_mem_cons.mpr ⟨List.mem_filter.mpr ⟨q747, rfl⟩, List.forall_mem_cons.mpr ⟨List.mem_filter.mpr ⟨q749, rfl⟩, List.forall_mem_cons.mpr ⟨List.mem_filter.mpr ⟨q751, rfl⟩, List.forall_mem_cons.mpr ⟨List.mem_filter.mpr ⟨q753, rfl⟩, List.forall_mem_cons.mpr ⟨List.mem_filter.mpr ⟨q755, rfl⟩, List.forall_mem_cons.mpr ⟨List.mem_filter.mpr ⟨q757, rfl⟩, List.forall_mem_cons.mpr ⟨List.mem_filter.mpr ⟨q759, rfl⟩, List.forall_mem_cons.mpr ⟨List.mem_filter.mpr ⟨q761, rfl⟩, List.forall_mem_cons.mpr ⟨List.mem_filter.mpr ⟨q763, rfl⟩, fun _ h => absurd h List.not_mem_nil⟩⟩⟩⟩⟩⟩⟩⟩⟩⟩⟩⟩⟩⟩⟩⟩⟩⟩⟩⟩⟩⟩⟩⟩⟩⟩⟩⟩⟩), by decide⟩
theorem fs_0_1 (I : HI) (j : Nat) (v : Int32) : (fls I 0 j).set 1 (vi v) = fls (up I j 1 v) 0 j := by simp [fls, up]
theorem fs_0_3 (I : HI) (j : Nat) (v : Int32) : (fls I 0 j).set 3 (vi v) = fls (up I j 3 v) 0 j := by simp [fls, up]
theorem fs_0_4 (I : HI) (j : Nat) (v : Int32) : (fls I 0 j).set 4 (vi v) = fls (up I j 4 v) 0 j := by simp [fls, up]
theorem fs_1_2 (I : HI) (j : Nat) (v : Int32) : (fls I 1 j).set 2 (vi v) = fls (up I j 2 v) 1 j := by simp [fls, up]
theorem fs_3_3 (I : HI) (j : Nat) (v : Int32) : (fls I 3 j).set 3 (vi v) = fls (up I j 3 v) 3 j := by simp [fls, up]
theorem fs_3_4 (I : HI) (j : Nat) (v : Int32) : (fls I 3 j).set 4 (vi v) = fls (up I j 4 v) 3 j := by simp [fls, up]
theorem fs_3_6 (I : HI) (j : Nat) (v : Int32) : (fls I 3 j).set 6 (vi v) = fls (up I j 6 v) 3 j := by simp [fls, up]
theorem fs_4_0 (I : HI) (j : Nat) (v : Int32) : (fls I 4 j).set 0 (vi v) = fls (up I j 0 v) 4 j := by simp [fls, up]
theorem fs_4_1 (I : HI) (j : Nat) (v : Int32) : (fls I 4 j).set 1 (vi v) = fls (up I j 1 v) 4 j := by simp [fls, up]
theorem fs_4_2 (I : HI) (j : Nat) (v : Int32) : (fls I 4 j).set 2 (vi v) = fls (up I j 2 v) 4 j := by simp [fls, up]
theorem fs_5_2 (I : HI) (j : Nat) (v : Int32) : (fls I 5 j).set 2 (vi v) = fls (up I j 2 v) 5 j := by simp [fls, up]
theorem fs_5_7 (I : HI) (j : Nat) (v : Int32) : (fls I 5 j).set 7 (vi v) = fls (up I j 7 v) 5 j := by simp [fls, up]
theorem fs_6_3 (I : HI) (j : Nat) (v : Int32) : (fls I 6 j).set 3 (vi v) = fls (up I j 3 v) 6 j := by simp [fls, up]
theorem fs_6_4 (I : HI) (j : Nat) (v : Int32) : (fls I 6 j).set 4 (vi v) = fls (up I j 4 v) 6 j := by simp [fls, up]
theorem fs_6_5 (I : HI) (j : Nat) (v : Int32) : (fls I 6 j).set 5 (vi v) = fls (up I j 5 v) 6 j := by simp [fls, up]
theorem fs_6_10 (I : HI) (j : Nat) (v : Int32) : (fls I 6 j).set 10 (vi v) = fls (up I j 10 v) 6 j := by simp [fls, up]
theorem fs_6_13 (I : HI) (j : Nat) (v : Int32) : (fls I 6 j).set 13 (vi v) = fls (up I j 13 v) 6 j := by simp [fls, up]
theorem fs_6_14 (I : HI) (j : Nat) (v : Int32) : (fls I 6 j).set 14 (vi v) = fls (up I j 14 v) 6 j := by simp [fls, up]
theorem fs_6_15 (I : HI) (j : Nat) (v : Int32) : (fls I 6 j).set 15 (vi v) = fls (up I j 15 v) 6 j := by simp [fls, up]
theorem fs_6_16 (I : HI) (j : Nat) (v : Int32) : (fls I 6 j).set 16 (vi v) = fls (up I j 16 v) 6 j := by simp [fls, up]
theorem fs_6_22 (I : HI) (j : Nat) (v : Int32) : (fls I 6 j).set 22 (vi v) = fls (up I j 22 v) 6 j := by simp [fls, up]
theorem fs_6_23 (I : HI) (j : Nat) (v : Int32) : (fls I 6 j).set 23 (vi v) = fls (up I j 23 v) 6 j := by simp [fls, up]
theorem fs_6_24 (I : HI) (j : Nat) (v : Int32) : (fls I 6 j).set 24 (vi v) = fls (up I j 24 v) 6 j := by simp [fls, up]
theorem fs_6_27 (I : HI) (j : Nat) (v : Int32) : (fls I 6 j).set 27 (vi v) = fls (up I j 27 v) 6 j := by simp [fls, up]
theorem fs_6_28 (I : HI) (j : Nat) (v : Int32) : (fls I 6 j).set 28 (vi v) = fls (up I j 28 v) 6 j := by simp [fls, up]
theorem fs_6_25_65 (I : HI) (j : Nat) : (fls I 6 j).set 25 (vr 65) = fls (up I j 25 65) 6 j := by
  have e : kin 65 = some 65 := by decide +kernel
  simp [fls, up, e]
theorem fs_6_25_66 (I : HI) (j : Nat) : (fls I 6 j).set 25 (vr 66) = fls (up I j 25 66) 6 j := by
  have e : kin 66 = some 66 := by decide +kernel
  simp [fls, up, e]
