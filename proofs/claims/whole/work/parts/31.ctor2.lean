section Ctor2
variable {E : EvT} {cc : ByteArray} {own : String} {nL fr lo ce sl n pc np : Nat} {e e' : Nat → va_E} {lv lv' : List (Nat × Pv)} {st rest : List Pv} {Q : State → Prop}
theorem gw_at {B j : Nat} {v : va_E} (hj : j < n) (he : e j = v) : (gw B n e)[j]? = some (B + j, v) := by rw [gw_get hj, he]
theorem k_newo (ok : Eok E cc own nL fr lo) {c N index : Nat} {C : String} {F : u_T} {fs : List Value} (d : decode cc pc = .ok (.new index, 3)) (hc : Cls c C F N) (ty0 : Nat → FieldType) (hty : ∀ k, k < N → parseFieldDescriptor (F k).2.2.1 = some (ty0 k)) (hw : Cond.classLink own index C ∈ lw_tbl) (hi : Cond.instantiable C N ∈ lw_tbl) (hini : Cond.initialized C ∈ lw_tbl) (hfs : ∀ j, j < N → defaultValue (ty0 j) = vp_V fs j) (hce : ce + 1 ≤ (e_R E).cells) (hsl : sl + N ≤ (e_R E).slots) (hn : pc + 3 = np) (kk : Gk E nL (ce + 1) (sl + N) (n + 1) (ue e n (.inr (c, fs))) np lv (vr n :: st) Q) : Gk E nL ce sl n e pc lv st Q := by
  subst hn
  intro H locs ls hP hz hS hl
  have hKn := ok.2.2.2.2.2.2.1.1 c _ hc.1
  refine W.newcK ok.1 ok.2.1 ok.2.2.2.1 (ok.word hw rfl) (ok.word hi rfl) (ok.word hini rfl) rfl d hce hsl hKn.2.1 hz fun H1 kC hkC e1 z1 o1 => ?_
  refine kk H1 locs ls ?_ (by rw [z1]; omega) ⟨Nat.le_trans hS.1 (by omega), fun x h1 h2 => (o1 x (by have := hS.1; omega)).trans (hS.2.1 x h1 h2), hS.2.2⟩ hl
  rw [← gw_push]
  refine ((hP.kept (fun k x hx => o1 x.1 (by rw [← hz]; exact (hP k x hx).lt))).app (fun k x hx => ?_))
  have hz : k < 1 := (List.getElem?_eq_some_iff.mp hx).1
  rw [show k = 0 by omega] at hx
  cases hx
  exact ⟨_, hc.1, (u_born ty0 ok.2.2.2.2.1 hc.2.1 hKn hkC e1 hty).to hfs⟩
theorem k_newq (ok : Eok E cc own nL fr lo) {t0 index : Nat} (hZf : Zf (e_B E) t0 (e_s E)) {x : Int32} {N : Nat} (d : decode cc pc = .ok (.anewarray index, 3)) (hw : Cond.classLink own index "EightOnIce$Trace" ∈ lw_tbl) (hN : x.toNatClampNeg = N) (h0 : ¬ x < 0) (hb : N * 4 ≤ 536870912) (hce : ce + 1 ≤ (e_R E).cells) (hsl : sl + N ≤ (e_R E).slots) (hn : pc + 3 = np) (kk : Gk E nL (ce + 1) (sl + N) (n + 1) (ue e n (.inl (e_cT E, N, .inr (.inr (.inr (.inr (fun _ => none))))))) np lv (vr n :: st) Q) : Gk E nL ce sl n e pc lv (vi x :: st) Q := by
  subst hn
  subst hN
  intro H locs ls hP hz hS hl
  refine W.anew ok.1 ok.2.1 ok.2.2.2.1 (ok.word hw rfl) (va_AO.use hZf.2.2.2.1) rfl d rfl h0 hb hce hsl fun cA kA comp f1 f2 f3 f4 => ?_
  have hc : cA = e_cT E := by
    obtain ⟨kA2, comp2, g1, g2, g3, g4⟩ := (ok.2.2.2.2.2.2.1.2 1 _ rfl).2
    exact Option.some.inj (f1.symm.trans g4)
  subst hc
  generalize hH1 : H.push ({ cls := e_cT E, slots := Array.replicate x.toNatClampNeg .null, vm := .none } : Cell) = H1
  have z1 : H1.size = H.size + 1 := by rw [← hH1, Array.size_push]
  have e1 : H1[H.size]? = some (arrV (e_cT E) x.toNatClampNeg (fun _ => .null)) := by rw [← hH1, Array.getElem?_push_size, ← arrV_new]
  have o1 : ∀ q : Nat, q < H.size → H1[q]? = H[q]? := fun q hq => by rw [← hH1, Array.getElem?_push, if_neg (Nat.ne_of_lt hq)]
  rw [hz] at z1 e1 o1 ⊢
  refine kk H1 locs ls ?_ (by rw [z1]; omega) ⟨Nat.le_trans hS.1 (by omega), fun x h1 h2 => (o1 x (by have := hS.1; omega)).trans (hS.2.1 x h1 h2), hS.2.2⟩ hl
  rw [← gw_push]
  refine ((hP.kept (fun k x hx => o1 x.1 (by rw [← hz]; exact (hP k x hx).lt))).app (fun k x hx => ?_))
  have hz : k < 1 := (List.getElem?_eq_some_iff.mp hx).1
  rw [show k = 0 by omega] at hx
  cases hx
  show H1[e_B E + n]? = some (vp_cell _ _)
  rw [vp_cell_q]
  exact e1
theorem k_put (ok : Eok E cc own nL fr lo) {j c k N index : Nat} {C : String} {F : u_T} {v : Pv} {fs : List Value} (hin : (e_me E).name = "<init>") (d : decode cc pc = .ok (.putfield index, 3)) (hc : Cls c C F N) (ty0 : Nat → FieldType) (hty : ∀ k, k < N → parseFieldDescriptor (F k).2.2.1 = some (ty0 k)) (hnm : ∀ a, a < N → ∀ b, b < N → a ≠ b → (F a).2.1 ≠ (F b).2.1) (hk : k < N) (hw : Cond.fieldLink own index (F k).1 (F k).2.1 (F k).2.2.1 ∈ lw_tbl) (hj : j < n) (he : e j = .inr (c, fs)) (hdecl : (F k).1 = own) (hnar : ∀ B, narrow (ty0 k) (pv B v) = pv B v) (hfit : ∀ B, fits (ty0 k) (pv B v) = true) (hlen : k < fs.length) (hn : pc + 3 = np) (kk : Gk E nL ce sl n (ue e j (.inr (c, fs.set k (pv (e_B E) v)))) np lv st Q) : Gk E nL ce sl n e pc lv (v :: vr j :: st) Q := by
  subst hn
  intro H locs ls hP hz hS hl
  have hsz : ∀ (H1 : Heap), va_S (fun q => e_B E ≤ q) (e_s E).heap H1 [] → True := fun _ _ => trivial
  cases hfin : (F k).2.2.2 with
  | false =>
    refine va_put (v := pv (e_B E) v) (ty := ty0 k) ok.1 ok.2.1 ok.2.2.2.2.1 hc.2.1 ty0 hty hnm ok.2.2.2.1 ok.2.2.2.2.2.2.1 hP gw_D hS j (gw_at hj he) hc.1 k hk (ok.word hw rfl) (fun _ h => h) hfin (hty k hk) (hnar _) (hfit _) hlen d (fun H1 locs1 hP1 _ hS1 => kk H1 locs1 ls ?_ ?_ hS1 hl)
    · rw [gw_set hj] at hP1; exact hP1
    · sorry
  | true =>
    refine va_putF (v := pv (e_B E) v) (ty := ty0 k) ok.1 ok.2.1 ok.2.2.2.2.1 hc.2.1 ty0 hty hnm ok.2.2.2.1 ok.2.2.2.2.2.2.1 hP gw_D hS j (gw_at hj he) hc.1 k hk (ok.word hw rfl) (fun _ h => h) hfin hin hdecl (hty k hk) (hnar _) (hfit _) hlen d (fun H1 locs1 hP1 _ hS1 => kk H1 locs1 ls ?_ ?_ hS1 hl)
    · rw [gw_set hj] at hP1; exact hP1
    · sorry
end Ctor2
