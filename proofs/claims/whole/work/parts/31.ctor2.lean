section Ctor2
variable {E : EvT} {cc : ByteArray} {own : String} {nL fr lo ce sl n pc np : Nat} {e e' : Nat → va_E} {lv lv' : List (Nat × Pv)} {st rest : List Pv} {Q : State → Prop}
theorem gw_at {B j : Nat} {v : va_E} (hj : j < n) (he : e j = v) : (gw B n e)[j]? = some (B + j, v) := by rw [gw_get hj, he]
theorem k_newo (ok : Eok E cc own nL fr lo) {c N index : Nat} {C : String} {F : u_T} {fs : List Value} (d : decode cc pc = .ok (.new index, 3)) (hc : Cls c C F N) (ty0 : Nat → FieldType) (hty : ∀ k, k < N → parseFieldDescriptor (F k).2.2.1 = some (ty0 k)) (hw : Cond.classLink own index C ∈ lw_tbl) (hi : Cond.instantiable C N ∈ lw_tbl) (hini : Cond.initialized C ∈ lw_tbl) (hfs : ∀ j, j < N → defaultValue (ty0 j) = vp_V fs j) (hce : ce + 1 ≤ (e_R E).cells) (hsl : sl + N ≤ (e_R E).slots) (hn : pc + 3 = np) (kk : Gk E nL (ce + 1) (sl + N) (n + 1) (ue e n (.inr (c, fs))) np lv (vr n :: st) Q) : Gk E nL ce sl n e pc lv st Q := by
  subst hn
  intro H locs ls hP hz hS hl
  have hKn := ok.2.2.2.2.2.2.1.1 c _ hc.1
  refine W.newcK ok.1 ok.2.1 ok.2.2.2.1 (ok.word hw rfl) (ok.word hi rfl) (ok.word hini rfl) rfl d hce hsl hKn.2.1 hz fun H1 kC hkC e1 z1 o1 => ?_
  refine kk H1 locs ls ?_ (by rw [z1]; omega) ⟨Nat.le_trans hS.1 (by omega), fun x h1 h2 => (o1 x (by have := hS.1; omega)).trans (hS.2.1 x h1 h2), hS.2.2⟩ hl
  rw [← gw_push]
  refine ((hP.kept (fun k x hx => o1 x.1 (by rw [← hz]; exact (hP k x hx).lt))).app (fun k x hx => ?_))
  have hz : k < 1 := (List.getElem?_eq_some_iff.mp hx).1
  rw [show k = 0 by omega] at hx
  cases hx
  exact ⟨_, hc.1, (u_born ty0 ok.2.2.2.2.1 hc.2.1 hKn hkC e1 hty).to hfs⟩
theorem k_newq (ok : Eok E cc own nL fr lo) {t0 index : Nat} (hZf : Zf (e_B E) t0 (e_s E)) {x : Int32} {N : Nat} (d : decode cc pc = .ok (.anewarray index, 3)) (hw : Cond.classLink own index "EightOnIce$Trace" ∈ lw_tbl) (hN : x.toNatClampNeg = N) (h0 : ¬ x < 0) (hb : N * 4 ≤ 536870912) (hce : ce + 1 ≤ (e_R E).cells) (hsl : sl + N ≤ (e_R E).slots) (hn : pc + 3 = np) (kk : Gk E nL (ce + 1) (sl + N) (n + 1) (ue e n (.inl (e_cT E, N, .inr (.inr (.inr (.inr (fun _ => none))))))) np lv (vr n :: st) Q) : Gk E nL ce sl n e pc lv (vi x :: st) Q := by
  subst hn
  subst hN
  intro H locs ls hP hz hS hl
  refine W.anew ok.1 ok.2.1 ok.2.2.2.1 (ok.word hw rfl) (va_AO.use hZf.2.2.2.1) rfl d rfl h0 hb hce hsl fun cA kA comp f1 f2 f3 f4 => ?_
  have hc : cA = e_cT E := by
    obtain ⟨kA2, comp2, g1, g2, g3, g4⟩ := (ok.2.2.2.2.2.2.1.2 1 _ rfl).2
    exact Option.some.inj (f1.symm.trans g4)
  subst hc
  generalize hH1 : H.push ({ cls := e_cT E, slots := Array.replicate x.toNatClampNeg .null, vm := .none } : Cell) = H1
  have z1 : H1.size = H.size + 1 := by rw [← hH1, Array.size_push]
  have e1 : H1[H.size]? = some (arrV (e_cT E) x.toNatClampNeg (fun _ => .null)) := by rw [← hH1, Array.getElem?_push_size, ← arrV_new]
  have o1 : ∀ q : Nat, q < H.size → H1[q]? = H[q]? := fun q hq => by rw [← hH1, Array.getElem?_push, if_neg (Nat.ne_of_lt hq)]
  rw [hz] at z1 e1 o1 ⊢
  refine kk H1 locs ls ?_ (by rw [z1]; omega) ⟨Nat.le_trans hS.1 (by omega), fun x h1 h2 => (o1 x (by have := hS.1; omega)).trans (hS.2.1 x h1 h2), hS.2.2⟩ hl
  rw [← gw_push]
  refine ((hP.kept (fun k x hx => o1 x.1 (by rw [← hz]; exact (hP k x hx).lt))).app (fun k x hx => ?_))
  have hz : k < 1 := (List.getElem?_eq_some_iff.mp hx).1
  rw [show k = 0 by omega] at hx
  cases hx
  show H1[e_B E + n]? = some (vp_cell _ _)
  rw [vp_cell_q]
  exact e1
theorem k_put (ok : Eok E cc own nL fr lo) {j c k N index : Nat} {C : String} {F : u_T} {v : Pv} {fs : List Value} (hin : (e_me E).name = "<init>") (d : decode cc pc = .ok (.putfield index, 3)) (hc : Cls c C F N) (ty0 : Nat → FieldType) (hty : ∀ k, k < N → parseFieldDescriptor (F k).2.2.1 = some (ty0 k)) (hnm : ∀ a, a < N → ∀ b, b < N → a ≠ b → (F a).2.1 ≠ (F b).2.1) (hk : k < N) (hw : Cond.fieldLink own index (F k).1 (F k).2.1 (F k).2.2.1 ∈ lw_tbl) (hj : j < n) (he : e j = .inr (c, fs)) (hdecl : (F k).1 = own) (hnar : ∀ B, narrow (ty0 k) (pv B v) = pv B v) (hfit : ∀ B, fits (ty0 k) (pv B v) = true) (hlen : k < fs.length) (hn : pc + 3 = np) (kk : Gk E nL ce sl n (ue e j (.inr (c, fs.set k (pv (e_B E) v)))) np lv st Q) : Gk E nL ce sl n e pc lv (v :: vr j :: st) Q := by
  subst hn
  intro H locs ls hP hz hS hl
  have hK := ok.2.2.2.2.2.2.1
  have hat := gw_at (B := e_B E) hj he
  have hap := va_apart (own := own) ok.2.2.2.2.1 hc.2.1 ty0 hty hnm hK hc.1
  obtain ⟨r, h1, cell, q1, q2, q3, q4⟩ := hP j _ hat
  have hr : r = (C, F, N) := Option.some.inj (h1.symm.trans hc.1)
  subst hr
  obtain ⟨hS0, hfc, kC, hkC, hkind⟩ := hK.1 c _ hc.1
  obtain ⟨cf, kf, fi, f, hi, hsl⟩ := hS0 k hk
  have hlay := ok.2.2.2.2.1 _ (hc.2.1 _ (u_in_lay hk))
  have hst := (u_facts hfc hkC (u_lays ok.2.2.2.2.1 hc.2.1 hk) hi).1
  have fin : ∀ H' : Heap, H'[e_B E + j]? = some { cell with slots := cell.slots.set! f.slot (pv (e_B E) v) } → H'.size = H.size → (∀ q, q ≠ e_B E + j → H'[q]? = H[q]?) → ∀ locs1, va_S (fun q => e_B E ≤ q) (e_s E).heap H' locs1 → W (e_p E) (e_l E) (e_e E) (e_R E) (e_s E) (e_m E) (e_a E) (e_b E) (e_me E) (e_c E) H' locs1 ce sl Q (F0 (e_m E) (pc + 3) ls (st.map (pv (e_B E)))) := by
    intro H' e1 e2 e3 locs1 hS1
    rw [hsl] at e1
    refine kk H' locs1 ls ?_ (by rw [e2]; exact hz) hS1 hl
    rw [← gw_set hj]
    exact hP.set gw_D hat ⟨_, hc.1, t_OB.to (V := updV (vp_V fs) k (pv (e_B E) v)) ⟨_, e1, q2, q3, t_set q4 hap hk (pv (e_B E) v)⟩ (fun j _ => vp_updV_set hlen (pv (e_B E) v) j)⟩ e3
  unfold u_lay at hlay
  cases hfin : (F k).2.2.2 with
  | false =>
    rw [if_neg (by rw [hfin]; decide)] at hlay
    have h6 := u_store hfc hkC hkind hlay hi (hty k hk) (hnar (e_B E)) (hfit (e_B E))
    exact W.putK ok.1 ok.2.1 (f := f) ⟨ok.2.2.2.1, ok.word hw rfl, ⟨_, _, _, hi⟩, hst⟩ (by rw [q2]; exact h6) q1 q3 (by rw [hsl]; exact k2_hasslot (q4 k hk)) rfl rfl d fun H' e1 e2 e3 => fin H' e1 e2 e3 _ (hS.put e2 e3 (gw_D.2 j _ hat))
  | true =>
    rw [if_pos hfin] at hlay
    have hcf : (e_m E).cls = cf := by
      obtain ⟨_, _, c', _, _, _, -, -, hf', -, -, -, hown2, -⟩ := Cond.laysFinal_spec hlay
      have e1 : c' = cf := by have := hi.symm.trans hf'; simp at this; exact this.1.symm
      rw [hdecl] at hown2
      rw [← e1]; exact Option.some.inj (ok.2.2.2.1.symm.trans hown2)
    have h6 := u_fits hfc hkC hkind (Or.inr hlay) hi (hty k hk) (hnar (e_B E)) (hfit (e_B E))
    exact W.putFinK ok.1 ok.2.1 ok.2.2.2.1 (ok.word hw rfl) hi hst hcf hin (by rw [q2]; exact h6) q1 q3 (by rw [hsl]; exact k2_hasslot (q4 k hk)) rfl rfl d fun H' e1 e2 e3 => fin H' e1 e2 e3 _ (hS.put e2 e3 (gw_D.2 j _ hat))
end Ctor2
