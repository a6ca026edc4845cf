section Ctor5
variable {E : EvT} {cc : ByteArray} {own : String} {nL fr lo ce sl n pc np : Nat} {e e' : Nat → va_E} {lv lv' : List (Nat × Pv)} {st rest : List Pv} {Q : State → Prop}
theorem Zf.at {B t0 : Nat} {u U : State} (hW : u.WarmedH U.vm) (hB : B ≤ u.heap.size) (hq : ∀ a : Nat, a < u.heap.size → ¬ B ≤ a → U.heap[a]? = u.heap[a]?) (h : Zf B t0 u) : Zf B t0 U := by
  obtain ⟨f1, ⟨scr, h1, h2, h3⟩, f3, f4, f5⟩ := h
  refine ⟨f1.at hW.alike hq, ⟨scr, by rw [hq t0 (by omega) (by omega)]; exact h1, State.isArrayOf_alike hW.alike h2, h3⟩, f3, f4.moved hW.alike, va_Nw.warmF hW f5⟩
theorem Wc.of (ok : Eok E cc own nL fr lo) {t0 : Nat} (hF : Zf (e_B E) t0 (e_s E)) {H : Heap} {locs : List Loc} (hP : va_P (e_D E) vwCl (gw (e_B E) n e) H) (hz : H.size = e_B E + n) (hS : va_S (fun q => e_B E ≤ q) (e_s E).heap H locs) (U : State) (hU : U.heap = H) (hW : (e_s E).WarmedH U.vm) : Wc (e_D E) (e_cI E) (e_cT E) (e_B E) t0 (e_t1 E) (e_t2 E) n e U :=
  ⟨by rw [hU]; exact hP, va_K.moved hW.alike ok.2.2.2.2.2.2.1, by rw [hU]; exact hz, Zt.at hW.alike (fun a h1 h2 => by rw [hU]; exact hS.2.1 a h1 h2) ok.2.2.2.2.2.2.2.2.1, Nx.warm hW ok.2.2.2.2.2.1, Zf.at hW ok.2.2.2.2.2.2.2.1 (fun a h1 h2 => by rw [hU]; exact hS.2.1 a h1 h2) hF⟩
theorem k_back {H : Heap} {locs : List Loc} {ls : Array Slot} {dc ds n' : Nat} {A0 : Array Value} {st0 : List Value} (hS : va_S (fun q => e_B E ≤ q) (e_s E).heap H locs) (hl : lv_has ls nL (lvm (e_B E) lv))
    (hr : va_Run (e_p E) (e_l E) (e_e E) (e_R E) (e_s E) (e_m E) (e_a E) (e_b E) (e_me E) (e_c E) H locs ce sl dc ds (F0 (e_m E) pc ls st0) (rest.map (pv (e_B E))) (Qc (e_D E) (e_B E) n' e' A0) (fun q => e_B E ≤ q)) (kk : Gk E nL (ce + dc) (sl + ds) n' e' (pc + 3) lv rest Q) :
    W (e_p E) (e_l E) (e_e E) (e_R E) (e_s E) (e_m E) (e_a E) (e_b E) (e_me E) (e_c E) H locs ce sl Q (F0 (e_m E) pc ls st0) := by
  intro T0 hT X
  obtain ⟨v0, st₀, t, T', L, h0, X', hL, e1, e2, ⟨⟨hv, hP1, hz1⟩, hz, hk⟩, stp⟩ := hr T0 hT X
  cases hv
  rw [h0] at hz hk
  have hS1 : va_S (fun q => e_B E ≤ q) (e_s E).heap T'.heap (locs ++ L) := ⟨Nat.le_trans hS.1 (by rw [e1]; exact hz), fun q h1 h2 => by rw [e1, hk q (Nat.lt_of_lt_of_le h1 hS.1) h2]; exact hS.2.1 q h1 h2, fun q hq => by
    rcases List.mem_append.mp hq with h | h
    · exact hS.2.2 q h
    · exact hL q h⟩
  obtain ⟨t2, a1, b1⟩ := kk T'.heap (locs ++ L) ls (by rw [e1]; exact hP1) (by rw [e1]; exact hz1) hS1 hl T' rfl X'
  exact ⟨t2, stp t2 a1, b1⟩
theorem k_ctor (ok : Eok E cc own nL fr lo) {t0 : Nat} (hF : Zf (e_B E) t0 (e_s E)) {y : MethodName} {bytes : ByteArray} {maxL nq index fr' lo' dc ds n' j : Nat} {av : List Pv} {f f' : EV} (hC : Ck y bytes maxL fr' lo' (vr j :: av) dc ds n f n' f') (hk : Kn y bytes maxL none nq) (hi : Cond.instanceMethod y ∈ lw_tbl) (hyn : y.name = "<init>") (hw : Cond.methodLink own index y ∈ lw_tbl) (d : decode cc pc = .ok (.invokespecial index, 3)) (he : f (e_B E) (e_cI E) (e_cT E) = e) (hst : st = av.reverse ++ (vr j :: rest)) (hnp : av.length = nq) (hcat : lsz rest ≤ 8) (hfr : fr' + 1 ≤ fr) (hlo : 8 + (maxL + 11) + lo' ≤ lo) (hce : ce + dc ≤ (e_R E).cells) (hsl : sl + ds ≤ (e_R E).slots) (hn : pc + 3 = np) (kk : Gk E nL (ce + dc) (sl + ds) n' (f' (e_B E) (e_cI E) (e_cT E)) np lv rest Q) : Gk E nL ce sl n e pc lv st Q := by
  subst hn
  subst he
  intro H locs ls hP hz hS hl
  have hlen : ∀ sig, parseMethodDescriptor y.desc = some sig → nq = sig.parameters.length := fun sig h => by
    have h2 := hk.2.2.2
    rw [h] at h2
    exact (Option.some.inj h2).symm
  have hr := va_runI (b := e_B E + j) (As := av.map (pv (e_B E))) (rest := rest.map (pv (e_B E))) (g := F0 (e_m E) pc ls (st.map (pv (e_B E)))) (bytes := bytes) (maxL := maxL) (n := nq) (mc := dc) (ms := ds) (H := H) (locs := locs) (cells := ce) (slots := sl) (R := e_R E) (e := e_e E) (below := e_b E) (meth := e_me E) ⟨ok.1, ok.2.1, ok.2.2.1, ok.2.2.2.1, ok.2.2.2.2.1⟩ (hC (e_l E) (e_D E) (e_cI E) (e_cT E) (e_B E) t0 (e_t1 E) (e_t2 E)) ⟨⟨rfl, rfl, Nat.le_trans hfr ok.2.2.2.2.2.2.2.2.2.1, Nat.le_trans hlo ok.2.2.2.2.2.2.2.2.2.2.1, pay_in ok.2.2.2.2.1 (good_code hk.1), List.mem_cons_self, (ok.word hk.1 rfl), (ok.word hk.2.1 rfl), hk.2.2.1, hlen, ok.word hw rfl⟩, hyn, ok.word hi rfl⟩ ⟨Wc.blind _ _ _ _ _ _ _ _ _ _, fun U hU hW => ⟨rfl, Wc.of ok hF hP hz hS U hU hW⟩⟩ rfl (by simpa using hnp) hl.1 (by rw [hst]; simp; rfl) (lv_room (by rw [lsz_sum]; exact hcat)) d ⟨hce, hsl⟩
  exact k_back hS hl hr kk
theorem k_ctorN (ok : Eok E cc own nL fr lo) {t0 : Nat} (hF : Zf (e_B E) t0 (e_s E)) {y : MethodName} {bytes : ByteArray} {maxL nq index fr' lo' dc ds n' j : Nat} {av : List Pv} {f f' : EV} (hC : Ck y bytes maxL fr' lo' (vr j :: av) dc ds n f n' f') (hk : Kn y bytes maxL none nq) (hi : Cond.instanceMethod y ∈ lw_tbl) (hyn : y.name = "<init>") {host : String} (hw : Cond.methodLinkNest own index y host ∈ lw_tbl) (d : decode cc pc = .ok (.invokespecial index, 3)) (he : f (e_B E) (e_cI E) (e_cT E) = e) (hst : st = av.reverse ++ (vr j :: rest)) (hnp : av.length = nq) (hcat : lsz rest ≤ 8) (hfr : fr' + 1 ≤ fr) (hlo : 8 + (maxL + 11) + lo' ≤ lo) (hce : ce + dc ≤ (e_R E).cells) (hsl : sl + ds ≤ (e_R E).slots) (hn : pc + 3 = np) (kk : Gk E nL (ce + dc) (sl + ds) n' (f' (e_B E) (e_cI E) (e_cT E)) np lv rest Q) : Gk E nL ce sl n e pc lv st Q := by
  subst hn
  subst he
  intro H locs ls hP hz hS hl
  have hlen : ∀ sig, parseMethodDescriptor y.desc = some sig → nq = sig.parameters.length := fun sig h => by
    have h2 := hk.2.2.2
    rw [h] at h2
    exact (Option.some.inj h2).symm
  have hr := va_runIN (b := e_B E + j) (As := av.map (pv (e_B E))) (rest := rest.map (pv (e_B E))) (g := F0 (e_m E) pc ls (st.map (pv (e_B E)))) (bytes := bytes) (maxL := maxL) (n := nq) (mc := dc) (ms := ds) (H := H) (locs := locs) (cells := ce) (slots := sl) (R := e_R E) (e := e_e E) (below := e_b E) (meth := e_me E) ⟨ok.1, ok.2.1, ok.2.2.1, ok.2.2.2.1, ok.2.2.2.2.1⟩ (hC (e_l E) (e_D E) (e_cI E) (e_cT E) (e_B E) t0 (e_t1 E) (e_t2 E)) ⟨⟨⟨rfl, rfl, Nat.le_trans hfr ok.2.2.2.2.2.2.2.2.2.1, Nat.le_trans hlo ok.2.2.2.2.2.2.2.2.2.2.1, pay_in ok.2.2.2.2.1 (good_code hk.1), List.mem_cons_self⟩, (ok.word hk.1 rfl), (ok.word hk.2.1 rfl), hk.2.2.1, hlen, va_Nw.use rfl (ok.2.2.2.2.2.1 _ hw rfl)⟩, hyn, ok.word hi rfl⟩ ⟨Wc.blind _ _ _ _ _ _ _ _ _ _, fun U hU hW => ⟨rfl, Wc.of ok hF hP hz hS U hU hW⟩⟩ rfl (by simpa using hnp) hl.1 (by rw [hst]; simp; rfl) (lv_room (by rw [lsz_sum]; exact hcat)) d ⟨hce, hsl⟩
  exact k_back hS hl hr kk
end Ctor5
