section Ctor3
variable {E : EvT} {cc : ByteArray} {own : String} {nL fr lo ce sl n pc np : Nat} {e e' : Nat → va_E} {lv lv' : List (Nat × Pv)} {st rest : List Pv} {Q : State → Prop}
theorem k_get (ok : Eok E cc own nL fr lo) {j c k index : Nat} {C : String} {F : u_T} {N : Nat} {v : Pv} {fs : List Value} (d : decode cc pc = .ok (.getfield index, 3)) (hc : Cls c C F N) (hk : k < N) (hw : Cond.fieldLink own index (F k).1 (F k).2.1 (F k).2.2.1 ∈ lw_tbl) (hj : j < n) (he : e j = .inr (c, fs)) (hv : fs[k]? = some (pv (e_B E) v)) (hn : pc + 3 = np) (kk : Gk E nL ce sl n e np lv (v :: st) Q) : Gk E nL ce sl n e pc lv (vr j :: st) Q := by
  subst hn
  exact fun H locs ls hP hz hS hl => va_get (v := pv (e_B E) v) ok.1 ok.2.1 ok.2.2.2.2.1 hc.2.1 ok.2.2.2.1 ok.2.2.2.2.2.2.1 hP j (gw_at hj he) hc.1 k hk (ok.word hw rfl) (fun _ h => h) hv d (kk H locs ls hP hz hS hl)
theorem k_iast (ok : Eok E cc own nL fr lo) {j i L : Nat} {x v : Int32} {f : Nat → Int32} (d : decode cc pc = .ok (.iastore, 1)) (hj : j < n) (he : e j = .inl (e_cI E, L, .inl f)) (hx : x = nI i) (hi : i < L) (hL : L < 2 ^ 31) (hn : pc + 1 = np) (kk : Gk E nL ce sl n (ue e j (.inl (e_cI E, L, .inl (upd f i v)))) np lv st Q) : Gk E nL ce sl n e pc lv (vi v :: vi x :: vr j :: st) Q := by
  subst hn
  intro H locs ls hP hz hS hl
  have hat := gw_at (B := e_B E) hj he
  have hin := in_of hx hi hL
  refine W.iast ok.1 ok.2.1 (hP j _ hat) ((ok.2.2.2.2.2.2.1.2 0 _ rfl).1 L (fun j => .int (f j))) (fun q => by cases q) (by show ¬ (x < 0 ∨ (arrV _ _ _).slots.size ≤ _); rw [arrV_size]; exact hin) rfl rfl d fun H1 e1 z oq => ?_
  refine kk H1 _ ls ?_ (by rw [z]; exact hz) (hS.put z oq (gw_D.2 j _ hat)) hl
  rw [← gw_set hj]
  refine hP.set gw_D hat ?_ oq
  show H1[e_B E + j]? = some (vp_cell _ _)
  rw [e1, vp_cell_i, vp_cell_i, arrV_store, cl_of hx hi hL]
  congr 2
  funext q
  by_cases hq : q = i
  · subst hq
    simp [updV, upd]
  · simp [updV, upd, hq]
theorem k_astq (ok : Eok E cc own nL fr lo) {j i L c2 j2 : Nat} {x : Int32} {f : Nat → Option Nat} {fs : List Value} (d : decode cc pc = .ok (.aastore, 1)) (hj : j < n) (he : e j = .inl (e_cT E, L, .inr (.inr (.inr (.inr f))))) {F : u_T} {N : Nat} (hc : Cls c2 "EightOnIce$Trace" F N) (hj2 : j2 < n) (he2 : e j2 = .inr (c2, fs)) (hx : x = nI i) (hi : i < L) (hL : L < 2 ^ 31) (hn : pc + 1 = np) (kk : Gk E nL ce sl n (ue e j (.inl (e_cT E, L, .inr (.inr (.inr (.inr (va_up f i (some (e_B E + j2)))))))))  np lv st Q) : Gk E nL ce sl n e pc lv (vr j2 :: vi x :: vr j :: st) Q := by
  subst hn
  intro H locs ls hP hz hS hl
  have hK := ok.2.2.2.2.2.2.1
  have hat := gw_at (B := e_B E) hj he
  have hat2 := gw_at (B := e_B E) hj2 he2
  have hin := in_of hx hi hL
  have hlt : x.toNatClampNeg < L := Nat.not_le.mp fun q => hin (Or.inr q)
  have h0 : ¬ x < 0 := fun q => hin (Or.inl q)
  obtain ⟨r', hr', cellV, g1, g2, g3, -⟩ := hP j2 _ hat2
  have hcls := (hK.1 c2 _ hc.1).2
  obtain ⟨kA, comp, k1, k2, k3, -⟩ := (hK.2 1 _ rfl).2
  have hcomp : comp = (e_D E).1 c2 := Option.some.inj (k3.symm.trans hcls.1)
  subst hcomp
  obtain ⟨kC, hkC, -⟩ := hcls.2
  refine W.aast ok.1 ok.2.1 (hP j _ hat) (fun q h => by cases h) (fun h => by cases h) k1 k2 rfl hkC ⟨h0, by show _ < (arrV _ _ _).slots.size; rw [arrV_size]; exact hlt⟩ g1 (fun q h => by rw [g3] at h; cases h) (by rw [g2]; exact hkC) (by rw [g2]; exact va_assign hcls) rfl rfl d fun H1 e1 z oq => ?_
  refine kk H1 _ ls ?_ (by rw [z]; exact hz) (hS.put z oq (gw_D.2 j _ hat)) hl
  rw [← gw_set hj]
  refine hP.set gw_D hat ?_ oq
  show H1[e_B E + j]? = some (vp_cell _ _)
  rw [e1, vp_cell_q, vp_cell_q, arrV_store, cl_of hx hi hL]
  congr 2
  funext q
  by_cases hq : q = i
  · subst hq
    simp [updV, va_up, va_rf]
  · simp [updV, va_up, hq]
theorem k_obj (ok : Eok E cc own nL fr lo) {j index : Nat} (d : decode cc pc = .ok (.invokespecial index, 3)) (hw : Cond.methodLink own index Lib.objectInit ∈ lw_tbl) (hi : Cond.instanceMethod Lib.objectInit ∈ lw_tbl) (hcd : Cond.code Lib.objectInit ⟨#[0xb1]⟩ 1 none ∈ lw_tbl) (hcat : lsz st ≤ 8) (hfr : 1 ≤ fr) (hlo : 20 ≤ lo) (hn : pc + 3 = np) (kk : Gk E nL ce sl n e np lv st Q) : Gk E nL ce sl n e pc lv (vr j :: st) Q := by
  subst hn
  intro H locs ls hP hz hS hl
  exact W.objInit ok.1 ok.2.1 ok.2.2.2.1 (ok.word hw rfl) (ok.word hi rfl) (ok.word hcd rfl) rfl (hl.1.trans ok.2.2.1.symm) rfl d (Nat.le_trans hfr ok.2.2.2.2.2.2.2.2.2.1) (by
    have h1 := ok.2.2.2.2.2.2.2.2.2.2.1
    have h2 := lsz_sum (e_B E) st
    show 2 * 0 + ((st.map (pv (e_B E))).map fun v => v.category).sum + 12 ≤ _
    rw [h2]; omega) (kk H locs ls hP hz hS hl)
end Ctor3
