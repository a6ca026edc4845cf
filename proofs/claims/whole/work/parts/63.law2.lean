section LawK
variable {E : EvT} {cc : ByteArray} {own : String} {nL fr lo ce sl n pc np : Nat} {e : Nat → va_E} {lv lv' : List (Nat × Pv)} {st : List Pv} {Q : State → Prop}
theorem k_astore_n (ok : Eok E cc own nL fr lo) {k : Fin 4} {i : Nat} {x : Option Nat ⊕ Nat} (d : decode cc pc = .ok (.astore_n k, 1)) (hi : (k : Nat) = i) (hi2 : i < nL) (hv : (i, .inr (.inr x)) :: lv.filter (fun q => !(q.1 == i) && !(q.1 + 1 == i && isL q.2)) = lv') (hn : pc + 1 = np) (kk : Gk E nL ce sl n e np lv' st Q) : Gk E nL ce sl n e pc lv (.inr (.inr x) :: st) Q := by
  subst hn
  rcases x with (_ | x) | x
  · exact fun H locs ls hP hz hS hl => lv_astore_nN ok.1 ok.2.1 d hi hl hi2 (lvm_store (ls := ls) hv) (fun ls' hl' => kk H locs ls' hP hz hS hl')
  · exact fun H locs ls hP hz hS hl => lv_astore_n ok.1 ok.2.1 d hi hl hi2 (lvm_store (ls := ls) hv) (fun ls' hl' => kk H locs ls' hP hz hS hl')
  · exact fun H locs ls hP hz hS hl => lv_astore_n ok.1 ok.2.1 d hi hl hi2 (lvm_store (ls := ls) hv) (fun ls' hl' => kk H locs ls' hP hz hS hl')
end LawK
theorem start_K {s : State} {b : Nat} (hts : ∀ w ∈ lw_tbl, w.before #[Value.ref b] s = true) : ∃ (D : va_G) (cI cT : ClassId), va_K D vwCl (tys2 cI cT) s := by
  have hg : ∀ w ∈ wG, w.before #[Value.ref b] s = true := fun w hw => hts w (List.mem_filter.mp hw).1
  obtain ⟨c0, i0, k0⟩ := u_known hg clsX0.2.1 (hts _ q132)
  obtain ⟨c1, i1, k1⟩ := u_known hg clsX1.2.1 (hts _ q114)
  obtain ⟨c2, i2, k2⟩ := u_known hg clsX2.2.1 (hts _ q101)
  obtain ⟨c3, i3, k3⟩ := u_known hg clsX3.2.1 (hts _ q20)
  obtain ⟨c4, i4, k4⟩ := u_known hg clsX4.2.1 (hts _ q32)
  obtain ⟨c5, i5, k5⟩ := u_known hg clsX5.2.1 (hts _ q12)
  obtain ⟨c6, i6, k6⟩ := u_known hg clsX6.2.1 (hts _ q673)
  obtain ⟨cI, kI, comp, f1, f2, f3⟩ := Cond.arrayClass_spec (hts _ q60)
  obtain ⟨comp2, cT, kT, g1, -, g2, g3, g4⟩ := Cond.arrayOver_spec (hts _ q26)
  refine ⟨(fun c => match c with | 0 => c0 | 1 => c1 | 2 => c2 | 3 => c3 | 4 => c4 | 5 => c5 | _ => c6, fun c => match c with | 0 => i0 | 1 => i1 | 2 => i2 | 3 => i3 | 4 => i4 | 5 => i5 | _ => i6), cI, cT, fun c q hq => ?_, fun k q hq => ?_⟩
  · have hc : c < 7 := (List.getElem?_eq_some_iff.mp hq).1
    rcases (show c = 0 ∨ c = 1 ∨ c = 2 ∨ c = 3 ∨ c = 4 ∨ c = 5 ∨ c = 6 by omega) with rfl | rfl | rfl | rfl | rfl | rfl | rfl <;> cases hq <;> assumption
  · have hk : k < 2 := (List.getElem?_eq_some_iff.mp hq).1
    rcases (show k = 0 ∨ k = 1 by omega) with rfl | rfl
    · cases hq
      exact ⟨fun n z => ⟨fun k h => (by cases h), kI, f2, comp, f3⟩, f1⟩
    · cases hq
      exact ⟨fun n z => ⟨fun k h => (by cases h), kT, g2, comp2, g3⟩, kT, comp2, g2, g3, g1, g4⟩
theorem start_T {s : State} {args : Array Value} {C n : String} {q : Cond} {f : Nat → Int32} (hl : (Cond.laysStatic C n "[I").before args s = true) (hini : (Cond.initialized C).before args s = true) (ha : (Cond.arrayOf (.static C n "[I") .int).before args s = true) (hn : (Cond.eq (.length (.static C n "[I")) (.int 5)).before args s = true) (h0 : (Cond.eq (.elem (.static C n "[I") (.int 0)) (.int (f 0))).before args s = true) (h1 : (Cond.eq (.elem (.static C n "[I") (.int 1)) (.int (f 1))).before args s = true) (h2 : (Cond.eq (.elem (.static C n "[I") (.int 2)) (.int (f 2))).before args s = true) (h3 : (Cond.eq (.elem (.static C n "[I") (.int 3)) (.int (f 3))).before args s = true) (h4 : (Cond.eq (.elem (.static C n "[I") (.int 4)) (.int (f 4))).before args s = true) : ∃ t : Nat, va_Z C n "[I" (.ref t) (fun q => s.heap.size ≤ q) s s.heap ∧ va_T .int t 5 (fun j => .int (f j)) (fun q => s.heap.size ≤ q) s s.heap := by
  obtain ⟨t, e1, e2⟩ := va_Tof (N := 5) (f := fun j => .int (f j)) (A := fun q => s.heap.size ≤ q) (by decide) ha (va_eqt hn) (fun j hj => by
    rcases (show j = 0 ∨ j = 1 ∨ j = 2 ∨ j = 3 ∨ j = 4 by omega) with rfl | rfl | rfl | rfl | rfl
    · exact va_eqt h0
    · exact va_eqt h1
    · exact va_eqt h2
    · exact va_eqt h3
    · exact va_eqt h4) (fun a h => by omega)
  exact ⟨t, va_Zref hl hini e1 (fun a h => by omega), e2⟩
theorem start_Z {s : State} {b : Nat} (hts : ∀ w ∈ lw_tbl, w.before #[Value.ref b] s = true) (hgv : (Jvm.Cond.and given_1 narrow_1).before #[Value.ref b] s = true) : ∃ t0 t1 t2 : Nat, Zt s.heap.size t1 t2 s ∧ Zf s.heap.size t0 s ∧ Nx s := by
  have hs := flat_of_before _ hgv
  obtain ⟨t0, a1, a2⟩ := start_T (q := .returned) (f := sFirst) (hts _ q28) (hts _ q1) (hs _ (by decide +kernel)) (hs _ (by decide +kernel)) (hs _ (by decide +kernel)) (hs _ (by decide +kernel)) (hs _ (by decide +kernel)) (hs _ (by decide +kernel)) (hs _ (by decide +kernel))
  obtain ⟨t1, b1, b2⟩ := start_T (q := .returned) (f := sLeast) (hts _ q257) (hts _ q1) (hs _ (by decide +kernel)) (hs _ (by decide +kernel)) (hs _ (by decide +kernel)) (hs _ (by decide +kernel)) (hs _ (by decide +kernel)) (hs _ (by decide +kernel)) (hs _ (by decide +kernel))
  obtain ⟨t2, c1, c2⟩ := start_T (q := .returned) (f := sMost) (hts _ q259) (hts _ q1) (hs _ (by decide +kernel)) (hs _ (by decide +kernel)) (hs _ (by decide +kernel)) (hs _ (by decide +kernel)) (hs _ (by decide +kernel)) (hs _ (by decide +kernel)) (hs _ (by decide +kernel))
  refine ⟨t0, t1, t2, ⟨b1, b2, c1, c2⟩, ⟨a1, a2, ?_, va_AO.of (hts _ q26), va_Nw.of rfl (hts _ q27)⟩, fun w hw hn => ?_⟩
  · obtain ⟨_, h1, _⟩ := a2
    exact (Array.getElem?_eq_some_iff.mp h1).1
  · cases w <;> first | exact va_Nw.of rfl (hts _ hw) | (cases hn)
