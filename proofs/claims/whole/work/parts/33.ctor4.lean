section Ctor4
variable {E : EvT} {cc : ByteArray} {own : String} {nL fr lo ce sl n pc np : Nat} {e e' : Nat → va_E} {lv lv' : List (Nat × Pv)} {st rest : List Pv} {Q : State → Prop}
theorem k_ret (ok : Eok E cc own nL fr lo) (hr : (e_me E).sig.returnType = none) (hk : (e_me E).locks = false) (d : decode cc pc = .ok (.return_, 1)) : Gk E nL ce sl n e pc lv [] (MQ (e_b E) (Qc (e_D E) (e_B E) n e) (e_a E) (e_s E) ce sl (fun q => e_B E ≤ q)) := by
  intro H locs ls hP hz hS hl
  exact W.vret ok.1 ok.2.1 hr (fun t ht _ => ⟨⟨rfl, by rw [ht]; exact hP, by rw [ht]; exact hz⟩, hS.F ht⟩) hS.2.2 d hk
theorem Ck.mk {y : MethodName} {maxL dc ds n' : Nat} {av : List Pv} {e e' : EV} {lv : List (Nat × Pv)} (hy : plainName y.cls = true) (hn : lsz av ≤ maxL) (hlv : largs 0 av = lv)
    (h : ∀ (E : EvT) (t0 : Nat), Eok E cc y.cls maxL fr lo → (e_me E).sig.returnType = none → (e_me E).locks = false → (e_me E).name = y.name → Zf (e_B E) t0 (e_s E) → dc ≤ (e_R E).cells → ds ≤ (e_R E).slots → Gk E maxL 0 0 n (e (e_B E) (e_cI E) (e_cT E)) 0 lv [] (MQ (e_b E) (Qc (e_D E) (e_B E) n' (e' (e_B E) (e_cI E) (e_cT E))) (e_a E) (e_s E) dc ds (fun q => e_B E ≤ q))) : Ck y cc maxL fr lo av dc ds n e n' e' := by
  intro l D cI cT B t0 t1 t2
  refine Met.ofW (cc := cc) (maxL := maxL) (ret := none) hy rfl ?_
  intro p ee s m args below meth c s₁ Bd hml hv
  obtain ⟨rfl, hP, hK, hB, hZ, hN, hF⟩ := hv
  subst hlv
  have hts := atoms_spec (ws := Cond.code y cc maxL none :: wG) Bd.pre
  have hl := lv_entry (av.map (pv B)) (n := maxL) (by rw [lsz_len]; exact hn)
  rw [lg_entry_eq]
  rw [largs_ok B 0 av] at hl
  exact h (p, l, ee, _, s, m, (av.map (pv B)).toArray, below, meth, c, D, cI, cT, B, t1, t2, 0, 0, fun _ _ => True) t0 ⟨Bd.exec, Bd.bytes, hml, findClass_of_methodNamed Bd.named, fun w hw => hts w (List.mem_cons_of_mem _ hw), hN, hK, (by show B ≤ s.heap.size; omega), hZ, Nat.le_refl _, Nat.le_refl _, Nat.zero_le _, Nat.zero_le _⟩ Bd.returns Bd.notSynchronized (name_of_methodNamed Bd.named Bd.method).1 hF (Nat.le_refl _) (Nat.le_refl _) s.heap [] _ hP hB va_S.rf hl
theorem Wc.blind (D : va_G) (cI cT : ClassId) (B t0 t1 t2 n : Nat) (e : Nat → va_E) (av : List Value) : FrameBlind (va_Pc av (Wc D cI cT B t0 t1 t2 n e)) := fun a U g mk q => by
  obtain ⟨q0, q1, q2, q3, q4, q5, q6⟩ := q
  refine ⟨q0, q1, va_K.moved (u := U) (U := U.calling g mk a) (Vm.Alike.refl U.vm) q2, q3, Zt.at (u := U) (U := U.calling g mk a) (Vm.Alike.refl U.vm) (fun _ _ _ => rfl) q4, fun w hw hn => ?_, ?_⟩
  · have h1 := q5 w hw hn
    cases w <;> first | exact va_Nw.same rfl rfl h1 | (cases hn)
  · obtain ⟨f1, f2, f3, f4, f5⟩ := q6
    refine ⟨va_Z.at (u := U) (U := U.calling g mk a) (Vm.Alike.refl U.vm) (fun _ _ _ => rfl) f1, ?_, f3, va_AO.moved (u := U) (U := U.calling g mk a) (Vm.Alike.refl U.vm) f4, va_Nw.same rfl rfl f5⟩
    obtain ⟨scr, h1, h2, h3⟩ := f2
    exact ⟨scr, h1, State.isArrayOf_alike (Vm.Alike.refl U.vm) h2, h3⟩
end Ctor4
