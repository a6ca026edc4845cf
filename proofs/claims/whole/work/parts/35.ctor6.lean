section Ctor6
variable {E : EvT} {cc : ByteArray} {own : String} {nL fr lo ce sl n pc np : Nat} {e e' : Nat → va_E} {lv lv' : List (Nat × Pv)} {st rest : List Pv} {Q : State → Prop}
theorem k_gets0 (ok : Eok E cc "EightOnIce$Rink" nL fr lo) {t0 : Nat} (hF : Zf (e_B E) t0 (e_s E)) (d : decode cc pc = .ok (.getstatic 31, 3)) (hn : pc + 3 = np) (kk : Gk E nL ce sl n e np lv (vw t0 :: st) Q) : Gk E nL ce sl n e pc lv st Q := by
  subst hn
  exact fun H locs ls hP hz hS hl => va_getsN ok.1 ok.2.1 hF.1 hS ok.2.2.2.1 (va_Nw.use rfl hF.2.2.2.2) (fun _ h => h) d (kk H locs ls hP hz hS hl)
/-- System.arraycopy(SETTING_FIRST, 0, cell j, 0, 5) -/
theorem k_copy (ok : Eok E cc own nL fr lo) {t0 j index : Nat} (hF : Zf (e_B E) t0 (e_s E)) {f : Nat → Int32} (d : decode cc pc = .ok (.invokestatic index, 3)) (hw : Cond.methodLink own index arraycopyName ∈ lw_tbl) (hna : Cond.native arraycopyName ∈ lw_tbl) (hst : Cond.static arraycopyName ∈ lw_tbl) (hini : Cond.initialized "java/lang/System" ∈ lw_tbl) (hj : j < n) (he : e j = .inl (e_cI E, 5, .inl f)) (hcat : lsz st ≤ 8) (hfr : 1 ≤ fr) (hlo : 8 + (nativeFrameWords "java/lang/System" "arraycopy" 5 + 11) ≤ lo) (hn : pc + 3 = np) (kk : Gk E nL ce sl n (ue e j (.inl (e_cI E, 5, .inl (va_cpy sFirst f 0 0 5)))) np lv st Q) : Gk E nL ce sl n e pc lv (vi 5 :: vi 0 :: vr j :: vi 0 :: vw t0 :: st) Q := by
  subst hn
  intro H locs ls hP hz hS hl
  have hat := gw_at (B := e_B E) hj he
  intro T hT X
  obtain ⟨-, ⟨scr, hs1, hs2, hs3, hs4, -, hs5, -⟩, htB, -, -⟩ := hF
  have hB := ok.2.2.2.2.2.2.2.1
  have hc0 : H[t0]? = some scr := by rw [hS.2.1 t0 (by omega) (by omega)]; exact hs1
  have hc1 : H[e_B E + j]? = some (vp_cell (e_cI E) (5, .inl f)) := hP j _ hat
  obtain ⟨hs6, k0, hk0, cm0, hkk0⟩ := hs2
  obtain ⟨-, k1, hk1, cm1, hkk1⟩ := (ok.2.2.2.2.2.2.1.2 0 _ rfl).1 5 (fun j => .int (f j))
  have hloc := ok.2.2.2.2.2.2.2.2.2.2.1
  have hsum := lsz_sum (e_B E) st
  obtain ⟨vm', X', step⟩ := X.arraycopy ok.1 ok.2.2.2.1 (ok.word hw rfl) (ok.word hna rfl) (ok.word hst rfl) (ok.word hini rfl) (src := t0) (dst := e_B E + j) (cs := scr) (cd := vp_cell (e_cI E) (5, .inl f)) (srcPos := 0) (destPos := 0) (n := 5) (by rw [hT]; exact hc0) (by rw [hT]; exact hc1)
    hs6 (fun _ h => by cases h) hs3 (fun h => by cases h) hk0 hk1 hkk0 hkk1 (by simp [refKind]) (by decide) (by decide) (by decide)
    (by show ¬ ((0 : Int32).toInt + (5 : Int32).toInt > (scr.slots.size : Int)); have e0 : (0 : Int32).toInt = 0 := rfl; have e5 : (5 : Int32).toInt = 5 := rfl; omega)
    (by show ¬ _ > ((arrV (e_cI E) 5 (fun j => .int (f j))).slots.size : Int); rw [arrV_size]; decide)
    (fun vm₁ _ i hi => by
      have hi5 : i < 5 := hi
      have e : scr.slots.getD ((0 : Int32).toNatClampNeg + i) .null = .int (sFirst ((0 : Int32).toNatClampNeg + i)) := by
        rw [Array.getD_eq_getD_getElem?, hs5 _ (by show 0 + i < 5; omega)]
        rfl
      refine ⟨?_, ?_⟩
      · rw [e]
        rfl
      · rw [e]
        exact trivial)
    (g := F0 (e_m E) pc ls (.int 5 :: .int 0 :: .ref (e_B E + j) :: .int 0 :: .ref t0 :: st.map (pv (e_B E)))) rfl (by rw [ok.2.2.1]; exact hl.1) (rest := st.map (pv (e_B E))) rfl (by rw [ok.2.1]; exact d) (Nat.le_trans hfr ok.2.2.2.2.2.2.2.2.2.1) (by show 2 * 0 + ((st.map (pv (e_B E))).map fun v => v.category).sum + _ ≤ _; rw [hsum]; omega)
  have e1 : copied scr (vp_cell (e_cI E) (5, .inl f)) 0 0 5 = vp_cell (e_cI E) (5, .inl (va_cpy sFirst f 0 0 5)) := va_copiedX (fun z => .int z) scr (e_cI E) sFirst f (n0 := 5) hs5 (by decide)
  rw [e1] at X' step
  have hl2 : e_B E + j < H.size := (Array.getElem?_eq_some_iff.mp hc1).1
  have hheap : ((T.setVm vm').setCell (e_B E + j) (vp_cell (e_cI E) (5, .inl (va_cpy sFirst f 0 0 5)))).heap = H.setIfInBounds (e_B E + j) (vp_cell (e_cI E) (5, .inl (va_cpy sFirst f 0 0 5))) := by rw [← hT]; rfl
  have oq : ∀ q : Nat, q ≠ e_B E + j → (H.setIfInBounds (e_B E + j) (vp_cell (e_cI E) (5, .inl (va_cpy sFirst f 0 0 5))))[q]? = H[q]? := fun q hq => by simp [Array.getElem?_setIfInBounds, Ne.symm hq]
  have hP1 := hP.set gw_D hat (e := .inl (e_cI E, 5, .inl (va_cpy sFirst f 0 0 5))) (show (H.setIfInBounds (e_B E + j) _)[e_B E + j]? = some _ by simp [Array.getElem?_setIfInBounds, hl2]) oq
  rw [gw_set hj] at hP1
  obtain ⟨t, a1, b1⟩ := kk _ _ ls hP1 (by rw [Array.size_setIfInBounds]; exact hz) ⟨by simp; exact hS.1, fun q g1 g2 => by
      rw [oq q (fun e => g2 (by rw [e]; exact Nat.le_add_right _ _))]
      exact hS.2.1 q g1 g2, fun q hq => by
      rcases List.mem_append.mp hq with h | h
      · exact hS.2.2 q h
      · obtain ⟨z, -, hz⟩ := List.mem_map.mp h
        rw [← hz]
        exact Nat.le_add_right _ _⟩ hl _ hheap X'
  exact ⟨t, step t a1, b1⟩
end Ctor6
