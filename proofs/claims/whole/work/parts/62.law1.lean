theorem loop_le {L i : Nat} (hL : L ≤ 3072) (hi : i ≤ L) (h : ¬ nI L - 6 < nI i) : i + 6 ≤ L := by
  rcases Nat.lt_or_ge L 6 with q | q
  · exfalso
    apply h
    rcases (show L = 0 ∨ L = 1 ∨ L = 2 ∨ L = 3 ∨ L = 4 ∨ L = 5 by omega) with rfl | rfl | rfl | rfl | rfl | rfl <;> rcases (show i = 0 ∨ i = 1 ∨ i = 2 ∨ i = 3 ∨ i = 4 ∨ i = 5 by omega) with rfl | rfl | rfl | rfl | rfl | rfl <;> first | decide | omega
  · have e : nI L - 6 = nI (L - 6) := nv_isub (b := 6) rfl rfl q
    rw [e] at h
    rcases Nat.lt_or_ge (L - 6) i with q2 | q2
    · exact absurd (nI_lt q2 (by omega)) h
    · omega
theorem nI_any (x : Int32) : x = nI x.toBitVec.toNat := by
  apply Int32.toBitVec_inj.mp
  show x.toBitVec = BitVec.ofNat 32 x.toBitVec.toNat
  simp
theorem and63 (x : Int32) : ∃ v, v < 64 ∧ x &&& 63 = nI v := by
  refine ⟨x.toBitVec.toNat &&& 63, ?_, ?_⟩
  · have := @Nat.and_le_right x.toBitVec.toNat 63
    omega
  · rw [← fa_and]
    conv => lhs; rw [nI_any x]
    rfl
theorem law_pick {E : EvT} {b L : Nat} {xs : Nat → Int32} {T : Option Pv × HI} {I : HI} {i : Nat} {x : Int32} (h : Lw E b L xs) (hi : i + 6 ≤ L) (hR : R I I) (K : ∀ J, R J J → G E 4 T J 1211 (lvL b i) []) : G E 4 T I 33 (lvL b i) [vi (x &&& 63)] := by
  have ok := h.1
  obtain ⟨v, hv, e⟩ := and63 x
  rcases Nat.lt_or_ge 32 v with q | q
  · exact g_tabOut (tgt := 1211) ok dL_law_33 (Or.inr (by rw [e, nI_toInt (by omega)]; omega)) (by decide) (K _ hR)
  · rcases (show v = 0 ∨ v = 1 ∨ v = 2 ∨ v = 3 ∨ v = 4 ∨ v = 5 ∨ v = 6 ∨ v = 7 ∨ v = 8 ∨ v = 9 ∨ v = 10 ∨ v = 11 ∨ v = 12 ∨ v = 13 ∨ v = 14 ∨ v = 15 ∨ v = 16 ∨ v = 17 ∨ v = 18 ∨ v = 19 ∨ v = 20 ∨ v = 21 ∨ v = 22 ∨ v = 23 ∨ v = 24 ∨ v = 25 ∨ v = 26 ∨ v = 27 ∨ v = 28 ∨ v = 29 ∨ v = 30 ∨ v = 31 ∨ v = 32 by omega) with rfl | rfl | rfl | rfl | rfl | rfl | rfl | rfl | rfl | rfl | rfl | rfl | rfl | rfl | rfl | rfl | rfl | rfl | rfl | rfl | rfl | rfl | rfl | rfl | rfl | rfl | rfl | rfl | rfl | rfl | rfl | rfl | rfl
    · exact g_tabIn (off := 147) (tgt := 180) ok dL_law_33 (by rw [e]; decide) (by rw [e]; decide) (by rw [e]; rfl) (by decide) (lc_feed h hi hR K)
    · exact g_tabIn (off := 170) (tgt := 203) ok dL_law_33 (by rw [e]; decide) (by rw [e]; decide) (by rw [e]; rfl) (by decide) (lc_rink h hi hR K)
    · exact g_tabIn (off := 183) (tgt := 216) ok dL_law_33 (by rw [e]; decide) (by rw [e]; decide) (by rw [e]; rfl) (by decide) (lc_ice h hi hR K)
    · exact g_tabIn (off := 226) (tgt := 259) ok dL_law_33 (by rw [e]; decide) (by rw [e]; decide) (by rw [e]; rfl) (by decide) (lc_lay h hi hR K)
    · exact g_tabIn (off := 279) (tgt := 312) ok dL_law_33 (by rw [e]; decide) (by rw [e]; decide) (by rw [e]; rfl) (by decide) (lc_set h hi hR K)
    · exact g_tabIn (off := 312) (tgt := 345) ok dL_law_33 (by rw [e]; decide) (by rw [e]; decide) (by rw [e]; rfl) (by decide) (lc_skater h hi hR K)
    · exact g_tabIn (off := 345) (tgt := 378) ok dL_law_33 (by rw [e]; decide) (by rw [e]; decide) (by rw [e]; rfl) (by decide) (lc_draw h hi hR K)
    · exact g_tabIn (off := 388) (tgt := 421) ok dL_law_33 (by rw [e]; decide) (by rw [e]; decide) (by rw [e]; rfl) (by decide) (lc_sweep h hi hR K)
    · exact g_tabIn (off := 401) (tgt := 434) ok dL_law_33 (by rw [e]; decide) (by rw [e]; decide) (by rw [e]; rfl) (by decide) (lc_trace h hi hR K)
    · exact g_tabIn (off := 434) (tgt := 467) ok dL_law_33 (by rw [e]; decide) (by rw [e]; decide) (by rw [e]; rfl) (by decide) (lc_of h hi hR K)
    · exact g_tabIn (off := 467) (tgt := 500) ok dL_law_33 (by rw [e]; decide) (by rw [e]; decide) (by rw [e]; rfl) (by decide) (lc_mean h hi hR K)
    · exact g_tabIn (off := 501) (tgt := 534) ok dL_law_33 (by rw [e]; decide) (by rw [e]; decide) (by rw [e]; rfl) (by decide) (lc_close h hi hR K)
    · exact g_tabIn (off := 534) (tgt := 567) ok dL_law_33 (by rw [e]; decide) (by rw [e]; decide) (by rw [e]; rfl) (by decide) (lc_spread h hi hR K)
    · exact g_tabIn (off := 557) (tgt := 590) ok dL_law_33 (by rw [e]; decide) (by rw [e]; decide) (by rw [e]; rfl) (by decide) (lc_next h hi hR K)
    · exact g_tabIn (off := 610) (tgt := 643) ok dL_law_33 (by rw [e]; decide) (by rw [e]; decide) (by rw [e]; rfl) (by decide) (lc_grows h hi hR K)
    · exact g_tabIn (off := 673) (tgt := 706) ok dL_law_33 (by rw [e]; decide) (by rw [e]; decide) (by rw [e]; rfl) (by decide) (lc_calm h hi hR K)
    · exact g_tabIn (off := 726) (tgt := 759) ok dL_law_33 (by rw [e]; decide) (by rw [e]; decide) (by rw [e]; rfl) (by decide) (lc_closes h hi hR K)
    · exact g_tabIn (off := 749) (tgt := 782) ok dL_law_33 (by rw [e]; decide) (by rw [e]; decide) (by rw [e]; rfl) (by decide) (lc_correct h hi hR K)
    · exact g_tabIn (off := 792) (tgt := 825) ok dL_law_33 (by rw [e]; decide) (by rw [e]; decide) (by rw [e]; rfl) (by decide) (lc_from h hi hR K)
    · exact g_tabIn (off := 836) (tgt := 869) ok dL_law_33 (by rw [e]; decide) (by rw [e]; decide) (by rw [e]; rfl) (by decide) (lc_whose h hi hR K)
    · exact g_tabIn (off := 869) (tgt := 902) ok dL_law_33 (by rw [e]; decide) (by rw [e]; decide) (by rw [e]; rfl) (by decide) (lc_mark h hi hR K)
    · exact g_tabIn (off := 902) (tgt := 935) ok dL_law_33 (by rw [e]; decide) (by rw [e]; decide) (by rw [e]; rfl) (by decide) (lc_fits h hi hR K)
    · exact g_tabIn (off := 915) (tgt := 948) ok dL_law_33 (by rw [e]; decide) (by rw [e]; decide) (by rw [e]; rfl) (by decide) (lc_fewest h hi hR K)
    · exact g_tabIn (off := 938) (tgt := 971) ok dL_law_33 (by rw [e]; decide) (by rw [e]; decide) (by rw [e]; rfl) (by decide) (lc_hours h hi hR K)
    · exact g_tabIn (off := 971) (tgt := 1004) ok dL_law_33 (by rw [e]; decide) (by rw [e]; decide) (by rw [e]; rfl) (by decide) (lc_won h hi hR K)
    · exact g_tabIn (off := 994) (tgt := 1027) ok dL_law_33 (by rw [e]; decide) (by rw [e]; decide) (by rw [e]; rfl) (by decide) (lc_lot h hi hR K)
    · exact g_tabIn (off := 1027) (tgt := 1060) ok dL_law_33 (by rw [e]; decide) (by rw [e]; decide) (by rw [e]; rfl) (by decide) (lc_row h hi hR K)
    · exact g_tabIn (off := 1050) (tgt := 1083) ok dL_law_33 (by rw [e]; decide) (by rw [e]; decide) (by rw [e]; rfl) (by decide) (lc_judge h hi hR K)
    · exact g_tabIn (off := 1073) (tgt := 1106) ok dL_law_33 (by rw [e]; decide) (by rw [e]; decide) (by rw [e]; rfl) (by decide) (lc_clear h hi hR K)
    · exact g_tabIn (off := 1086) (tgt := 1119) ok dL_law_33 (by rw [e]; decide) (by rw [e]; decide) (by rw [e]; rfl) (by decide) (lc_seeds h hi hR K)
    · exact g_tabIn (off := 1129) (tgt := 1162) ok dL_law_33 (by rw [e]; decide) (by rw [e]; decide) (by rw [e]; rfl) (by decide) (lc_image h hi hR K)
    · exact g_tabIn (off := 1142) (tgt := 1175) ok dL_law_33 (by rw [e]; decide) (by rw [e]; decide) (by rw [e]; rfl) (by decide) (lc_restore h hi hR K)
    · exact g_tabIn (off := 1155) (tgt := 1188) ok dL_law_33 (by rw [e]; decide) (by rw [e]; decide) (by rw [e]; rfl) (by decide) (lc_count h hi hR K)
theorem law_loop {E : EvT} {b L : Nat} {xs : Nat → Int32} {T : Option Pv × HI} (h : Lw E b L xs) (hend : ∀ I lv, G E 4 T I 1217 lv []) : ∀ (n i : Nat) (I : HI), L ≤ i + 6 * n → i ≤ L → R I I → G E 4 T I 18 (lvL b i) [] := by
  have ok := h.1
  have hL := h.2.2.2.2
  intro n
  induction n with
  | zero =>
    intro i I h1 h2 hR
    refine g_iload_n (n := 19) ok 0 dL_law_18 rfl rfl rfl ?_
    refine g_aload_n (n := 20) ok 3 dL_law_19 rfl rfl rfl ?_
    refine g_slen (n := 21) h dL_law_20 rfl ?_
    refine g_bipush (n := 23) (v := 6) ok dL_law_21 rfl rfl ?_
    refine g_isub (n := 24) ok dL_law_23 rfl ?_
    refine g_icmp_gt (n := 27) (tgt := 1217) ok dL_law_24 (by decide) rfl (fun _ => hend _ _) (fun q => ?_)
    have := loop_le hL h2 q
    omega
  | succ n ih =>
    intro i I h1 h2 hR
    refine g_iload_n (n := 19) ok 0 dL_law_18 rfl rfl rfl ?_
    refine g_aload_n (n := 20) ok 3 dL_law_19 rfl rfl rfl ?_
    refine g_slen (n := 21) h dL_law_20 rfl ?_
    refine g_bipush (n := 23) (v := 6) ok dL_law_21 rfl rfl ?_
    refine g_isub (n := 24) ok dL_law_23 rfl ?_
    refine g_icmp_gt (n := 27) (tgt := 1217) ok dL_law_24 (by decide) rfl (fun _ => hend _ _) (fun q => ?_)
    have h6 := loop_le hL h2 q
    refine g_aload_n (n := 28) ok 3 dL_law_27 rfl rfl rfl ?_
    refine g_iload_n (n := 29) ok 0 dL_law_28 rfl rfl rfl ?_
    refine g_sld (n := 30) h dL_law_29 rfl (by omega) rfl ?_
    refine g_bipush (n := 32) (v := 63) ok dL_law_30 rfl rfl ?_
    refine g_iand (n := 33) ok dL_law_32 rfl ?_
    refine law_pick h h6 hR (fun J hJ => ?_)
    refine g_iinc (n := 1214) (v := nI (i + 6)) (lv' := lvL b (i + 6)) ok 0 dL_law_1211 rfl (nI_add i 6) (by decide) rfl rfl ?_
    refine g_goto (tgt := 18) ok dL_law_1214 (by decide) ?_
    exact ih (i + 6) J (by omega) (by omega) hJ
